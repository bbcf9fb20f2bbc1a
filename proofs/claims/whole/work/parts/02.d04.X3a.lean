set_option maxRecDepth 20000 in
theorem ggX3_init_X0_init : GoodIn wsX3_init wsX0_init := goodIn_r _ [28, 29, 2, 3, 18, 30, 31, 32, 33, 34, 35, 36, 37, 45, 46, 47, 48, 49, 50, 51, 52, 53, 54, 55] (by decide +kernel) (by decide +kernel)
set_option maxRecDepth 20000 in
theorem gX3_init_X0_init : GoodIn wsX3_init (wsX0_init) := ggX3_init_X0_init
set_option maxRecDepth 20000 in
theorem ggX3_init_X1_init : GoodIn wsX3_init wsX1_init := goodIn_r _ [39, 40, 2, 3, 18, 41, 68, 69] (by decide +kernel) (by decide +kernel)
set_option maxRecDepth 20000 in
theorem gX3_init_X1_init_n24 : GoodIn wsX3_init (wsX1_init) := ggX3_init_X1_init
set_option maxRecDepth 20000 in
theorem ggX3_init_X2_init : GoodIn wsX3_init wsX2_init := goodIn_r _ [43, 44, 2, 3] (by decide +kernel) (by decide +kernel)
set_option maxRecDepth 20000 in
theorem gX3_init_X2_init_n31 : GoodIn wsX3_init (wsX2_init) := ggX3_init_X2_init
theorem dX3_init_0 : decode cX3_init 0 = .ok (.aload_n 0, 1) := by decide +kernel
theorem dX3_init_1 : decode cX3_init 1 = .ok (.invokespecial 1, 3) := by decide +kernel
theorem dX3_init_4 : decode cX3_init 4 = .ok (.aload_n 0, 1) := by decide +kernel
theorem dX3_init_5 : decode cX3_init 5 = .ok (.new 7, 3) := by decide +kernel
theorem dX3_init_8 : decode cX3_init 8 = .ok (.dup, 1) := by decide +kernel
theorem dX3_init_9 : decode cX3_init 9 = .ok (.invokespecial 9, 3) := by decide +kernel
theorem dX3_init_12 : decode cX3_init 12 = .ok (.putfield 10, 3) := by decide +kernel
theorem dX3_init_15 : decode cX3_init 15 = .ok (.aload_n 0, 1) := by decide +kernel
theorem dX3_init_16 : decode cX3_init 16 = .ok (.new 7, 3) := by decide +kernel
theorem dX3_init_19 : decode cX3_init 19 = .ok (.dup, 1) := by decide +kernel
theorem dX3_init_20 : decode cX3_init 20 = .ok (.invokespecial 9, 3) := by decide +kernel
theorem dX3_init_23 : decode cX3_init 23 = .ok (.putfield 16, 3) := by decide +kernel
theorem dX3_init_26 : decode cX3_init 26 = .ok (.aload_n 0, 1) := by decide +kernel
theorem dX3_init_27 : decode cX3_init 27 = .ok (.new 7, 3) := by decide +kernel
theorem dX3_init_30 : decode cX3_init 30 = .ok (.dup, 1) := by decide +kernel
theorem dX3_init_31 : decode cX3_init 31 = .ok (.invokespecial 9, 3) := by decide +kernel
theorem dX3_init_34 : decode cX3_init 34 = .ok (.putfield 19, 3) := by decide +kernel
theorem dX3_init_37 : decode cX3_init 37 = .ok (.aload_n 0, 1) := by decide +kernel
theorem dX3_init_38 : decode cX3_init 38 = .ok (.new 22, 3) := by decide +kernel
theorem dX3_init_41 : decode cX3_init 41 = .ok (.dup, 1) := by decide +kernel
theorem dX3_init_42 : decode cX3_init 42 = .ok (.invokespecial 24, 3) := by decide +kernel
theorem dX3_init_45 : decode cX3_init 45 = .ok (.putfield 25, 3) := by decide +kernel
theorem dX3_init_48 : decode cX3_init 48 = .ok (.aload_n 0, 1) := by decide +kernel
theorem dX3_init_49 : decode cX3_init 49 = .ok (.new 29, 3) := by decide +kernel
theorem dX3_init_52 : decode cX3_init 52 = .ok (.dup, 1) := by decide +kernel
theorem dX3_init_53 : decode cX3_init 53 = .ok (.invokespecial 31, 3) := by decide +kernel
theorem dX3_init_56 : decode cX3_init 56 = .ok (.putfield 32, 3) := by decide +kernel
theorem dX3_init_59 : decode cX3_init 59 = .ok (.aload_n 0, 1) := by decide +kernel
theorem dX3_init_60 : decode cX3_init 60 = .ok (.bipush 16, 2) := by decide +kernel
theorem dX3_init_62 : decode cX3_init 62 = .ok (.newarray .int, 2) := by decide +kernel
theorem dX3_init_64 : decode cX3_init 64 = .ok (.putfield 36, 3) := by decide +kernel
theorem dX3_init_67 : decode cX3_init 67 = .ok (.aload_n 0, 1) := by decide +kernel
theorem dX3_init_68 : decode cX3_init 68 = .ok (.bipush 7, 2) := by decide +kernel
theorem dX3_init_70 : decode cX3_init 70 = .ok (.newarray .int, 2) := by decide +kernel
theorem dX3_init_72 : decode cX3_init 72 = .ok (.putfield 40, 3) := by decide +kernel
theorem dX3_init_75 : decode cX3_init 75 = .ok (.aload_n 0, 1) := by decide +kernel
theorem dX3_init_76 : decode cX3_init 76 = .ok (.bipush 10, 2) := by decide +kernel
theorem dX3_init_78 : decode cX3_init 78 = .ok (.newarray .int, 2) := by decide +kernel
theorem dX3_init_80 : decode cX3_init 80 = .ok (.putfield 43, 3) := by decide +kernel
theorem dX3_init_83 : decode cX3_init 83 = .ok (.aload_n 0, 1) := by decide +kernel
theorem dX3_init_84 : decode cX3_init 84 = .ok (.bipush 8, 2) := by decide +kernel
theorem dX3_init_86 : decode cX3_init 86 = .ok (.newarray .long, 2) := by decide +kernel
theorem dX3_init_88 : decode cX3_init 88 = .ok (.putfield 46, 3) := by decide +kernel
theorem dX3_init_91 : decode cX3_init 91 = .ok (.aload_n 0, 1) := by decide +kernel
theorem dX3_init_92 : decode cX3_init 92 = .ok (.iconst 2, 1) := by decide +kernel
theorem dX3_init_93 : decode cX3_init 93 = .ok (.iconst 2, 1) := by decide +kernel
theorem dX3_init_94 : decode cX3_init 94 = .ok (.multianewarray 50 2, 4) := by decide +kernel
theorem dX3_init_98 : decode cX3_init 98 = .ok (.putfield 52, 3) := by decide +kernel
theorem dX3_init_101 : decode cX3_init 101 = .ok (.return_, 1) := by decide +kernel
set_option maxRecDepth 20000 in
theorem ggX3_letter_X3_refuse : GoodIn wsX3_letter wsX3_refuse := goodIn_r _ [6, 7, 20, 21, 22, 23, 24, 25, 26, 27, 28, 29, 30, 31] (by decide +kernel) (by decide +kernel)
set_option maxRecDepth 20000 in
theorem gX3_letter_X3_refuse : GoodIn wsX3_letter (wsV RX3 55 RX3 yX3_refuse wsX3_refuse) := goodIn_app (goodIn_of _ (by decide +kernel)) ggX3_letter_X3_refuse
set_option maxRecDepth 20000 in
theorem ggX3_letter_X1_isFull : GoodIn wsX3_letter wsX1_isFull := goodIn_r _ [12, 13, 32, 33] (by decide +kernel) (by decide +kernel)
set_option maxRecDepth 20000 in
theorem gX3_letter_X1_isFull : GoodIn wsX3_letter (wsV RX3 59 RX1 yX1_isFull wsX1_isFull) := goodIn_app (goodIn_of _ (by decide +kernel)) ggX3_letter_X1_isFull
set_option maxRecDepth 20000 in
theorem ggX3_letter_X1_add : GoodIn wsX3_letter wsX1_add := goodIn_r _ [17, 18, 13, 19, 9, 10, 11, 12, 32, 33] (by decide +kernel) (by decide +kernel)
set_option maxRecDepth 20000 in
theorem gX3_letter_X1_add : GoodIn wsX3_letter (wsV RX3 63 RX1 yX1_add wsX1_add) := goodIn_app (goodIn_of _ (by decide +kernel)) ggX3_letter_X1_add
theorem dX3_letter_0 : decode cX3_letter 0 = .ok (.iload_n 1, 1) := by decide +kernel
theorem dX3_letter_1 : decode cX3_letter 1 = .ok (.ifCond .ge 10, 3) := by decide +kernel
theorem dX3_letter_4 : decode cX3_letter 4 = .ok (.aload_n 0, 1) := by decide +kernel
theorem dX3_letter_5 : decode cX3_letter 5 = .ok (.bipush (-4), 2) := by decide +kernel
theorem dX3_letter_7 : decode cX3_letter 7 = .ok (.invokevirtual 55, 3) := by decide +kernel
theorem dX3_letter_10 : decode cX3_letter 10 = .ok (.ireturn, 1) := by decide +kernel
theorem dX3_letter_11 : decode cX3_letter 11 = .ok (.iload_n 1, 1) := by decide +kernel
theorem dX3_letter_12 : decode cX3_letter 12 = .ok (.sipush 255, 3) := by decide +kernel
theorem dX3_letter_15 : decode cX3_letter 15 = .ok (.if_icmp .gt 13, 3) := by decide +kernel
theorem dX3_letter_18 : decode cX3_letter 18 = .ok (.aload_n 0, 1) := by decide +kernel
theorem dX3_letter_19 : decode cX3_letter 19 = .ok (.getfield 25, 3) := by decide +kernel
theorem dX3_letter_22 : decode cX3_letter 22 = .ok (.invokevirtual 59, 3) := by decide +kernel
theorem dX3_letter_25 : decode cX3_letter 25 = .ok (.ifCond .eq 10, 3) := by decide +kernel
theorem dX3_letter_28 : decode cX3_letter 28 = .ok (.aload_n 0, 1) := by decide +kernel
theorem dX3_letter_29 : decode cX3_letter 29 = .ok (.bipush (-6), 2) := by decide +kernel
theorem dX3_letter_31 : decode cX3_letter 31 = .ok (.invokevirtual 55, 3) := by decide +kernel
theorem dX3_letter_34 : decode cX3_letter 34 = .ok (.ireturn, 1) := by decide +kernel
theorem dX3_letter_35 : decode cX3_letter 35 = .ok (.aload_n 0, 1) := by decide +kernel
theorem dX3_letter_36 : decode cX3_letter 36 = .ok (.getfield 25, 3) := by decide +kernel
theorem dX3_letter_39 : decode cX3_letter 39 = .ok (.iload_n 1, 1) := by decide +kernel
theorem dX3_letter_40 : decode cX3_letter 40 = .ok (.invokevirtual 63, 3) := by decide +kernel
theorem dX3_letter_43 : decode cX3_letter 43 = .ok (.ireturn, 1) := by decide +kernel
set_option maxRecDepth 20000 in
theorem ggX3_land_X3_inMind : GoodIn wsX3_land wsX3_inMind := goodIn_r _ [7, 8, 2, 9, 10, 11, 12, 13, 14, 15, 16, 17, 18, 19, 20, 21, 22, 23, 24, 25, 26, 27, 28, 256, 257, 258, 259, 260, 261, 262, 263, 264, 265, 266, 267, 268, 269, 270, 271, 272, 273, 274, 275, 276, 277, 278] (by decide +kernel) (by decide +kernel)
set_option maxRecDepth 20000 in
theorem gX3_land_X3_inMind : GoodIn wsX3_land (wsV RX3 66 RX3 yX3_inMind wsX3_inMind) := goodIn_app (goodIn_of _ (by decide +kernel)) ggX3_land_X3_inMind
set_option maxRecDepth 20000 in
theorem ggX3_land_X1_firstMisfit : GoodIn wsX3_land wsX1_firstMisfit := goodIn_r _ [33, 34, 35, 36, 37, 38, 32, 39, 40, 41, 42, 43, 44, 45, 46, 47, 48, 49, 50, 51, 52, 53, 54, 55, 56, 57, 58, 59, 60, 61, 62, 63, 64, 65, 66, 67, 68, 69, 70, 71, 72, 73, 74, 75, 76, 77, 78, 79, 80, 81, 82, 83, 84, 85, 86, 87, 88, 89, 90, 91, 92, 93, 94, 95, 96, 97, 98, 99, 100, 101, 102, 103, 104, 105, 106, 107, 108, 109, 110, 111, 112, 113, 114, 115, 116, 117, 118, 119, 120, 121, 122, 123, 124, 125, 126, 127, 128, 129, 130, 131, 132, 133, 134, 135, 136, 137, 138, 139, 140, 141, 142, 143, 144, 145, 146, 147, 148, 149, 150, 151, 152, 153, 154, 155, 156, 157, 158, 159, 160, 161, 162, 163, 164, 165, 6, 166, 279, 280] (by decide +kernel) (by decide +kernel)
set_option maxRecDepth 20000 in
theorem gX3_land_X1_firstMisfit : GoodIn wsX3_land (wsV RX3 70 RX1 yX1_firstMisfit wsX1_firstMisfit) := goodIn_app (goodIn_of _ (by decide +kernel)) ggX3_land_X1_firstMisfit
set_option maxRecDepth 20000 in
theorem ggX3_land_X1_firstWrongFor : GoodIn wsX3_land wsX1_firstWrongFor := goodIn_r _ [170, 34, 35, 171, 172, 173, 32, 174, 175, 176, 177, 178, 161, 162, 163, 164, 179, 180, 181, 182, 6, 183, 184, 165, 166, 185, 186, 187, 12, 188, 14, 19, 189, 113, 114, 115, 96, 97, 98, 99, 100, 101, 102, 46, 103, 104, 105, 106, 107, 48, 63, 64, 65, 66, 57, 58, 108, 50, 51, 52, 53, 54, 55, 56, 109, 110, 69, 111, 112, 116, 117, 118, 119, 120, 121, 122, 123, 124, 125, 126, 81, 127, 128, 129, 130, 131, 132, 133, 134, 135, 136, 86, 87, 88, 137, 138, 139, 74, 140, 141, 77, 142, 143, 144, 145, 90, 91, 92, 93, 94, 95, 146, 147, 148, 149, 150, 151, 152, 153, 154, 155, 156, 157, 158, 159, 160, 190, 191, 192, 193, 194, 195, 196, 197, 198, 199, 20, 25, 21, 22, 200, 201, 202, 203, 204, 205, 206, 207, 208, 23, 24, 209, 210, 211, 212, 213, 214, 215, 216, 217, 218, 219, 220, 221, 222, 223, 26, 224, 225, 226, 227, 228, 229, 230, 231, 232, 233, 234, 235, 236, 28, 237, 238, 239, 240, 241, 242, 243, 244, 245, 246, 247, 279, 280, 268, 269, 270, 271, 272, 273, 274, 275, 276, 277, 278] (by decide +kernel) (by decide +kernel)
set_option maxRecDepth 20000 in
theorem gX3_land_X1_firstWrongFor : GoodIn wsX3_land (wsV RX3 74 RX1 yX1_firstWrongFor wsX1_firstWrongFor) := goodIn_app (goodIn_of _ (by decide +kernel)) ggX3_land_X1_firstWrongFor
set_option maxRecDepth 20000 in
theorem ggX3_land_X1_statements : GoodIn wsX3_land wsX1_statements := goodIn_r _ [251, 34, 35, 279, 280] (by decide +kernel) (by decide +kernel)
set_option maxRecDepth 20000 in
theorem gX3_land_X1_statements : GoodIn wsX3_land (wsV RX3 78 RX1 yX1_statements wsX1_statements) := goodIn_app (goodIn_of _ (by decide +kernel)) ggX3_land_X1_statements
set_option maxRecDepth 20000 in
theorem ggX3_land_X1_forget : GoodIn wsX3_land wsX1_forget := goodIn_r _ [255, 34, 279, 280] (by decide +kernel) (by decide +kernel)
set_option maxRecDepth 20000 in
theorem gX3_land_X1_forget : GoodIn wsX3_land (wsV RX3 81 RX1 yX1_forget wsX1_forget) := goodIn_app (goodIn_of _ (by decide +kernel)) ggX3_land_X1_forget
set_option maxRecDepth 20000 in
theorem ggX3_land_X0_copyFrom : GoodIn wsX3_land wsX0_copyFrom := goodIn_r _ [13, 14, 15, 16, 17, 18, 19, 20, 21, 22, 23, 24, 25, 26, 27, 28, 268, 269, 270, 271, 272, 273, 274, 275, 276, 277, 278] (by decide +kernel) (by decide +kernel)
set_option maxRecDepth 20000 in
theorem gX3_land_X0_copyFrom : GoodIn wsX3_land (wsV RX3 84 RX0 yX0_copyFrom wsX0_copyFrom) := goodIn_app (goodIn_of _ (by decide +kernel)) ggX3_land_X0_copyFrom
theorem dX3_land_0 : decode cX3_land 0 = .ok (.aload_n 0, 1) := by decide +kernel
theorem dX3_land_1 : decode cX3_land 1 = .ok (.invokevirtual 66, 3) := by decide +kernel
theorem dX3_land_4 : decode cX3_land 4 = .ok (.astore_n 1, 1) := by decide +kernel
theorem dX3_land_5 : decode cX3_land 5 = .ok (.aload_n 0, 1) := by decide +kernel
theorem dX3_land_6 : decode cX3_land 6 = .ok (.getfield 25, 3) := by decide +kernel
theorem dX3_land_9 : decode cX3_land 9 = .ok (.invokevirtual 70, 3) := by decide +kernel
theorem dX3_land_12 : decode cX3_land 12 = .ok (.istore_n 2, 1) := by decide +kernel
theorem dX3_land_13 : decode cX3_land 13 = .ok (.iload_n 2, 1) := by decide +kernel
theorem dX3_land_14 : decode cX3_land 14 = .ok (.iconst (-1), 1) := by decide +kernel
theorem dX3_land_15 : decode cX3_land 15 = .ok (.if_icmp .ne 14, 3) := by decide +kernel
theorem dX3_land_18 : decode cX3_land 18 = .ok (.aload_n 0, 1) := by decide +kernel
theorem dX3_land_19 : decode cX3_land 19 = .ok (.getfield 25, 3) := by decide +kernel
theorem dX3_land_22 : decode cX3_land 22 = .ok (.aload_n 1, 1) := by decide +kernel
theorem dX3_land_23 : decode cX3_land 23 = .ok (.invokevirtual 74, 3) := by decide +kernel
theorem dX3_land_26 : decode cX3_land 26 = .ok (.goto 4, 3) := by decide +kernel
theorem dX3_land_29 : decode cX3_land 29 = .ok (.iconst (-1), 1) := by decide +kernel
theorem dX3_land_30 : decode cX3_land 30 = .ok (.istore_n 3, 1) := by decide +kernel
theorem dX3_land_31 : decode cX3_land 31 = .ok (.aload_n 0, 1) := by decide +kernel
theorem dX3_land_32 : decode cX3_land 32 = .ok (.getfield 25, 3) := by decide +kernel
theorem dX3_land_35 : decode cX3_land 35 = .ok (.invokevirtual 78, 3) := by decide +kernel
theorem dX3_land_38 : decode cX3_land 38 = .ok (.istore 4, 2) := by decide +kernel
theorem dX3_land_40 : decode cX3_land 40 = .ok (.aload_n 0, 1) := by decide +kernel
theorem dX3_land_41 : decode cX3_land 41 = .ok (.getfield 25, 3) := by decide +kernel
theorem dX3_land_44 : decode cX3_land 44 = .ok (.invokevirtual 81, 3) := by decide +kernel
theorem dX3_land_47 : decode cX3_land 47 = .ok (.iload_n 2, 1) := by decide +kernel
theorem dX3_land_48 : decode cX3_land 48 = .ok (.iconst (-1), 1) := by decide +kernel
theorem dX3_land_49 : decode cX3_land 49 = .ok (.if_icmp .eq 9, 3) := by decide +kernel
theorem dX3_land_52 : decode cX3_land 52 = .ok (.sipush (-1000), 3) := by decide +kernel
theorem dX3_land_55 : decode cX3_land 55 = .ok (.iload_n 2, 1) := by decide +kernel
theorem dX3_land_56 : decode cX3_land 56 = .ok (.isub, 1) := by decide +kernel
theorem dX3_land_57 : decode cX3_land 57 = .ok (.ireturn, 1) := by decide +kernel
theorem dX3_land_58 : decode cX3_land 58 = .ok (.iload_n 3, 1) := by decide +kernel
theorem dX3_land_59 : decode cX3_land 59 = .ok (.iconst (-1), 1) := by decide +kernel
theorem dX3_land_60 : decode cX3_land 60 = .ok (.if_icmp .eq 9, 3) := by decide +kernel
theorem dX3_land_63 : decode cX3_land 63 = .ok (.sipush (-2000), 3) := by decide +kernel
theorem dX3_land_66 : decode cX3_land 66 = .ok (.iload_n 3, 1) := by decide +kernel
theorem dX3_land_67 : decode cX3_land 67 = .ok (.isub, 1) := by decide +kernel
theorem dX3_land_68 : decode cX3_land 68 = .ok (.ireturn, 1) := by decide +kernel
theorem dX3_land_69 : decode cX3_land 69 = .ok (.aload_n 0, 1) := by decide +kernel
theorem dX3_land_70 : decode cX3_land 70 = .ok (.getfield 10, 3) := by decide +kernel
theorem dX3_land_73 : decode cX3_land 73 = .ok (.aload_n 1, 1) := by decide +kernel
theorem dX3_land_74 : decode cX3_land 74 = .ok (.invokevirtual 84, 3) := by decide +kernel
theorem dX3_land_77 : decode cX3_land 77 = .ok (.iload 4, 2) := by decide +kernel
theorem dX3_land_79 : decode cX3_land 79 = .ok (.ireturn, 1) := by decide +kernel
set_option maxRecDepth 20000 in
theorem ggX3_thing_X0_hasThing : GoodIn wsX3_thing wsX0_hasThing := goodIn_r _ [10, 11, 12, 13, 14, 57, 58, 59, 60, 61, 62, 63, 64, 65, 66, 67] (by decide +kernel) (by decide +kernel)
set_option maxRecDepth 20000 in
theorem gX3_thing_X0_hasThing : GoodIn wsX3_thing (wsV RX3 88 RX0 yX0_hasThing wsX0_hasThing) := goodIn_app (goodIn_of _ (by decide +kernel)) ggX3_thing_X0_hasThing
set_option maxRecDepth 20000 in
theorem ggX3_thing_X3_refuse : GoodIn wsX3_thing wsX3_refuse := goodIn_r _ [18, 19, 45, 46, 47, 48, 49, 50, 51, 52, 53, 54, 55, 56] (by decide +kernel) (by decide +kernel)
set_option maxRecDepth 20000 in
theorem gX3_thing_X3_refuse : GoodIn wsX3_thing (wsV RX3 55 RX3 yX3_refuse wsX3_refuse) := goodIn_app (goodIn_of _ (by decide +kernel)) ggX3_thing_X3_refuse
set_option maxRecDepth 20000 in
theorem ggX3_thing_X0_isHidden : GoodIn wsX3_thing wsX0_isHidden := goodIn_r _ [23, 24, 57, 58, 59, 60, 61, 62, 63, 64, 65, 66, 67] (by decide +kernel) (by decide +kernel)
set_option maxRecDepth 20000 in
theorem gX3_thing_X0_isHidden : GoodIn wsX3_thing (wsV RX3 101 RX0 yX0_isHidden wsX0_isHidden) := goodIn_app (goodIn_of _ (by decide +kernel)) ggX3_thing_X0_isHidden
set_option maxRecDepth 20000 in
theorem ggX3_thing_X0_topOf : GoodIn wsX3_thing wsX0_topOf := goodIn_r _ [28, 29, 30, 31, 32, 33, 9, 34, 35, 36, 37, 57, 58, 59, 60, 61, 62, 63, 64, 65, 66, 67] (by decide +kernel) (by decide +kernel)
set_option maxRecDepth 20000 in
theorem gX3_thing_X0_topOf : GoodIn wsX3_thing (wsV RX3 104 RX0 yX0_topOf wsX0_topOf) := goodIn_app (goodIn_of _ (by decide +kernel)) ggX3_thing_X0_topOf
set_option maxRecDepth 20000 in
theorem ggX3_thing_X0_stepsOf : GoodIn wsX3_thing wsX0_stepsOf := goodIn_r _ [41, 35, 36, 42, 43, 9, 44, 57, 58, 59, 60, 61, 62, 63, 64, 65, 66, 67] (by decide +kernel) (by decide +kernel)
set_option maxRecDepth 20000 in
theorem gX3_thing_X0_stepsOf : GoodIn wsX3_thing (wsV RX3 111 RX0 yX0_stepsOf wsX0_stepsOf) := goodIn_app (goodIn_of _ (by decide +kernel)) ggX3_thing_X0_stepsOf
theorem dX3_thing_0 : decode cX3_thing 0 = .ok (.aload_n 0, 1) := by decide +kernel
theorem dX3_thing_1 : decode cX3_thing 1 = .ok (.getfield 10, 3) := by decide +kernel
theorem dX3_thing_4 : decode cX3_thing 4 = .ok (.iload_n 1, 1) := by decide +kernel
theorem dX3_thing_5 : decode cX3_thing 5 = .ok (.invokevirtual 88, 3) := by decide +kernel
theorem dX3_thing_8 : decode cX3_thing 8 = .ok (.ifCond .ne 9, 3) := by decide +kernel
theorem dX3_thing_11 : decode cX3_thing 11 = .ok (.aload_n 0, 1) := by decide +kernel
theorem dX3_thing_12 : decode cX3_thing 12 = .ok (.iconst (-1), 1) := by decide +kernel
theorem dX3_thing_13 : decode cX3_thing 13 = .ok (.invokevirtual 55, 3) := by decide +kernel
theorem dX3_thing_16 : decode cX3_thing 16 = .ok (.ireturn, 1) := by decide +kernel
theorem dX3_thing_17 : decode cX3_thing 17 = .ok (.iload_n 2, 1) := by decide +kernel
theorem dX3_thing_18 : decode cX3_thing 18 = .ok (.tableswitch 112 0 5 #[38, 48, 58, 68, 85, 94], 38) := by decide +kernel
theorem dX3_thing_56 : decode cX3_thing 56 = .ok (.aload_n 0, 1) := by decide +kernel
theorem dX3_thing_57 : decode cX3_thing 57 = .ok (.getfield 10, 3) := by decide +kernel
theorem dX3_thing_60 : decode cX3_thing 60 = .ok (.getfield 92, 3) := by decide +kernel
theorem dX3_thing_63 : decode cX3_thing 63 = .ok (.iload_n 1, 1) := by decide +kernel
theorem dX3_thing_64 : decode cX3_thing 64 = .ok (.iaload, 1) := by decide +kernel
theorem dX3_thing_65 : decode cX3_thing 65 = .ok (.ireturn, 1) := by decide +kernel
theorem dX3_thing_66 : decode cX3_thing 66 = .ok (.aload_n 0, 1) := by decide +kernel
theorem dX3_thing_67 : decode cX3_thing 67 = .ok (.getfield 10, 3) := by decide +kernel
theorem dX3_thing_70 : decode cX3_thing 70 = .ok (.getfield 95, 3) := by decide +kernel
theorem dX3_thing_73 : decode cX3_thing 73 = .ok (.iload_n 1, 1) := by decide +kernel
theorem dX3_thing_74 : decode cX3_thing 74 = .ok (.iaload, 1) := by decide +kernel
theorem dX3_thing_75 : decode cX3_thing 75 = .ok (.ireturn, 1) := by decide +kernel
theorem dX3_thing_76 : decode cX3_thing 76 = .ok (.aload_n 0, 1) := by decide +kernel
theorem dX3_thing_77 : decode cX3_thing 77 = .ok (.getfield 10, 3) := by decide +kernel
theorem dX3_thing_80 : decode cX3_thing 80 = .ok (.getfield 98, 3) := by decide +kernel
theorem dX3_thing_83 : decode cX3_thing 83 = .ok (.iload_n 1, 1) := by decide +kernel
theorem dX3_thing_84 : decode cX3_thing 84 = .ok (.iaload, 1) := by decide +kernel
theorem dX3_thing_85 : decode cX3_thing 85 = .ok (.ireturn, 1) := by decide +kernel
theorem dX3_thing_86 : decode cX3_thing 86 = .ok (.aload_n 0, 1) := by decide +kernel
theorem dX3_thing_87 : decode cX3_thing 87 = .ok (.getfield 10, 3) := by decide +kernel
theorem dX3_thing_90 : decode cX3_thing 90 = .ok (.iload_n 1, 1) := by decide +kernel
theorem dX3_thing_91 : decode cX3_thing 91 = .ok (.invokevirtual 101, 3) := by decide +kernel
theorem dX3_thing_94 : decode cX3_thing 94 = .ok (.ifCond .eq 7, 3) := by decide +kernel
theorem dX3_thing_97 : decode cX3_thing 97 = .ok (.iconst 1, 1) := by decide +kernel
theorem dX3_thing_98 : decode cX3_thing 98 = .ok (.goto 4, 3) := by decide +kernel
theorem dX3_thing_101 : decode cX3_thing 101 = .ok (.iconst 0, 1) := by decide +kernel
theorem dX3_thing_102 : decode cX3_thing 102 = .ok (.ireturn, 1) := by decide +kernel
theorem dX3_thing_103 : decode cX3_thing 103 = .ok (.aload_n 0, 1) := by decide +kernel
theorem dX3_thing_104 : decode cX3_thing 104 = .ok (.getfield 10, 3) := by decide +kernel
theorem dX3_thing_107 : decode cX3_thing 107 = .ok (.iload_n 1, 1) := by decide +kernel
theorem dX3_thing_108 : decode cX3_thing 108 = .ok (.invokevirtual 104, 3) := by decide +kernel
theorem dX3_thing_111 : decode cX3_thing 111 = .ok (.ireturn, 1) := by decide +kernel
theorem dX3_thing_112 : decode cX3_thing 112 = .ok (.aload_n 0, 1) := by decide +kernel
theorem dX3_thing_113 : decode cX3_thing 113 = .ok (.getfield 10, 3) := by decide +kernel
theorem dX3_thing_116 : decode cX3_thing 116 = .ok (.iload_n 1, 1) := by decide +kernel
theorem dX3_thing_117 : decode cX3_thing 117 = .ok (.aload_n 0, 1) := by decide +kernel
theorem dX3_thing_118 : decode cX3_thing 118 = .ok (.getfield 10, 3) := by decide +kernel
theorem dX3_thing_121 : decode cX3_thing 121 = .ok (.getfield 107, 3) := by decide +kernel
theorem dX3_thing_124 : decode cX3_thing 124 = .ok (.iconst 1, 1) := by decide +kernel
theorem dX3_thing_125 : decode cX3_thing 125 = .ok (.iadd, 1) := by decide +kernel
theorem dX3_thing_126 : decode cX3_thing 126 = .ok (.invokevirtual 111, 3) := by decide +kernel
theorem dX3_thing_129 : decode cX3_thing 129 = .ok (.ireturn, 1) := by decide +kernel
theorem dX3_thing_130 : decode cX3_thing 130 = .ok (.aload_n 0, 1) := by decide +kernel
theorem dX3_thing_131 : decode cX3_thing 131 = .ok (.bipush (-2), 2) := by decide +kernel
theorem dX3_thing_133 : decode cX3_thing 133 = .ok (.invokevirtual 55, 3) := by decide +kernel
theorem dX3_thing_136 : decode cX3_thing 136 = .ok (.ireturn, 1) := by decide +kernel
set_option maxRecDepth 20000 in
theorem ggX3_height_X3_isCell : GoodIn wsX3_height wsX3_isCell := goodIn_r _ [6, 7, 8, 5, 9] (by decide +kernel) (by decide +kernel)
set_option maxRecDepth 20000 in
theorem gX3_height_X3_isCell : GoodIn wsX3_height (va_wsS RX3 115 yX3_isCell wsX3_isCell) := goodIn_app (goodIn_of _ (by decide +kernel)) ggX3_height_X3_isCell
set_option maxRecDepth 20000 in
theorem ggX3_height_X3_refuse : GoodIn wsX3_height wsX3_refuse := goodIn_r _ [13, 14, 15, 16, 17, 18, 19, 20, 21, 22, 23, 24, 25, 26] (by decide +kernel) (by decide +kernel)
set_option maxRecDepth 20000 in
theorem gX3_height_X3_refuse : GoodIn wsX3_height (wsV RX3 55 RX3 yX3_refuse wsX3_refuse) := goodIn_app (goodIn_of _ (by decide +kernel)) ggX3_height_X3_refuse
theorem dX3_height_0 : decode cX3_height 0 = .ok (.iload_n 1, 1) := by decide +kernel
theorem dX3_height_1 : decode cX3_height 1 = .ok (.invokestatic 115, 3) := by decide +kernel
theorem dX3_height_4 : decode cX3_height 4 = .ok (.ifCond .ne 9, 3) := by decide +kernel
theorem dX3_height_7 : decode cX3_height 7 = .ok (.aload_n 0, 1) := by decide +kernel
theorem dX3_height_8 : decode cX3_height 8 = .ok (.iconst (-1), 1) := by decide +kernel
theorem dX3_height_9 : decode cX3_height 9 = .ok (.invokevirtual 55, 3) := by decide +kernel
theorem dX3_height_12 : decode cX3_height 12 = .ok (.ireturn, 1) := by decide +kernel
theorem dX3_height_13 : decode cX3_height 13 = .ok (.aload_n 0, 1) := by decide +kernel
theorem dX3_height_14 : decode cX3_height 14 = .ok (.getfield 10, 3) := by decide +kernel
theorem dX3_height_17 : decode cX3_height 17 = .ok (.getfield 118, 3) := by decide +kernel
theorem dX3_height_20 : decode cX3_height 20 = .ok (.iload_n 1, 1) := by decide +kernel
theorem dX3_height_21 : decode cX3_height 21 = .ok (.iaload, 1) := by decide +kernel
theorem dX3_height_22 : decode cX3_height 22 = .ok (.ireturn, 1) := by decide +kernel
set_option maxRecDepth 20000 in
theorem ggX3_code_X3_isKind : GoodIn wsX3_code wsX3_isKind := goodIn_r _ [7, 8, 9, 6, 10] (by decide +kernel) (by decide +kernel)
set_option maxRecDepth 20000 in
theorem gX3_code_X3_isKind : GoodIn wsX3_code (va_wsS RX3 121 yX3_isKind wsX3_isKind) := goodIn_app (goodIn_of _ (by decide +kernel)) ggX3_code_X3_isKind
set_option maxRecDepth 20000 in
theorem ggX3_code_X3_isEither : GoodIn wsX3_code wsX3_isEither := goodIn_r _ [13, 8, 9, 6, 10] (by decide +kernel) (by decide +kernel)
set_option maxRecDepth 20000 in
theorem gX3_code_X3_isEither : GoodIn wsX3_code (va_wsS RX3 124 yX3_isEither wsX3_isEither) := goodIn_app (goodIn_of _ (by decide +kernel)) ggX3_code_X3_isEither
set_option maxRecDepth 20000 in
theorem ggX3_code_X3_refuse : GoodIn wsX3_code wsX3_refuse := goodIn_r _ [17, 18, 19, 20, 21, 22, 23, 24, 25, 26, 27, 28, 29, 30] (by decide +kernel) (by decide +kernel)
set_option maxRecDepth 20000 in
theorem gX3_code_X3_refuse : GoodIn wsX3_code (wsV RX3 55 RX3 yX3_refuse wsX3_refuse) := goodIn_app (goodIn_of _ (by decide +kernel)) ggX3_code_X3_refuse
theorem dX3_code_0 : decode cX3_code 0 = .ok (.iload_n 1, 1) := by decide +kernel
theorem dX3_code_1 : decode cX3_code 1 = .ok (.invokestatic 121, 3) := by decide +kernel
theorem dX3_code_4 : decode cX3_code 4 = .ok (.ifCond .eq 10, 3) := by decide +kernel
theorem dX3_code_7 : decode cX3_code 7 = .ok (.iload_n 2, 1) := by decide +kernel
theorem dX3_code_8 : decode cX3_code 8 = .ok (.invokestatic 124, 3) := by decide +kernel
theorem dX3_code_11 : decode cX3_code 11 = .ok (.ifCond .ne 10, 3) := by decide +kernel
theorem dX3_code_14 : decode cX3_code 14 = .ok (.aload_n 0, 1) := by decide +kernel
theorem dX3_code_15 : decode cX3_code 15 = .ok (.bipush (-2), 2) := by decide +kernel
theorem dX3_code_17 : decode cX3_code 17 = .ok (.invokevirtual 55, 3) := by decide +kernel
theorem dX3_code_20 : decode cX3_code 20 = .ok (.ireturn, 1) := by decide +kernel
theorem dX3_code_21 : decode cX3_code 21 = .ok (.iload_n 2, 1) := by decide +kernel
theorem dX3_code_22 : decode cX3_code 22 = .ok (.ifCond .ne 15, 3) := by decide +kernel
theorem dX3_code_25 : decode cX3_code 25 = .ok (.aload_n 0, 1) := by decide +kernel
theorem dX3_code_26 : decode cX3_code 26 = .ok (.getfield 10, 3) := by decide +kernel
theorem dX3_code_29 : decode cX3_code 29 = .ok (.getfield 127, 3) := by decide +kernel
theorem dX3_code_32 : decode cX3_code 32 = .ok (.iload_n 1, 1) := by decide +kernel
theorem dX3_code_33 : decode cX3_code 33 = .ok (.iaload, 1) := by decide +kernel
theorem dX3_code_34 : decode cX3_code 34 = .ok (.goto 12, 3) := by decide +kernel
theorem dX3_code_37 : decode cX3_code 37 = .ok (.aload_n 0, 1) := by decide +kernel
theorem dX3_code_38 : decode cX3_code 38 = .ok (.getfield 10, 3) := by decide +kernel
theorem dX3_code_41 : decode cX3_code 41 = .ok (.getfield 130, 3) := by decide +kernel
theorem dX3_code_44 : decode cX3_code 44 = .ok (.iload_n 1, 1) := by decide +kernel
theorem dX3_code_45 : decode cX3_code 45 = .ok (.iaload, 1) := by decide +kernel
theorem dX3_code_46 : decode cX3_code 46 = .ok (.ireturn, 1) := by decide +kernel
set_option maxRecDepth 20000 in
theorem ggX3_heaps_X3_isCell : GoodIn wsX3_heaps wsX3_isCell := goodIn_r _ [6, 7, 8, 5, 9] (by decide +kernel) (by decide +kernel)
set_option maxRecDepth 20000 in
theorem gX3_heaps_X3_isCell : GoodIn wsX3_heaps (va_wsS RX3 115 yX3_isCell wsX3_isCell) := goodIn_app (goodIn_of _ (by decide +kernel)) ggX3_heaps_X3_isCell
set_option maxRecDepth 20000 in
theorem ggX3_heaps_X3_refuse : GoodIn wsX3_heaps wsX3_refuse := goodIn_r _ [13, 14, 26, 27, 28, 29, 30, 31, 32, 33, 34, 35, 36, 37] (by decide +kernel) (by decide +kernel)
set_option maxRecDepth 20000 in
theorem gX3_heaps_X3_refuse : GoodIn wsX3_heaps (wsV RX3 55 RX3 yX3_refuse wsX3_refuse) := goodIn_app (goodIn_of _ (by decide +kernel)) ggX3_heaps_X3_refuse
set_option maxRecDepth 20000 in
theorem ggX3_heaps_X3_isWithin : GoodIn wsX3_heaps wsX3_isWithin := goodIn_r _ [9] (by decide +kernel) (by decide +kernel)
set_option maxRecDepth 20000 in
theorem gX3_heaps_X3_isWithin : GoodIn wsX3_heaps (va_wsS RX3 133 yX3_isWithin wsX3_isWithin) := goodIn_app (goodIn_of _ (by decide +kernel)) ggX3_heaps_X3_isWithin
set_option maxRecDepth 20000 in
theorem ggX3_heaps_X0_setHeight : GoodIn wsX3_heaps wsX0_setHeight := goodIn_r _ [19, 20, 21, 22, 23, 24, 25, 38, 39, 40, 41, 42, 43, 44, 45, 46, 47, 48] (by decide +kernel) (by decide +kernel)
set_option maxRecDepth 20000 in
theorem gX3_heaps_X0_setHeight : GoodIn wsX3_heaps (wsV RX3 137 RX0 yX0_setHeight wsX0_setHeight) := goodIn_app (goodIn_of _ (by decide +kernel)) ggX3_heaps_X0_setHeight
theorem dX3_heaps_0 : decode cX3_heaps 0 = .ok (.iload_n 1, 1) := by decide +kernel
theorem dX3_heaps_1 : decode cX3_heaps 1 = .ok (.invokestatic 115, 3) := by decide +kernel
theorem dX3_heaps_4 : decode cX3_heaps 4 = .ok (.ifCond .ne 9, 3) := by decide +kernel
theorem dX3_heaps_7 : decode cX3_heaps 7 = .ok (.aload_n 0, 1) := by decide +kernel
theorem dX3_heaps_8 : decode cX3_heaps 8 = .ok (.iconst (-1), 1) := by decide +kernel
theorem dX3_heaps_9 : decode cX3_heaps 9 = .ok (.invokevirtual 55, 3) := by decide +kernel
theorem dX3_heaps_12 : decode cX3_heaps 12 = .ok (.ireturn, 1) := by decide +kernel
theorem dX3_heaps_13 : decode cX3_heaps 13 = .ok (.iload_n 2, 1) := by decide +kernel
theorem dX3_heaps_14 : decode cX3_heaps 14 = .ok (.iconst 0, 1) := by decide +kernel
theorem dX3_heaps_15 : decode cX3_heaps 15 = .ok (.bipush 9, 2) := by decide +kernel
theorem dX3_heaps_17 : decode cX3_heaps 17 = .ok (.invokestatic 133, 3) := by decide +kernel
theorem dX3_heaps_20 : decode cX3_heaps 20 = .ok (.ifCond .ne 19, 3) := by decide +kernel
theorem dX3_heaps_23 : decode cX3_heaps 23 = .ok (.aload_n 0, 1) := by decide +kernel
theorem dX3_heaps_24 : decode cX3_heaps 24 = .ok (.iload_n 2, 1) := by decide +kernel
theorem dX3_heaps_25 : decode cX3_heaps 25 = .ok (.ifCond .ge 8, 3) := by decide +kernel
theorem dX3_heaps_28 : decode cX3_heaps 28 = .ok (.bipush (-4), 2) := by decide +kernel
theorem dX3_heaps_30 : decode cX3_heaps 30 = .ok (.goto 5, 3) := by decide +kernel
theorem dX3_heaps_33 : decode cX3_heaps 33 = .ok (.bipush (-6), 2) := by decide +kernel
theorem dX3_heaps_35 : decode cX3_heaps 35 = .ok (.invokevirtual 55, 3) := by decide +kernel
theorem dX3_heaps_38 : decode cX3_heaps 38 = .ok (.ireturn, 1) := by decide +kernel
theorem dX3_heaps_39 : decode cX3_heaps 39 = .ok (.aload_n 0, 1) := by decide +kernel
theorem dX3_heaps_40 : decode cX3_heaps 40 = .ok (.getfield 10, 3) := by decide +kernel
theorem dX3_heaps_43 : decode cX3_heaps 43 = .ok (.getfield 118, 3) := by decide +kernel
theorem dX3_heaps_46 : decode cX3_heaps 46 = .ok (.iload_n 1, 1) := by decide +kernel
theorem dX3_heaps_47 : decode cX3_heaps 47 = .ok (.iaload, 1) := by decide +kernel
theorem dX3_heaps_48 : decode cX3_heaps 48 = .ok (.istore_n 3, 1) := by decide +kernel
theorem dX3_heaps_49 : decode cX3_heaps 49 = .ok (.aload_n 0, 1) := by decide +kernel
theorem dX3_heaps_50 : decode cX3_heaps 50 = .ok (.getfield 10, 3) := by decide +kernel
theorem dX3_heaps_53 : decode cX3_heaps 53 = .ok (.iload_n 1, 1) := by decide +kernel
theorem dX3_heaps_54 : decode cX3_heaps 54 = .ok (.iload_n 2, 1) := by decide +kernel
theorem dX3_heaps_55 : decode cX3_heaps 55 = .ok (.invokevirtual 137, 3) := by decide +kernel
theorem dX3_heaps_58 : decode cX3_heaps 58 = .ok (.iload_n 3, 1) := by decide +kernel
theorem dX3_heaps_59 : decode cX3_heaps 59 = .ok (.ireturn, 1) := by decide +kernel
set_option maxRecDepth 20000 in
theorem ggX3_drives_X0_hasThing : GoodIn wsX3_drives wsX0_hasThing := goodIn_r _ [7, 8, 9, 10, 11, 33, 34, 35, 36, 37, 38, 39, 40, 41, 42, 43] (by decide +kernel) (by decide +kernel)
set_option maxRecDepth 20000 in
theorem gX3_drives_X0_hasThing : GoodIn wsX3_drives (wsV RX3 88 RX0 yX0_hasThing wsX0_hasThing) := goodIn_app (goodIn_of _ (by decide +kernel)) ggX3_drives_X0_hasThing
set_option maxRecDepth 20000 in
theorem ggX3_drives_X3_isCell : GoodIn wsX3_drives wsX3_isCell := goodIn_r _ [14, 15, 9, 10, 11] (by decide +kernel) (by decide +kernel)
set_option maxRecDepth 20000 in
theorem gX3_drives_X3_isCell : GoodIn wsX3_drives (va_wsS RX3 115 yX3_isCell wsX3_isCell) := goodIn_app (goodIn_of _ (by decide +kernel)) ggX3_drives_X3_isCell
set_option maxRecDepth 20000 in
theorem ggX3_drives_X3_refuse : GoodIn wsX3_drives wsX3_refuse := goodIn_r _ [19, 20, 21, 22, 23, 24, 25, 26, 27, 28, 29, 30, 31, 32] (by decide +kernel) (by decide +kernel)
set_option maxRecDepth 20000 in
theorem gX3_drives_X3_refuse : GoodIn wsX3_drives (wsV RX3 55 RX3 yX3_refuse wsX3_refuse) := goodIn_app (goodIn_of _ (by decide +kernel)) ggX3_drives_X3_refuse
theorem dX3_drives_0 : decode cX3_drives 0 = .ok (.aload_n 0, 1) := by decide +kernel
theorem dX3_drives_1 : decode cX3_drives 1 = .ok (.getfield 10, 3) := by decide +kernel
theorem dX3_drives_4 : decode cX3_drives 4 = .ok (.iload_n 1, 1) := by decide +kernel
theorem dX3_drives_5 : decode cX3_drives 5 = .ok (.invokevirtual 88, 3) := by decide +kernel
theorem dX3_drives_8 : decode cX3_drives 8 = .ok (.ifCond .eq 10, 3) := by decide +kernel
theorem dX3_drives_11 : decode cX3_drives 11 = .ok (.iload_n 2, 1) := by decide +kernel
theorem dX3_drives_12 : decode cX3_drives 12 = .ok (.invokestatic 115, 3) := by decide +kernel
theorem dX3_drives_15 : decode cX3_drives 15 = .ok (.ifCond .ne 9, 3) := by decide +kernel
theorem dX3_drives_18 : decode cX3_drives 18 = .ok (.aload_n 0, 1) := by decide +kernel
theorem dX3_drives_19 : decode cX3_drives 19 = .ok (.iconst (-1), 1) := by decide +kernel
theorem dX3_drives_20 : decode cX3_drives 20 = .ok (.invokevirtual 55, 3) := by decide +kernel
theorem dX3_drives_23 : decode cX3_drives 23 = .ok (.ireturn, 1) := by decide +kernel
theorem dX3_drives_24 : decode cX3_drives 24 = .ok (.aload_n 0, 1) := by decide +kernel
theorem dX3_drives_25 : decode cX3_drives 25 = .ok (.getfield 10, 3) := by decide +kernel
theorem dX3_drives_28 : decode cX3_drives 28 = .ok (.getfield 98, 3) := by decide +kernel
theorem dX3_drives_31 : decode cX3_drives 31 = .ok (.iload_n 1, 1) := by decide +kernel
theorem dX3_drives_32 : decode cX3_drives 32 = .ok (.iaload, 1) := by decide +kernel
theorem dX3_drives_33 : decode cX3_drives 33 = .ok (.istore_n 3, 1) := by decide +kernel
theorem dX3_drives_34 : decode cX3_drives 34 = .ok (.aload_n 0, 1) := by decide +kernel
theorem dX3_drives_35 : decode cX3_drives 35 = .ok (.getfield 10, 3) := by decide +kernel
theorem dX3_drives_38 : decode cX3_drives 38 = .ok (.getfield 98, 3) := by decide +kernel
theorem dX3_drives_41 : decode cX3_drives 41 = .ok (.iload_n 1, 1) := by decide +kernel
theorem dX3_drives_42 : decode cX3_drives 42 = .ok (.iload_n 2, 1) := by decide +kernel
theorem dX3_drives_43 : decode cX3_drives 43 = .ok (.iastore, 1) := by decide +kernel
theorem dX3_drives_44 : decode cX3_drives 44 = .ok (.iload_n 3, 1) := by decide +kernel
theorem dX3_drives_45 : decode cX3_drives 45 = .ok (.ireturn, 1) := by decide +kernel
set_option maxRecDepth 20000 in
theorem ggX3_hides_X0_hasThing : GoodIn wsX3_hides wsX0_hasThing := goodIn_r _ [6, 7, 8, 9, 10, 37, 38, 39, 40, 41, 42, 43, 44, 45, 46, 47] (by decide +kernel) (by decide +kernel)
set_option maxRecDepth 20000 in
theorem gX3_hides_X0_hasThing : GoodIn wsX3_hides (wsV RX3 88 RX0 yX0_hasThing wsX0_hasThing) := goodIn_app (goodIn_of _ (by decide +kernel)) ggX3_hides_X0_hasThing
set_option maxRecDepth 20000 in
theorem ggX3_hides_X3_refuse : GoodIn wsX3_hides wsX3_refuse := goodIn_r _ [14, 15, 25, 26, 27, 28, 29, 30, 31, 32, 33, 34, 35, 36] (by decide +kernel) (by decide +kernel)
set_option maxRecDepth 20000 in
theorem gX3_hides_X3_refuse : GoodIn wsX3_hides (wsV RX3 55 RX3 yX3_refuse wsX3_refuse) := goodIn_app (goodIn_of _ (by decide +kernel)) ggX3_hides_X3_refuse
set_option maxRecDepth 20000 in
theorem ggX3_hides_X0_turnHidden : GoodIn wsX3_hides wsX0_turnHidden := goodIn_r _ [19, 20, 37, 38, 39, 40, 41, 42, 43, 44, 45, 46, 47] (by decide +kernel) (by decide +kernel)
set_option maxRecDepth 20000 in
theorem gX3_hides_X0_turnHidden : GoodIn wsX3_hides (wsV RX3 141 RX0 yX0_turnHidden wsX0_turnHidden) := goodIn_app (goodIn_of _ (by decide +kernel)) ggX3_hides_X0_turnHidden
set_option maxRecDepth 20000 in
theorem ggX3_hides_X0_isHidden : GoodIn wsX3_hides wsX0_isHidden := goodIn_r _ [24, 20, 37, 38, 39, 40, 41, 42, 43, 44, 45, 46, 47] (by decide +kernel) (by decide +kernel)
set_option maxRecDepth 20000 in
theorem gX3_hides_X0_isHidden : GoodIn wsX3_hides (wsV RX3 101 RX0 yX0_isHidden wsX0_isHidden) := goodIn_app (goodIn_of _ (by decide +kernel)) ggX3_hides_X0_isHidden
theorem dX3_hides_0 : decode cX3_hides 0 = .ok (.aload_n 0, 1) := by decide +kernel
theorem dX3_hides_1 : decode cX3_hides 1 = .ok (.getfield 10, 3) := by decide +kernel
theorem dX3_hides_4 : decode cX3_hides 4 = .ok (.iload_n 1, 1) := by decide +kernel
theorem dX3_hides_5 : decode cX3_hides 5 = .ok (.invokevirtual 88, 3) := by decide +kernel
theorem dX3_hides_8 : decode cX3_hides 8 = .ok (.ifCond .ne 9, 3) := by decide +kernel
theorem dX3_hides_11 : decode cX3_hides 11 = .ok (.aload_n 0, 1) := by decide +kernel
theorem dX3_hides_12 : decode cX3_hides 12 = .ok (.iconst (-1), 1) := by decide +kernel
theorem dX3_hides_13 : decode cX3_hides 13 = .ok (.invokevirtual 55, 3) := by decide +kernel
theorem dX3_hides_16 : decode cX3_hides 16 = .ok (.ireturn, 1) := by decide +kernel
theorem dX3_hides_17 : decode cX3_hides 17 = .ok (.aload_n 0, 1) := by decide +kernel
theorem dX3_hides_18 : decode cX3_hides 18 = .ok (.getfield 10, 3) := by decide +kernel
theorem dX3_hides_21 : decode cX3_hides 21 = .ok (.iload_n 1, 1) := by decide +kernel
theorem dX3_hides_22 : decode cX3_hides 22 = .ok (.invokevirtual 141, 3) := by decide +kernel
theorem dX3_hides_25 : decode cX3_hides 25 = .ok (.aload_n 0, 1) := by decide +kernel
theorem dX3_hides_26 : decode cX3_hides 26 = .ok (.getfield 10, 3) := by decide +kernel
theorem dX3_hides_29 : decode cX3_hides 29 = .ok (.iload_n 1, 1) := by decide +kernel
theorem dX3_hides_30 : decode cX3_hides 30 = .ok (.invokevirtual 101, 3) := by decide +kernel
theorem dX3_hides_33 : decode cX3_hides 33 = .ok (.ifCond .eq 7, 3) := by decide +kernel
theorem dX3_hides_36 : decode cX3_hides 36 = .ok (.iconst 1, 1) := by decide +kernel
theorem dX3_hides_37 : decode cX3_hides 37 = .ok (.goto 4, 3) := by decide +kernel
theorem dX3_hides_40 : decode cX3_hides 40 = .ok (.iconst 0, 1) := by decide +kernel
theorem dX3_hides_41 : decode cX3_hides 41 = .ok (.ireturn, 1) := by decide +kernel
set_option maxRecDepth 20000 in
theorem ggX3_decrees_X3_isKind : GoodIn wsX3_decrees wsX3_isKind := goodIn_r _ [7, 8, 9, 6, 10] (by decide +kernel) (by decide +kernel)
set_option maxRecDepth 20000 in
theorem gX3_decrees_X3_isKind : GoodIn wsX3_decrees (va_wsS RX3 121 yX3_isKind wsX3_isKind) := goodIn_app (goodIn_of _ (by decide +kernel)) ggX3_decrees_X3_isKind
set_option maxRecDepth 20000 in
theorem ggX3_decrees_X3_isVerdict : GoodIn wsX3_decrees wsX3_isVerdict := goodIn_r _ [13, 8, 9, 6, 10] (by decide +kernel) (by decide +kernel)
set_option maxRecDepth 20000 in
theorem gX3_decrees_X3_isVerdict : GoodIn wsX3_decrees (va_wsS RX3 145 yX3_isVerdict wsX3_isVerdict) := goodIn_app (goodIn_of _ (by decide +kernel)) ggX3_decrees_X3_isVerdict
set_option maxRecDepth 20000 in
theorem ggX3_decrees_X3_refuse : GoodIn wsX3_decrees wsX3_refuse := goodIn_r _ [17, 18, 26, 27, 28, 29, 30, 31, 32, 33, 34, 35, 36, 37] (by decide +kernel) (by decide +kernel)
set_option maxRecDepth 20000 in
theorem gX3_decrees_X3_refuse : GoodIn wsX3_decrees (wsV RX3 55 RX3 yX3_refuse wsX3_refuse) := goodIn_app (goodIn_of _ (by decide +kernel)) ggX3_decrees_X3_refuse
set_option maxRecDepth 20000 in
theorem ggX3_decrees_X3_isWithin : GoodIn wsX3_decrees wsX3_isWithin := goodIn_r _ [10] (by decide +kernel) (by decide +kernel)
set_option maxRecDepth 20000 in
theorem gX3_decrees_X3_isWithin : GoodIn wsX3_decrees (va_wsS RX3 133 yX3_isWithin wsX3_isWithin) := goodIn_app (goodIn_of _ (by decide +kernel)) ggX3_decrees_X3_isWithin
set_option maxRecDepth 20000 in
theorem ggX3_decrees_X0_decree : GoodIn wsX3_decrees wsX0_decree := goodIn_r _ [23, 24, 25, 38, 39, 40, 41, 42, 43, 44, 45, 46, 47, 48] (by decide +kernel) (by decide +kernel)
set_option maxRecDepth 20000 in
theorem gX3_decrees_X0_decree : GoodIn wsX3_decrees (wsV RX3 148 RX0 yX0_decree wsX0_decree) := goodIn_app (goodIn_of _ (by decide +kernel)) ggX3_decrees_X0_decree
theorem dX3_decrees_0 : decode cX3_decrees 0 = .ok (.iload_n 1, 1) := by decide +kernel
theorem dX3_decrees_1 : decode cX3_decrees 1 = .ok (.invokestatic 121, 3) := by decide +kernel
theorem dX3_decrees_4 : decode cX3_decrees 4 = .ok (.ifCond .eq 10, 3) := by decide +kernel
theorem dX3_decrees_7 : decode cX3_decrees 7 = .ok (.iload_n 2, 1) := by decide +kernel
theorem dX3_decrees_8 : decode cX3_decrees 8 = .ok (.invokestatic 145, 3) := by decide +kernel
theorem dX3_decrees_11 : decode cX3_decrees 11 = .ok (.ifCond .ne 10, 3) := by decide +kernel
theorem dX3_decrees_14 : decode cX3_decrees 14 = .ok (.aload_n 0, 1) := by decide +kernel
theorem dX3_decrees_15 : decode cX3_decrees 15 = .ok (.bipush (-2), 2) := by decide +kernel
theorem dX3_decrees_17 : decode cX3_decrees 17 = .ok (.invokevirtual 55, 3) := by decide +kernel
theorem dX3_decrees_20 : decode cX3_decrees 20 = .ok (.ireturn, 1) := by decide +kernel
theorem dX3_decrees_21 : decode cX3_decrees 21 = .ok (.iload_n 3, 1) := by decide +kernel
theorem dX3_decrees_22 : decode cX3_decrees 22 = .ok (.iconst 0, 1) := by decide +kernel
theorem dX3_decrees_23 : decode cX3_decrees 23 = .ok (.bipush 9, 2) := by decide +kernel
theorem dX3_decrees_25 : decode cX3_decrees 25 = .ok (.invokestatic 133, 3) := by decide +kernel
theorem dX3_decrees_28 : decode cX3_decrees 28 = .ok (.ifCond .ne 19, 3) := by decide +kernel
theorem dX3_decrees_31 : decode cX3_decrees 31 = .ok (.aload_n 0, 1) := by decide +kernel
theorem dX3_decrees_32 : decode cX3_decrees 32 = .ok (.iload_n 3, 1) := by decide +kernel
theorem dX3_decrees_33 : decode cX3_decrees 33 = .ok (.ifCond .ge 8, 3) := by decide +kernel
theorem dX3_decrees_36 : decode cX3_decrees 36 = .ok (.bipush (-4), 2) := by decide +kernel
theorem dX3_decrees_38 : decode cX3_decrees 38 = .ok (.goto 5, 3) := by decide +kernel
theorem dX3_decrees_41 : decode cX3_decrees 41 = .ok (.bipush (-6), 2) := by decide +kernel
theorem dX3_decrees_43 : decode cX3_decrees 43 = .ok (.invokevirtual 55, 3) := by decide +kernel
theorem dX3_decrees_46 : decode cX3_decrees 46 = .ok (.ireturn, 1) := by decide +kernel
theorem dX3_decrees_47 : decode cX3_decrees 47 = .ok (.bipush 10, 2) := by decide +kernel
theorem dX3_decrees_49 : decode cX3_decrees 49 = .ok (.aload_n 0, 1) := by decide +kernel
theorem dX3_decrees_50 : decode cX3_decrees 50 = .ok (.getfield 10, 3) := by decide +kernel
theorem dX3_decrees_53 : decode cX3_decrees 53 = .ok (.getfield 127, 3) := by decide +kernel
theorem dX3_decrees_56 : decode cX3_decrees 56 = .ok (.iload_n 1, 1) := by decide +kernel
theorem dX3_decrees_57 : decode cX3_decrees 57 = .ok (.iaload, 1) := by decide +kernel
theorem dX3_decrees_58 : decode cX3_decrees 58 = .ok (.imul, 1) := by decide +kernel
theorem dX3_decrees_59 : decode cX3_decrees 59 = .ok (.aload_n 0, 1) := by decide +kernel
theorem dX3_decrees_60 : decode cX3_decrees 60 = .ok (.getfield 10, 3) := by decide +kernel
theorem dX3_decrees_63 : decode cX3_decrees 63 = .ok (.getfield 130, 3) := by decide +kernel
theorem dX3_decrees_66 : decode cX3_decrees 66 = .ok (.iload_n 1, 1) := by decide +kernel
theorem dX3_decrees_67 : decode cX3_decrees 67 = .ok (.iaload, 1) := by decide +kernel
theorem dX3_decrees_68 : decode cX3_decrees 68 = .ok (.iadd, 1) := by decide +kernel
theorem dX3_decrees_69 : decode cX3_decrees 69 = .ok (.istore 4, 2) := by decide +kernel
theorem dX3_decrees_71 : decode cX3_decrees 71 = .ok (.aload_n 0, 1) := by decide +kernel
theorem dX3_decrees_72 : decode cX3_decrees 72 = .ok (.getfield 10, 3) := by decide +kernel
theorem dX3_decrees_75 : decode cX3_decrees 75 = .ok (.iload_n 1, 1) := by decide +kernel
theorem dX3_decrees_76 : decode cX3_decrees 76 = .ok (.iload_n 2, 1) := by decide +kernel
theorem dX3_decrees_77 : decode cX3_decrees 77 = .ok (.iload_n 3, 1) := by decide +kernel
theorem dX3_decrees_78 : decode cX3_decrees 78 = .ok (.invokevirtual 148, 3) := by decide +kernel
theorem dX3_decrees_81 : decode cX3_decrees 81 = .ok (.iload 4, 2) := by decide +kernel
theorem dX3_decrees_83 : decode cX3_decrees 83 = .ok (.ireturn, 1) := by decide +kernel
set_option maxRecDepth 20000 in
theorem ggX3_eyes_X3_isWithin : GoodIn wsX3_eyes wsX3_isWithin := goodIn_r _ [6] (by decide +kernel) (by decide +kernel)
set_option maxRecDepth 20000 in
theorem gX3_eyes_X3_isWithin : GoodIn wsX3_eyes (va_wsS RX3 133 yX3_isWithin wsX3_isWithin) := goodIn_app (goodIn_of _ (by decide +kernel)) ggX3_eyes_X3_isWithin
set_option maxRecDepth 20000 in
theorem ggX3_eyes_X3_refuse : GoodIn wsX3_eyes wsX3_refuse := goodIn_r _ [10, 11, 12, 13, 14, 15, 16, 17, 18, 19, 20, 21, 22, 23] (by decide +kernel) (by decide +kernel)
set_option maxRecDepth 20000 in
theorem gX3_eyes_X3_refuse : GoodIn wsX3_eyes (wsV RX3 55 RX3 yX3_refuse wsX3_refuse) := goodIn_app (goodIn_of _ (by decide +kernel)) ggX3_eyes_X3_refuse
theorem dX3_eyes_0 : decode cX3_eyes 0 = .ok (.iload_n 1, 1) := by decide +kernel
theorem dX3_eyes_1 : decode cX3_eyes 1 = .ok (.iconst 0, 1) := by decide +kernel
theorem dX3_eyes_2 : decode cX3_eyes 2 = .ok (.bipush 16, 2) := by decide +kernel
theorem dX3_eyes_4 : decode cX3_eyes 4 = .ok (.invokestatic 133, 3) := by decide +kernel
theorem dX3_eyes_7 : decode cX3_eyes 7 = .ok (.ifCond .ne 19, 3) := by decide +kernel
theorem dX3_eyes_10 : decode cX3_eyes 10 = .ok (.aload_n 0, 1) := by decide +kernel
theorem dX3_eyes_11 : decode cX3_eyes 11 = .ok (.iload_n 1, 1) := by decide +kernel
theorem dX3_eyes_12 : decode cX3_eyes 12 = .ok (.ifCond .ge 8, 3) := by decide +kernel
theorem dX3_eyes_15 : decode cX3_eyes 15 = .ok (.bipush (-4), 2) := by decide +kernel
theorem dX3_eyes_17 : decode cX3_eyes 17 = .ok (.goto 5, 3) := by decide +kernel
theorem dX3_eyes_20 : decode cX3_eyes 20 = .ok (.bipush (-6), 2) := by decide +kernel
theorem dX3_eyes_22 : decode cX3_eyes 22 = .ok (.invokevirtual 55, 3) := by decide +kernel
theorem dX3_eyes_25 : decode cX3_eyes 25 = .ok (.ireturn, 1) := by decide +kernel
theorem dX3_eyes_26 : decode cX3_eyes 26 = .ok (.aload_n 0, 1) := by decide +kernel
theorem dX3_eyes_27 : decode cX3_eyes 27 = .ok (.getfield 10, 3) := by decide +kernel
theorem dX3_eyes_30 : decode cX3_eyes 30 = .ok (.getfield 152, 3) := by decide +kernel
theorem dX3_eyes_33 : decode cX3_eyes 33 = .ok (.istore_n 2, 1) := by decide +kernel
theorem dX3_eyes_34 : decode cX3_eyes 34 = .ok (.aload_n 0, 1) := by decide +kernel
theorem dX3_eyes_35 : decode cX3_eyes 35 = .ok (.getfield 10, 3) := by decide +kernel
theorem dX3_eyes_38 : decode cX3_eyes 38 = .ok (.iload_n 1, 1) := by decide +kernel
theorem dX3_eyes_39 : decode cX3_eyes 39 = .ok (.putfield 152, 3) := by decide +kernel
theorem dX3_eyes_42 : decode cX3_eyes 42 = .ok (.iload_n 2, 1) := by decide +kernel
theorem dX3_eyes_43 : decode cX3_eyes 43 = .ok (.ireturn, 1) := by decide +kernel
set_option maxRecDepth 20000 in
theorem ggX3_turn_X0_hasThing : GoodIn wsX3_turn wsX0_hasThing := goodIn_r _ [8, 9, 10, 11, 12, 34, 35, 36, 37, 38, 39, 40, 41, 42, 43, 44] (by decide +kernel) (by decide +kernel)
set_option maxRecDepth 20000 in
theorem gX3_turn_X0_hasThing : GoodIn wsX3_turn (wsV RX3 88 RX0 yX0_hasThing wsX0_hasThing) := goodIn_app (goodIn_of _ (by decide +kernel)) ggX3_turn_X0_hasThing
set_option maxRecDepth 20000 in
theorem ggX3_turn_X3_refuse : GoodIn wsX3_turn wsX3_refuse := goodIn_r _ [16, 17, 22, 23, 24, 25, 26, 27, 28, 29, 30, 31, 32, 33] (by decide +kernel) (by decide +kernel)
set_option maxRecDepth 20000 in
theorem gX3_turn_X3_refuse : GoodIn wsX3_turn (wsV RX3 55 RX3 yX3_refuse wsX3_refuse) := goodIn_app (goodIn_of _ (by decide +kernel)) ggX3_turn_X3_refuse
set_option maxRecDepth 20000 in
theorem ggX3_turn_X3_isKind : GoodIn wsX3_turn wsX3_isKind := goodIn_r _ [20, 21, 10, 11, 12] (by decide +kernel) (by decide +kernel)
set_option maxRecDepth 20000 in
theorem gX3_turn_X3_isKind : GoodIn wsX3_turn (va_wsS RX3 121 yX3_isKind wsX3_isKind) := goodIn_app (goodIn_of _ (by decide +kernel)) ggX3_turn_X3_isKind
set_option maxRecDepth 20000 in
theorem ggX3_turn_X3_isWithin : GoodIn wsX3_turn wsX3_isWithin := goodIn_r _ [12] (by decide +kernel) (by decide +kernel)
set_option maxRecDepth 20000 in
theorem gX3_turn_X3_isWithin : GoodIn wsX3_turn (va_wsS RX3 133 yX3_isWithin wsX3_isWithin) := goodIn_app (goodIn_of _ (by decide +kernel)) ggX3_turn_X3_isWithin
theorem dX3_turn_0 : decode cX3_turn 0 = .ok (.aload_n 0, 1) := by decide +kernel
theorem dX3_turn_1 : decode cX3_turn 1 = .ok (.getfield 10, 3) := by decide +kernel
theorem dX3_turn_4 : decode cX3_turn 4 = .ok (.iload_n 1, 1) := by decide +kernel
theorem dX3_turn_5 : decode cX3_turn 5 = .ok (.invokevirtual 88, 3) := by decide +kernel
theorem dX3_turn_8 : decode cX3_turn 8 = .ok (.ifCond .ne 9, 3) := by decide +kernel
theorem dX3_turn_11 : decode cX3_turn 11 = .ok (.aload_n 0, 1) := by decide +kernel
theorem dX3_turn_12 : decode cX3_turn 12 = .ok (.iconst (-1), 1) := by decide +kernel
theorem dX3_turn_13 : decode cX3_turn 13 = .ok (.invokevirtual 55, 3) := by decide +kernel
theorem dX3_turn_16 : decode cX3_turn 16 = .ok (.ireturn, 1) := by decide +kernel
theorem dX3_turn_17 : decode cX3_turn 17 = .ok (.iload_n 2, 1) := by decide +kernel
theorem dX3_turn_18 : decode cX3_turn 18 = .ok (.invokestatic 121, 3) := by decide +kernel
theorem dX3_turn_21 : decode cX3_turn 21 = .ok (.ifCond .ne 10, 3) := by decide +kernel
theorem dX3_turn_24 : decode cX3_turn 24 = .ok (.aload_n 0, 1) := by decide +kernel
theorem dX3_turn_25 : decode cX3_turn 25 = .ok (.bipush (-2), 2) := by decide +kernel
theorem dX3_turn_27 : decode cX3_turn 27 = .ok (.invokevirtual 55, 3) := by decide +kernel
theorem dX3_turn_30 : decode cX3_turn 30 = .ok (.ireturn, 1) := by decide +kernel
theorem dX3_turn_31 : decode cX3_turn 31 = .ok (.iload_n 3, 1) := by decide +kernel
theorem dX3_turn_32 : decode cX3_turn 32 = .ok (.iconst 0, 1) := by decide +kernel
theorem dX3_turn_33 : decode cX3_turn 33 = .ok (.bipush 9, 2) := by decide +kernel
theorem dX3_turn_35 : decode cX3_turn 35 = .ok (.invokestatic 133, 3) := by decide +kernel
theorem dX3_turn_38 : decode cX3_turn 38 = .ok (.ifCond .ne 19, 3) := by decide +kernel
theorem dX3_turn_41 : decode cX3_turn 41 = .ok (.aload_n 0, 1) := by decide +kernel
theorem dX3_turn_42 : decode cX3_turn 42 = .ok (.iload_n 3, 1) := by decide +kernel
theorem dX3_turn_43 : decode cX3_turn 43 = .ok (.ifCond .ge 8, 3) := by decide +kernel
theorem dX3_turn_46 : decode cX3_turn 46 = .ok (.bipush (-4), 2) := by decide +kernel
theorem dX3_turn_48 : decode cX3_turn 48 = .ok (.goto 5, 3) := by decide +kernel
theorem dX3_turn_51 : decode cX3_turn 51 = .ok (.bipush (-6), 2) := by decide +kernel
theorem dX3_turn_53 : decode cX3_turn 53 = .ok (.invokevirtual 55, 3) := by decide +kernel
theorem dX3_turn_56 : decode cX3_turn 56 = .ok (.ireturn, 1) := by decide +kernel
theorem dX3_turn_57 : decode cX3_turn 57 = .ok (.bipush 10, 2) := by decide +kernel
theorem dX3_turn_59 : decode cX3_turn 59 = .ok (.aload_n 0, 1) := by decide +kernel
theorem dX3_turn_60 : decode cX3_turn 60 = .ok (.getfield 10, 3) := by decide +kernel
theorem dX3_turn_63 : decode cX3_turn 63 = .ok (.getfield 92, 3) := by decide +kernel
theorem dX3_turn_66 : decode cX3_turn 66 = .ok (.iload_n 1, 1) := by decide +kernel
theorem dX3_turn_67 : decode cX3_turn 67 = .ok (.iaload, 1) := by decide +kernel
theorem dX3_turn_68 : decode cX3_turn 68 = .ok (.imul, 1) := by decide +kernel
theorem dX3_turn_69 : decode cX3_turn 69 = .ok (.aload_n 0, 1) := by decide +kernel
theorem dX3_turn_70 : decode cX3_turn 70 = .ok (.getfield 10, 3) := by decide +kernel
theorem dX3_turn_73 : decode cX3_turn 73 = .ok (.getfield 95, 3) := by decide +kernel
theorem dX3_turn_76 : decode cX3_turn 76 = .ok (.iload_n 1, 1) := by decide +kernel
theorem dX3_turn_77 : decode cX3_turn 77 = .ok (.iaload, 1) := by decide +kernel
theorem dX3_turn_78 : decode cX3_turn 78 = .ok (.iadd, 1) := by decide +kernel
theorem dX3_turn_79 : decode cX3_turn 79 = .ok (.istore 4, 2) := by decide +kernel
theorem dX3_turn_81 : decode cX3_turn 81 = .ok (.aload_n 0, 1) := by decide +kernel
theorem dX3_turn_82 : decode cX3_turn 82 = .ok (.getfield 10, 3) := by decide +kernel
theorem dX3_turn_85 : decode cX3_turn 85 = .ok (.getfield 92, 3) := by decide +kernel
theorem dX3_turn_88 : decode cX3_turn 88 = .ok (.iload_n 1, 1) := by decide +kernel
theorem dX3_turn_89 : decode cX3_turn 89 = .ok (.iload_n 2, 1) := by decide +kernel
theorem dX3_turn_90 : decode cX3_turn 90 = .ok (.iastore, 1) := by decide +kernel
theorem dX3_turn_91 : decode cX3_turn 91 = .ok (.aload_n 0, 1) := by decide +kernel
theorem dX3_turn_92 : decode cX3_turn 92 = .ok (.getfield 10, 3) := by decide +kernel
theorem dX3_turn_95 : decode cX3_turn 95 = .ok (.getfield 95, 3) := by decide +kernel
theorem dX3_turn_98 : decode cX3_turn 98 = .ok (.iload_n 1, 1) := by decide +kernel
theorem dX3_turn_99 : decode cX3_turn 99 = .ok (.iload_n 3, 1) := by decide +kernel
theorem dX3_turn_100 : decode cX3_turn 100 = .ok (.iastore, 1) := by decide +kernel
theorem dX3_turn_101 : decode cX3_turn 101 = .ok (.iload 4, 2) := by decide +kernel
theorem dX3_turn_103 : decode cX3_turn 103 = .ok (.ireturn, 1) := by decide +kernel
set_option maxRecDepth 20000 in
theorem ggX3_hours_X3_isWithin : GoodIn wsX3_hours wsX3_isWithin := goodIn_r _ [10] (by decide +kernel) (by decide +kernel)
set_option maxRecDepth 20000 in
theorem gX3_hours_X3_isWithin : GoodIn wsX3_hours (va_wsS RX3 133 yX3_isWithin wsX3_isWithin) := goodIn_app (goodIn_of _ (by decide +kernel)) ggX3_hours_X3_isWithin
set_option maxRecDepth 20000 in
theorem ggX3_hours_X3_refuse : GoodIn wsX3_hours wsX3_refuse := goodIn_r _ [14, 15, 37, 38, 39, 40, 41, 42, 43, 44, 45, 46, 47, 48] (by decide +kernel) (by decide +kernel)
set_option maxRecDepth 20000 in
theorem gX3_hours_X3_refuse : GoodIn wsX3_hours (wsV RX3 55 RX3 yX3_refuse wsX3_refuse) := goodIn_app (goodIn_of _ (by decide +kernel)) ggX3_hours_X3_refuse
set_option maxRecDepth 20000 in
theorem ggX3_hours_X0_passHours : GoodIn wsX3_hours wsX0_passHours := goodIn_r _ [20, 21, 22, 23, 24, 25, 19, 26, 27, 28, 29, 30, 31, 32, 33, 34, 35, 36, 49, 50, 51, 52, 53, 54, 55, 56, 57, 58, 59] (by decide +kernel) (by decide +kernel)
set_option maxRecDepth 20000 in
theorem gX3_hours_X0_passHours : GoodIn wsX3_hours (wsV RX3 160 RX0 yX0_passHours wsX0_passHours) := goodIn_app (goodIn_of _ (by decide +kernel)) ggX3_hours_X0_passHours
theorem dX3_hours_0 : decode cX3_hours 0 = .ok (.iload_n 1, 1) := by decide +kernel
theorem dX3_hours_1 : decode cX3_hours 1 = .ok (.iconst 1, 1) := by decide +kernel
theorem dX3_hours_2 : decode cX3_hours 2 = .ok (.bipush 60, 2) := by decide +kernel
theorem dX3_hours_4 : decode cX3_hours 4 = .ok (.sipush 999, 3) := by decide +kernel
theorem dX3_hours_7 : decode cX3_hours 7 = .ok (.aload_n 0, 1) := by decide +kernel
theorem dX3_hours_8 : decode cX3_hours 8 = .ok (.getfield 10, 3) := by decide +kernel
theorem dX3_hours_11 : decode cX3_hours 11 = .ok (.getfield 107, 3) := by decide +kernel
theorem dX3_hours_14 : decode cX3_hours 14 = .ok (.isub, 1) := by decide +kernel
theorem dX3_hours_15 : decode cX3_hours 15 = .ok (.invokestatic 155, 3) := by decide +kernel
theorem dX3_hours_18 : decode cX3_hours 18 = .ok (.invokestatic 133, 3) := by decide +kernel
theorem dX3_hours_21 : decode cX3_hours 21 = .ok (.ifCond .ne 20, 3) := by decide +kernel
theorem dX3_hours_24 : decode cX3_hours 24 = .ok (.aload_n 0, 1) := by decide +kernel
theorem dX3_hours_25 : decode cX3_hours 25 = .ok (.iload_n 1, 1) := by decide +kernel
theorem dX3_hours_26 : decode cX3_hours 26 = .ok (.iconst 1, 1) := by decide +kernel
theorem dX3_hours_27 : decode cX3_hours 27 = .ok (.if_icmp .ge 8, 3) := by decide +kernel
theorem dX3_hours_30 : decode cX3_hours 30 = .ok (.bipush (-4), 2) := by decide +kernel
theorem dX3_hours_32 : decode cX3_hours 32 = .ok (.goto 5, 3) := by decide +kernel
theorem dX3_hours_35 : decode cX3_hours 35 = .ok (.bipush (-6), 2) := by decide +kernel
theorem dX3_hours_37 : decode cX3_hours 37 = .ok (.invokevirtual 55, 3) := by decide +kernel
theorem dX3_hours_40 : decode cX3_hours 40 = .ok (.ireturn, 1) := by decide +kernel
theorem dX3_hours_41 : decode cX3_hours 41 = .ok (.aload_n 0, 1) := by decide +kernel
theorem dX3_hours_42 : decode cX3_hours 42 = .ok (.getfield 10, 3) := by decide +kernel
theorem dX3_hours_45 : decode cX3_hours 45 = .ok (.iload_n 1, 1) := by decide +kernel
theorem dX3_hours_46 : decode cX3_hours 46 = .ok (.invokevirtual 160, 3) := by decide +kernel
theorem dX3_hours_49 : decode cX3_hours 49 = .ok (.aload_n 0, 1) := by decide +kernel
theorem dX3_hours_50 : decode cX3_hours 50 = .ok (.getfield 10, 3) := by decide +kernel
theorem dX3_hours_53 : decode cX3_hours 53 = .ok (.getfield 107, 3) := by decide +kernel
theorem dX3_hours_56 : decode cX3_hours 56 = .ok (.ireturn, 1) := by decide +kernel
set_option maxRecDepth 20000 in
theorem ggX3_seen_X3_isBranch : GoodIn wsX3_seen wsX3_isBranch := goodIn_r _ [5, 6, 7, 4, 8] (by decide +kernel) (by decide +kernel)
set_option maxRecDepth 20000 in
theorem gX3_seen_X3_isBranch : GoodIn wsX3_seen (va_wsS RX3 163 yX3_isBranch wsX3_isBranch) := goodIn_app (goodIn_of _ (by decide +kernel)) ggX3_seen_X3_isBranch
set_option maxRecDepth 20000 in
theorem ggX3_seen_X3_refuse : GoodIn wsX3_seen wsX3_refuse := goodIn_r _ [12, 13, 80, 81, 82, 83, 84, 85, 86, 87, 88, 89, 90, 91] (by decide +kernel) (by decide +kernel)
set_option maxRecDepth 20000 in
theorem gX3_seen_X3_refuse : GoodIn wsX3_seen (wsV RX3 55 RX3 yX3_refuse wsX3_refuse) := goodIn_app (goodIn_of _ (by decide +kernel)) ggX3_seen_X3_refuse
set_option maxRecDepth 20000 in
theorem ggX3_seen_X0_sightFrom : GoodIn wsX3_seen wsX0_sightFrom := goodIn_r _ [18, 19, 20, 21, 22, 17, 23, 24, 25, 26, 27, 28, 29, 30, 31, 32, 33, 34, 35, 36, 37, 38, 39, 40, 41, 42, 43, 44, 45, 46, 47, 48, 49, 50, 51, 92, 93, 94, 95, 96, 97, 98, 99, 100, 101, 102] (by decide +kernel) (by decide +kernel)
set_option maxRecDepth 20000 in
theorem gX3_seen_X0_sightFrom : GoodIn wsX3_seen (wsV RX3 166 RX0 yX0_sightFrom wsX0_sightFrom) := goodIn_app (goodIn_of _ (by decide +kernel)) ggX3_seen_X0_sightFrom
set_option maxRecDepth 20000 in
theorem ggX3_seen_X0_verdictFrom : GoodIn wsX3_seen wsX0_verdictFrom := goodIn_r _ [55, 56, 15, 16, 17, 18, 19, 20, 21, 22, 23, 24, 25, 26, 27, 28, 29, 30, 31, 32, 33, 34, 35, 36, 37, 38, 39, 40, 41, 42, 43, 44, 45, 46, 47, 48, 49, 50, 51, 57, 58, 59, 60, 61, 62, 63, 64, 65, 66, 67, 68, 69, 70, 7, 4, 8, 92, 93, 94, 95, 96, 97, 98, 99, 100, 101, 102] (by decide +kernel) (by decide +kernel)
set_option maxRecDepth 20000 in
theorem gX3_seen_X0_verdictFrom : GoodIn wsX3_seen (wsV RX3 169 RX0 yX0_verdictFrom wsX0_verdictFrom) := goodIn_app (goodIn_of _ (by decide +kernel)) ggX3_seen_X0_verdictFrom
set_option maxRecDepth 20000 in
theorem ggX3_seen_X0_deciderIn : GoodIn wsX3_seen wsX0_deciderIn := goodIn_r _ [65, 19, 61, 39, 66, 92, 93, 94, 95, 96, 97, 98, 99, 100, 101, 102] (by decide +kernel) (by decide +kernel)
set_option maxRecDepth 20000 in
theorem gX3_seen_X0_deciderIn : GoodIn wsX3_seen (wsV RX3 172 RX0 yX0_deciderIn wsX0_deciderIn) := goodIn_app (goodIn_of _ (by decide +kernel)) ggX3_seen_X0_deciderIn
set_option maxRecDepth 20000 in
theorem ggX3_seen_X0_farthestIn : GoodIn wsX3_seen wsX0_farthestIn := goodIn_r _ [75, 19, 24, 92, 93, 94, 95, 96, 97, 98, 99, 100, 101, 102] (by decide +kernel) (by decide +kernel)
set_option maxRecDepth 20000 in
theorem gX3_seen_X0_farthestIn : GoodIn wsX3_seen (wsV RX3 175 RX0 yX0_farthestIn wsX0_farthestIn) := goodIn_app (goodIn_of _ (by decide +kernel)) ggX3_seen_X0_farthestIn
set_option maxRecDepth 20000 in
theorem ggX3_seen_X0_blindFrom : GoodIn wsX3_seen wsX0_blindFrom := goodIn_r _ [79, 34, 42, 43, 44, 17, 45, 46, 47, 48, 49, 50, 51, 92, 93, 94, 95, 96, 97, 98, 99, 100, 101, 102] (by decide +kernel) (by decide +kernel)
set_option maxRecDepth 20000 in
theorem gX3_seen_X0_blindFrom : GoodIn wsX3_seen (wsV RX3 178 RX0 yX0_blindFrom wsX0_blindFrom) := goodIn_app (goodIn_of _ (by decide +kernel)) ggX3_seen_X0_blindFrom
theorem dX3_seen_0 : decode cX3_seen 0 = .ok (.iload_n 1, 1) := by decide +kernel
theorem dX3_seen_1 : decode cX3_seen 1 = .ok (.invokestatic 163, 3) := by decide +kernel
theorem dX3_seen_4 : decode cX3_seen 4 = .ok (.ifCond .ne 9, 3) := by decide +kernel
theorem dX3_seen_7 : decode cX3_seen 7 = .ok (.aload_n 0, 1) := by decide +kernel
theorem dX3_seen_8 : decode cX3_seen 8 = .ok (.iconst (-1), 1) := by decide +kernel
theorem dX3_seen_9 : decode cX3_seen 9 = .ok (.invokevirtual 55, 3) := by decide +kernel
theorem dX3_seen_12 : decode cX3_seen 12 = .ok (.ireturn, 1) := by decide +kernel
theorem dX3_seen_13 : decode cX3_seen 13 = .ok (.iload_n 2, 1) := by decide +kernel
theorem dX3_seen_14 : decode cX3_seen 14 = .ok (.tableswitch 93 0 4 #[34, 43, 52, 68, 84], 34) := by decide +kernel
theorem dX3_seen_48 : decode cX3_seen 48 = .ok (.aload_n 0, 1) := by decide +kernel
theorem dX3_seen_49 : decode cX3_seen 49 = .ok (.getfield 10, 3) := by decide +kernel
theorem dX3_seen_52 : decode cX3_seen 52 = .ok (.iload_n 1, 1) := by decide +kernel
theorem dX3_seen_53 : decode cX3_seen 53 = .ok (.invokevirtual 166, 3) := by decide +kernel
theorem dX3_seen_56 : decode cX3_seen 56 = .ok (.ireturn, 1) := by decide +kernel
theorem dX3_seen_57 : decode cX3_seen 57 = .ok (.aload_n 0, 1) := by decide +kernel
theorem dX3_seen_58 : decode cX3_seen 58 = .ok (.getfield 10, 3) := by decide +kernel
theorem dX3_seen_61 : decode cX3_seen 61 = .ok (.iload_n 1, 1) := by decide +kernel
theorem dX3_seen_62 : decode cX3_seen 62 = .ok (.invokevirtual 169, 3) := by decide +kernel
theorem dX3_seen_65 : decode cX3_seen 65 = .ok (.ireturn, 1) := by decide +kernel
theorem dX3_seen_66 : decode cX3_seen 66 = .ok (.aload_n 0, 1) := by decide +kernel
theorem dX3_seen_67 : decode cX3_seen 67 = .ok (.getfield 10, 3) := by decide +kernel
theorem dX3_seen_70 : decode cX3_seen 70 = .ok (.aload_n 0, 1) := by decide +kernel
theorem dX3_seen_71 : decode cX3_seen 71 = .ok (.getfield 10, 3) := by decide +kernel
theorem dX3_seen_74 : decode cX3_seen 74 = .ok (.iload_n 1, 1) := by decide +kernel
theorem dX3_seen_75 : decode cX3_seen 75 = .ok (.invokevirtual 166, 3) := by decide +kernel
theorem dX3_seen_78 : decode cX3_seen 78 = .ok (.invokevirtual 172, 3) := by decide +kernel
theorem dX3_seen_81 : decode cX3_seen 81 = .ok (.ireturn, 1) := by decide +kernel
theorem dX3_seen_82 : decode cX3_seen 82 = .ok (.aload_n 0, 1) := by decide +kernel
theorem dX3_seen_83 : decode cX3_seen 83 = .ok (.getfield 10, 3) := by decide +kernel
theorem dX3_seen_86 : decode cX3_seen 86 = .ok (.aload_n 0, 1) := by decide +kernel
theorem dX3_seen_87 : decode cX3_seen 87 = .ok (.getfield 10, 3) := by decide +kernel
theorem dX3_seen_90 : decode cX3_seen 90 = .ok (.iload_n 1, 1) := by decide +kernel
theorem dX3_seen_91 : decode cX3_seen 91 = .ok (.invokevirtual 166, 3) := by decide +kernel
theorem dX3_seen_94 : decode cX3_seen 94 = .ok (.invokevirtual 175, 3) := by decide +kernel
theorem dX3_seen_97 : decode cX3_seen 97 = .ok (.ireturn, 1) := by decide +kernel
theorem dX3_seen_98 : decode cX3_seen 98 = .ok (.aload_n 0, 1) := by decide +kernel
theorem dX3_seen_99 : decode cX3_seen 99 = .ok (.getfield 10, 3) := by decide +kernel
theorem dX3_seen_102 : decode cX3_seen 102 = .ok (.iload_n 1, 1) := by decide +kernel
theorem dX3_seen_103 : decode cX3_seen 103 = .ok (.invokevirtual 178, 3) := by decide +kernel
theorem dX3_seen_106 : decode cX3_seen 106 = .ok (.ireturn, 1) := by decide +kernel
theorem dX3_seen_107 : decode cX3_seen 107 = .ok (.aload_n 0, 1) := by decide +kernel
theorem dX3_seen_108 : decode cX3_seen 108 = .ok (.bipush (-2), 2) := by decide +kernel
theorem dX3_seen_110 : decode cX3_seen 110 = .ok (.invokevirtual 55, 3) := by decide +kernel
theorem dX3_seen_113 : decode cX3_seen 113 = .ok (.ireturn, 1) := by decide +kernel
set_option maxRecDepth 20000 in
theorem ggX3_thingThen_X0_hasThing : GoodIn wsX3_thingThen wsX0_hasThing := goodIn_r _ [7, 8, 9, 10, 11, 72, 73, 74, 75, 76, 77, 78, 79, 80, 81, 82] (by decide +kernel) (by decide +kernel)
set_option maxRecDepth 20000 in
theorem gX3_thingThen_X0_hasThing : GoodIn wsX3_thingThen (wsV RX3 88 RX0 yX0_hasThing wsX0_hasThing) := goodIn_app (goodIn_of _ (by decide +kernel)) ggX3_thingThen_X0_hasThing
set_option maxRecDepth 20000 in
theorem ggX3_thingThen_X3_refuse : GoodIn wsX3_thingThen wsX3_refuse := goodIn_r _ [15, 16, 60, 61, 62, 63, 64, 65, 66, 67, 68, 69, 70, 71] (by decide +kernel) (by decide +kernel)
set_option maxRecDepth 20000 in
theorem gX3_thingThen_X3_refuse : GoodIn wsX3_thingThen (wsV RX3 55 RX3 yX3_refuse wsX3_refuse) := goodIn_app (goodIn_of _ (by decide +kernel)) ggX3_thingThen_X3_refuse
set_option maxRecDepth 20000 in
theorem ggX3_thingThen_X3_isWithin : GoodIn wsX3_thingThen wsX3_isWithin := goodIn_r _ [11] (by decide +kernel) (by decide +kernel)
set_option maxRecDepth 20000 in
theorem gX3_thingThen_X3_isWithin : GoodIn wsX3_thingThen (va_wsS RX3 133 yX3_isWithin wsX3_isWithin) := goodIn_app (goodIn_of _ (by decide +kernel)) ggX3_thingThen_X3_isWithin
set_option maxRecDepth 20000 in
theorem ggX3_thingThen_X3_inMindBehind : GoodIn wsX3_thingThen wsX3_inMindBehind := goodIn_r _ [21, 22, 23, 24, 10, 25, 26, 1, 27, 28, 29, 6, 30, 31, 32, 33, 34, 35, 36, 37, 38, 39, 40, 41, 8, 42, 43, 44, 45, 46, 47, 48, 49, 50, 51, 52, 53, 54, 55, 56, 57, 58, 59, 60, 61, 62, 63, 64, 65, 66, 67, 68, 69, 70, 71, 72, 73, 74, 75, 76, 77, 78, 79, 80, 81, 82] (by decide +kernel) (by decide +kernel)
set_option maxRecDepth 20000 in
theorem gX3_thingThen_X3_inMindBehind : GoodIn wsX3_thingThen (wsV RX3 181 RX3 yX3_inMindBehind wsX3_inMindBehind) := goodIn_app (goodIn_of _ (by decide +kernel)) ggX3_thingThen_X3_inMindBehind
theorem dX3_thingThen_0 : decode cX3_thingThen 0 = .ok (.aload_n 0, 1) := by decide +kernel
theorem dX3_thingThen_1 : decode cX3_thingThen 1 = .ok (.getfield 10, 3) := by decide +kernel
theorem dX3_thingThen_4 : decode cX3_thingThen 4 = .ok (.iload_n 1, 1) := by decide +kernel
theorem dX3_thingThen_5 : decode cX3_thingThen 5 = .ok (.invokevirtual 88, 3) := by decide +kernel
theorem dX3_thingThen_8 : decode cX3_thingThen 8 = .ok (.ifCond .ne 9, 3) := by decide +kernel
theorem dX3_thingThen_11 : decode cX3_thingThen 11 = .ok (.aload_n 0, 1) := by decide +kernel
theorem dX3_thingThen_12 : decode cX3_thingThen 12 = .ok (.iconst (-1), 1) := by decide +kernel
theorem dX3_thingThen_13 : decode cX3_thingThen 13 = .ok (.invokevirtual 55, 3) := by decide +kernel
theorem dX3_thingThen_16 : decode cX3_thingThen 16 = .ok (.ireturn, 1) := by decide +kernel
theorem dX3_thingThen_17 : decode cX3_thingThen 17 = .ok (.iload_n 2, 1) := by decide +kernel
theorem dX3_thingThen_18 : decode cX3_thingThen 18 = .ok (.iconst 0, 1) := by decide +kernel
theorem dX3_thingThen_19 : decode cX3_thingThen 19 = .ok (.bipush 60, 2) := by decide +kernel
theorem dX3_thingThen_21 : decode cX3_thingThen 21 = .ok (.invokestatic 133, 3) := by decide +kernel
theorem dX3_thingThen_24 : decode cX3_thingThen 24 = .ok (.ifCond .ne 19, 3) := by decide +kernel
theorem dX3_thingThen_27 : decode cX3_thingThen 27 = .ok (.aload_n 0, 1) := by decide +kernel
theorem dX3_thingThen_28 : decode cX3_thingThen 28 = .ok (.iload_n 2, 1) := by decide +kernel
theorem dX3_thingThen_29 : decode cX3_thingThen 29 = .ok (.ifCond .ge 8, 3) := by decide +kernel
theorem dX3_thingThen_32 : decode cX3_thingThen 32 = .ok (.bipush (-4), 2) := by decide +kernel
theorem dX3_thingThen_34 : decode cX3_thingThen 34 = .ok (.goto 5, 3) := by decide +kernel
theorem dX3_thingThen_37 : decode cX3_thingThen 37 = .ok (.bipush (-6), 2) := by decide +kernel
theorem dX3_thingThen_39 : decode cX3_thingThen 39 = .ok (.invokevirtual 55, 3) := by decide +kernel
theorem dX3_thingThen_42 : decode cX3_thingThen 42 = .ok (.ireturn, 1) := by decide +kernel
theorem dX3_thingThen_43 : decode cX3_thingThen 43 = .ok (.aload_n 0, 1) := by decide +kernel
theorem dX3_thingThen_44 : decode cX3_thingThen 44 = .ok (.iload_n 2, 1) := by decide +kernel
theorem dX3_thingThen_45 : decode cX3_thingThen 45 = .ok (.invokevirtual 181, 3) := by decide +kernel
theorem dX3_thingThen_48 : decode cX3_thingThen 48 = .ok (.getfield 98, 3) := by decide +kernel
theorem dX3_thingThen_51 : decode cX3_thingThen 51 = .ok (.iload_n 1, 1) := by decide +kernel
theorem dX3_thingThen_52 : decode cX3_thingThen 52 = .ok (.iaload, 1) := by decide +kernel
theorem dX3_thingThen_53 : decode cX3_thingThen 53 = .ok (.ireturn, 1) := by decide +kernel
set_option maxRecDepth 20000 in
theorem ggX3_seenThen_X3_isBranch : GoodIn wsX3_seenThen wsX3_isBranch := goodIn_r _ [4, 5, 6, 3, 7] (by decide +kernel) (by decide +kernel)
set_option maxRecDepth 20000 in
theorem gX3_seenThen_X3_isBranch : GoodIn wsX3_seenThen (va_wsS RX3 163 yX3_isBranch wsX3_isBranch) := goodIn_app (goodIn_of _ (by decide +kernel)) ggX3_seenThen_X3_isBranch
set_option maxRecDepth 20000 in
theorem ggX3_seenThen_X3_refuse : GoodIn wsX3_seenThen wsX3_refuse := goodIn_r _ [11, 12, 106, 107, 108, 109, 110, 111, 112, 113, 114, 115, 116, 117] (by decide +kernel) (by decide +kernel)
set_option maxRecDepth 20000 in
theorem gX3_seenThen_X3_refuse : GoodIn wsX3_seenThen (wsV RX3 55 RX3 yX3_refuse wsX3_refuse) := goodIn_app (goodIn_of _ (by decide +kernel)) ggX3_seenThen_X3_refuse
set_option maxRecDepth 20000 in
theorem ggX3_seenThen_X3_isWithin : GoodIn wsX3_seenThen wsX3_isWithin := goodIn_r _ [7] (by decide +kernel) (by decide +kernel)
set_option maxRecDepth 20000 in
theorem gX3_seenThen_X3_isWithin : GoodIn wsX3_seenThen (va_wsS RX3 133 yX3_isWithin wsX3_isWithin) := goodIn_app (goodIn_of _ (by decide +kernel)) ggX3_seenThen_X3_isWithin
set_option maxRecDepth 20000 in
theorem ggX3_seenThen_X3_isEither : GoodIn wsX3_seenThen wsX3_isEither := goodIn_r _ [15, 5, 6, 3, 7] (by decide +kernel) (by decide +kernel)
set_option maxRecDepth 20000 in
theorem gX3_seenThen_X3_isEither : GoodIn wsX3_seenThen (va_wsS RX3 124 yX3_isEither wsX3_isEither) := goodIn_app (goodIn_of _ (by decide +kernel)) ggX3_seenThen_X3_isEither
set_option maxRecDepth 20000 in
theorem ggX3_seenThen_X3_inMindBehind : GoodIn wsX3_seenThen wsX3_inMindBehind := goodIn_r _ [19, 20, 21, 22, 3, 23, 24, 25, 26, 27, 28, 29, 30, 31, 32, 33, 34, 35, 36, 37, 38, 39, 40, 41, 42, 43, 44, 45, 46, 47, 48, 49, 50, 51, 52, 53, 54, 55, 56, 57, 58, 59, 60, 106, 107, 108, 109, 110, 111, 112, 113, 114, 115, 116, 117, 118, 119, 120, 121, 122, 123, 124, 125, 126, 127, 128] (by decide +kernel) (by decide +kernel)
set_option maxRecDepth 20000 in
theorem gX3_seenThen_X3_inMindBehind : GoodIn wsX3_seenThen (wsV RX3 181 RX3 yX3_inMindBehind wsX3_inMindBehind) := goodIn_app (goodIn_of _ (by decide +kernel)) ggX3_seenThen_X3_inMindBehind
set_option maxRecDepth 20000 in
theorem ggX3_seenThen_X0_sightFrom : GoodIn wsX3_seenThen wsX0_sightFrom := goodIn_r _ [64, 42, 65, 66, 67, 29, 68, 39, 69, 70, 71, 72, 43, 73, 74, 75, 76, 31, 77, 78, 79, 80, 37, 38, 45, 81, 82, 83, 84, 44, 36, 85, 86, 87, 88, 118, 119, 120, 121, 122, 123, 124, 125, 126, 127, 128] (by decide +kernel) (by decide +kernel)
set_option maxRecDepth 20000 in
theorem gX3_seenThen_X0_sightFrom : GoodIn wsX3_seenThen (wsV RX3 166 RX0 yX0_sightFrom wsX0_sightFrom) := goodIn_app (goodIn_of _ (by decide +kernel)) ggX3_seenThen_X0_sightFrom
set_option maxRecDepth 20000 in
theorem ggX3_seenThen_X0_verdictFrom : GoodIn wsX3_seenThen wsX0_verdictFrom := goodIn_r _ [92, 93, 62, 63, 29, 64, 42, 65, 66, 67, 68, 39, 69, 70, 71, 72, 43, 73, 74, 75, 76, 31, 77, 78, 79, 80, 37, 38, 45, 81, 82, 83, 84, 44, 36, 85, 86, 87, 88, 94, 95, 96, 97, 40, 98, 99, 100, 101, 41, 102, 103, 104, 105, 6, 3, 7, 118, 119, 120, 121, 122, 123, 124, 125, 126, 127, 128] (by decide +kernel) (by decide +kernel)
set_option maxRecDepth 20000 in
theorem gX3_seenThen_X0_verdictFrom : GoodIn wsX3_seenThen (wsV RX3 169 RX0 yX0_verdictFrom wsX0_verdictFrom) := goodIn_app (goodIn_of _ (by decide +kernel)) ggX3_seenThen_X0_verdictFrom
theorem dX3_seenThen_0 : decode cX3_seenThen 0 = .ok (.iload_n 1, 1) := by decide +kernel
theorem dX3_seenThen_1 : decode cX3_seenThen 1 = .ok (.invokestatic 163, 3) := by decide +kernel
theorem dX3_seenThen_4 : decode cX3_seenThen 4 = .ok (.ifCond .ne 9, 3) := by decide +kernel
theorem dX3_seenThen_7 : decode cX3_seenThen 7 = .ok (.aload_n 0, 1) := by decide +kernel
theorem dX3_seenThen_8 : decode cX3_seenThen 8 = .ok (.iconst (-1), 1) := by decide +kernel
theorem dX3_seenThen_9 : decode cX3_seenThen 9 = .ok (.invokevirtual 55, 3) := by decide +kernel
theorem dX3_seenThen_12 : decode cX3_seenThen 12 = .ok (.ireturn, 1) := by decide +kernel
theorem dX3_seenThen_13 : decode cX3_seenThen 13 = .ok (.iload_n 2, 1) := by decide +kernel
theorem dX3_seenThen_14 : decode cX3_seenThen 14 = .ok (.iconst 0, 1) := by decide +kernel
theorem dX3_seenThen_15 : decode cX3_seenThen 15 = .ok (.bipush 60, 2) := by decide +kernel
theorem dX3_seenThen_17 : decode cX3_seenThen 17 = .ok (.invokestatic 133, 3) := by decide +kernel
theorem dX3_seenThen_20 : decode cX3_seenThen 20 = .ok (.ifCond .ne 19, 3) := by decide +kernel
theorem dX3_seenThen_23 : decode cX3_seenThen 23 = .ok (.aload_n 0, 1) := by decide +kernel
theorem dX3_seenThen_24 : decode cX3_seenThen 24 = .ok (.iload_n 2, 1) := by decide +kernel
theorem dX3_seenThen_25 : decode cX3_seenThen 25 = .ok (.ifCond .ge 8, 3) := by decide +kernel
theorem dX3_seenThen_28 : decode cX3_seenThen 28 = .ok (.bipush (-4), 2) := by decide +kernel
theorem dX3_seenThen_30 : decode cX3_seenThen 30 = .ok (.goto 5, 3) := by decide +kernel
theorem dX3_seenThen_33 : decode cX3_seenThen 33 = .ok (.bipush (-6), 2) := by decide +kernel
theorem dX3_seenThen_35 : decode cX3_seenThen 35 = .ok (.invokevirtual 55, 3) := by decide +kernel
theorem dX3_seenThen_38 : decode cX3_seenThen 38 = .ok (.ireturn, 1) := by decide +kernel
theorem dX3_seenThen_39 : decode cX3_seenThen 39 = .ok (.iload_n 3, 1) := by decide +kernel
theorem dX3_seenThen_40 : decode cX3_seenThen 40 = .ok (.invokestatic 124, 3) := by decide +kernel
theorem dX3_seenThen_43 : decode cX3_seenThen 43 = .ok (.ifCond .ne 10, 3) := by decide +kernel
theorem dX3_seenThen_46 : decode cX3_seenThen 46 = .ok (.aload_n 0, 1) := by decide +kernel
theorem dX3_seenThen_47 : decode cX3_seenThen 47 = .ok (.bipush (-2), 2) := by decide +kernel
theorem dX3_seenThen_49 : decode cX3_seenThen 49 = .ok (.invokevirtual 55, 3) := by decide +kernel
theorem dX3_seenThen_52 : decode cX3_seenThen 52 = .ok (.ireturn, 1) := by decide +kernel
theorem dX3_seenThen_53 : decode cX3_seenThen 53 = .ok (.aload_n 0, 1) := by decide +kernel
theorem dX3_seenThen_54 : decode cX3_seenThen 54 = .ok (.iload_n 2, 1) := by decide +kernel
theorem dX3_seenThen_55 : decode cX3_seenThen 55 = .ok (.invokevirtual 181, 3) := by decide +kernel
theorem dX3_seenThen_58 : decode cX3_seenThen 58 = .ok (.astore 4, 2) := by decide +kernel
theorem dX3_seenThen_60 : decode cX3_seenThen 60 = .ok (.iload_n 3, 1) := by decide +kernel
theorem dX3_seenThen_61 : decode cX3_seenThen 61 = .ok (.ifCond .ne 12, 3) := by decide +kernel
theorem dX3_seenThen_64 : decode cX3_seenThen 64 = .ok (.aload 4, 2) := by decide +kernel
theorem dX3_seenThen_66 : decode cX3_seenThen 66 = .ok (.iload_n 1, 1) := by decide +kernel
theorem dX3_seenThen_67 : decode cX3_seenThen 67 = .ok (.invokevirtual 166, 3) := by decide +kernel
theorem dX3_seenThen_70 : decode cX3_seenThen 70 = .ok (.goto 9, 3) := by decide +kernel
theorem dX3_seenThen_73 : decode cX3_seenThen 73 = .ok (.aload 4, 2) := by decide +kernel
theorem dX3_seenThen_75 : decode cX3_seenThen 75 = .ok (.iload_n 1, 1) := by decide +kernel
theorem dX3_seenThen_76 : decode cX3_seenThen 76 = .ok (.invokevirtual 169, 3) := by decide +kernel
theorem dX3_seenThen_79 : decode cX3_seenThen 79 = .ok (.ireturn, 1) := by decide +kernel
set_option maxRecDepth 20000 in
theorem ggX3_falls_X3_isBranch : GoodIn wsX3_falls wsX3_isBranch := goodIn_r _ [4, 5, 6, 3, 7] (by decide +kernel) (by decide +kernel)
set_option maxRecDepth 20000 in
theorem gX3_falls_X3_isBranch : GoodIn wsX3_falls (va_wsS RX3 163 yX3_isBranch wsX3_isBranch) := goodIn_app (goodIn_of _ (by decide +kernel)) ggX3_falls_X3_isBranch
set_option maxRecDepth 20000 in
theorem ggX3_falls_X3_refuse : GoodIn wsX3_falls wsX3_refuse := goodIn_r _ [11, 12, 101, 102, 103, 104, 105, 106, 107, 108, 109, 110, 111, 112] (by decide +kernel) (by decide +kernel)
set_option maxRecDepth 20000 in
theorem gX3_falls_X3_refuse : GoodIn wsX3_falls (wsV RX3 55 RX3 yX3_refuse wsX3_refuse) := goodIn_app (goodIn_of _ (by decide +kernel)) ggX3_falls_X3_refuse
set_option maxRecDepth 20000 in
theorem ggX3_falls_X3_isVerdict : GoodIn wsX3_falls wsX3_isVerdict := goodIn_r _ [15, 5, 6, 3, 7] (by decide +kernel) (by decide +kernel)
set_option maxRecDepth 20000 in
theorem gX3_falls_X3_isVerdict : GoodIn wsX3_falls (va_wsS RX3 145 yX3_isVerdict wsX3_isVerdict) := goodIn_app (goodIn_of _ (by decide +kernel)) ggX3_falls_X3_isVerdict
set_option maxRecDepth 20000 in
theorem ggX3_falls_X3_inMind : GoodIn wsX3_falls wsX3_inMind := goodIn_r _ [19, 20, 21, 22, 23, 24, 25, 26, 27, 28, 29, 30, 31, 32, 33, 34, 35, 36, 37, 38, 39, 40, 41, 101, 102, 103, 104, 105, 106, 107, 108, 109, 110, 111, 112, 113, 114, 115, 116, 117, 118, 119, 120, 121, 122, 123] (by decide +kernel) (by decide +kernel)
set_option maxRecDepth 20000 in
theorem gX3_falls_X3_inMind : GoodIn wsX3_falls (wsV RX3 66 RX3 yX3_inMind wsX3_inMind) := goodIn_app (goodIn_of _ (by decide +kernel)) ggX3_falls_X3_inMind
set_option maxRecDepth 20000 in
theorem ggX3_falls_X0_verdictFrom : GoodIn wsX3_falls wsX0_verdictFrom := goodIn_r _ [45, 46, 47, 48, 25, 49, 38, 50, 51, 52, 53, 35, 54, 55, 56, 57, 39, 58, 59, 60, 61, 27, 62, 63, 64, 65, 33, 34, 41, 66, 67, 68, 69, 40, 32, 70, 71, 72, 73, 74, 75, 76, 77, 36, 78, 79, 80, 81, 37, 82, 83, 84, 85, 6, 3, 7, 113, 114, 115, 116, 117, 118, 119, 120, 121, 122, 123] (by decide +kernel) (by decide +kernel)
set_option maxRecDepth 20000 in
theorem gX3_falls_X0_verdictFrom : GoodIn wsX3_falls (wsV RX3 169 RX0 yX0_verdictFrom wsX0_verdictFrom) := goodIn_app (goodIn_of _ (by decide +kernel)) ggX3_falls_X0_verdictFrom
set_option maxRecDepth 20000 in
theorem ggX3_falls_X0_passHours : GoodIn wsX3_falls wsX0_passHours := goodIn_r _ [89, 41, 38, 90, 91, 92, 25, 93, 33, 34, 94, 95, 96, 97, 98, 99, 100, 35, 113, 114, 115, 116, 117, 118, 119, 120, 121, 122, 123] (by decide +kernel) (by decide +kernel)
set_option maxRecDepth 20000 in
theorem gX3_falls_X0_passHours : GoodIn wsX3_falls (wsV RX3 160 RX0 yX0_passHours wsX0_passHours) := goodIn_app (goodIn_of _ (by decide +kernel)) ggX3_falls_X0_passHours
theorem dX3_falls_0 : decode cX3_falls 0 = .ok (.iload_n 1, 1) := by decide +kernel
theorem dX3_falls_1 : decode cX3_falls 1 = .ok (.invokestatic 163, 3) := by decide +kernel
theorem dX3_falls_4 : decode cX3_falls 4 = .ok (.ifCond .ne 9, 3) := by decide +kernel
theorem dX3_falls_7 : decode cX3_falls 7 = .ok (.aload_n 0, 1) := by decide +kernel
theorem dX3_falls_8 : decode cX3_falls 8 = .ok (.iconst (-1), 1) := by decide +kernel
theorem dX3_falls_9 : decode cX3_falls 9 = .ok (.invokevirtual 55, 3) := by decide +kernel
theorem dX3_falls_12 : decode cX3_falls 12 = .ok (.ireturn, 1) := by decide +kernel
theorem dX3_falls_13 : decode cX3_falls 13 = .ok (.iload_n 2, 1) := by decide +kernel
theorem dX3_falls_14 : decode cX3_falls 14 = .ok (.invokestatic 145, 3) := by decide +kernel
theorem dX3_falls_17 : decode cX3_falls 17 = .ok (.ifCond .ne 10, 3) := by decide +kernel
theorem dX3_falls_20 : decode cX3_falls 20 = .ok (.aload_n 0, 1) := by decide +kernel
theorem dX3_falls_21 : decode cX3_falls 21 = .ok (.bipush (-2), 2) := by decide +kernel
theorem dX3_falls_23 : decode cX3_falls 23 = .ok (.invokevirtual 55, 3) := by decide +kernel
theorem dX3_falls_26 : decode cX3_falls 26 = .ok (.ireturn, 1) := by decide +kernel
theorem dX3_falls_27 : decode cX3_falls 27 = .ok (.aload_n 0, 1) := by decide +kernel
theorem dX3_falls_28 : decode cX3_falls 28 = .ok (.invokevirtual 66, 3) := by decide +kernel
theorem dX3_falls_31 : decode cX3_falls 31 = .ok (.astore_n 3, 1) := by decide +kernel
theorem dX3_falls_32 : decode cX3_falls 32 = .ok (.iconst 0, 1) := by decide +kernel
theorem dX3_falls_33 : decode cX3_falls 33 = .ok (.istore 4, 2) := by decide +kernel
theorem dX3_falls_35 : decode cX3_falls 35 = .ok (.iload 4, 2) := by decide +kernel
theorem dX3_falls_37 : decode cX3_falls 37 = .ok (.bipush 60, 2) := by decide +kernel
theorem dX3_falls_39 : decode cX3_falls 39 = .ok (.if_icmp .gt 26, 3) := by decide +kernel
theorem dX3_falls_42 : decode cX3_falls 42 = .ok (.aload_n 3, 1) := by decide +kernel
theorem dX3_falls_43 : decode cX3_falls 43 = .ok (.iload_n 1, 1) := by decide +kernel
theorem dX3_falls_44 : decode cX3_falls 44 = .ok (.invokevirtual 169, 3) := by decide +kernel
theorem dX3_falls_47 : decode cX3_falls 47 = .ok (.iload_n 2, 1) := by decide +kernel
theorem dX3_falls_48 : decode cX3_falls 48 = .ok (.if_icmp .ne 6, 3) := by decide +kernel
theorem dX3_falls_51 : decode cX3_falls 51 = .ok (.iload 4, 2) := by decide +kernel
theorem dX3_falls_53 : decode cX3_falls 53 = .ok (.ireturn, 1) := by decide +kernel
theorem dX3_falls_54 : decode cX3_falls 54 = .ok (.aload_n 3, 1) := by decide +kernel
theorem dX3_falls_55 : decode cX3_falls 55 = .ok (.iconst 1, 1) := by decide +kernel
theorem dX3_falls_56 : decode cX3_falls 56 = .ok (.invokevirtual 160, 3) := by decide +kernel
theorem dX3_falls_59 : decode cX3_falls 59 = .ok (.iinc 4 1, 3) := by decide +kernel
theorem dX3_falls_62 : decode cX3_falls 62 = .ok (.goto (-27), 3) := by decide +kernel
theorem dX3_falls_65 : decode cX3_falls 65 = .ok (.bipush (-9), 2) := by decide +kernel
theorem dX3_falls_67 : decode cX3_falls 67 = .ok (.ireturn, 1) := by decide +kernel
set_option maxRecDepth 20000 in
theorem ggX3_sight_X3_isBranch : GoodIn wsX3_sight wsX3_isBranch := goodIn_r _ [5, 6, 7, 4, 8] (by decide +kernel) (by decide +kernel)
set_option maxRecDepth 20000 in
theorem gX3_sight_X3_isBranch : GoodIn wsX3_sight (va_wsS RX3 163 yX3_isBranch wsX3_isBranch) := goodIn_app (goodIn_of _ (by decide +kernel)) ggX3_sight_X3_isBranch
set_option maxRecDepth 20000 in
theorem ggX3_sight_X0_hasThing : GoodIn wsX3_sight wsX0_hasThing := goodIn_r _ [13, 14, 7, 4, 8, 97, 98, 99, 100, 101, 102, 103, 104, 105, 106, 107] (by decide +kernel) (by decide +kernel)
set_option maxRecDepth 20000 in
theorem gX3_sight_X0_hasThing : GoodIn wsX3_sight (wsV RX3 88 RX0 yX0_hasThing wsX0_hasThing) := goodIn_app (goodIn_of _ (by decide +kernel)) ggX3_sight_X0_hasThing
set_option maxRecDepth 20000 in
theorem ggX3_sight_X3_refuse : GoodIn wsX3_sight wsX3_refuse := goodIn_r _ [18, 19, 85, 86, 87, 88, 89, 90, 91, 92, 93, 94, 95, 96] (by decide +kernel) (by decide +kernel)
set_option maxRecDepth 20000 in
theorem gX3_sight_X3_refuse : GoodIn wsX3_sight (wsV RX3 55 RX3 yX3_refuse wsX3_refuse) := goodIn_app (goodIn_of _ (by decide +kernel)) ggX3_sight_X3_refuse
set_option maxRecDepth 20000 in
theorem ggX3_sight_X3_isEither : GoodIn wsX3_sight wsX3_isEither := goodIn_r _ [22, 6, 7, 4, 8] (by decide +kernel) (by decide +kernel)
set_option maxRecDepth 20000 in
theorem gX3_sight_X3_isEither : GoodIn wsX3_sight (va_wsS RX3 124 yX3_isEither wsX3_isEither) := goodIn_app (goodIn_of _ (by decide +kernel)) ggX3_sight_X3_isEither
set_option maxRecDepth 20000 in
theorem ggX3_sight_X3_inMind : GoodIn wsX3_sight wsX3_inMind := goodIn_r _ [26, 27, 1, 28, 29, 30, 12, 31, 32, 33, 34, 35, 36, 37, 38, 39, 40, 41, 42, 14, 43, 44, 45, 85, 86, 87, 88, 89, 90, 91, 92, 93, 94, 95, 96, 97, 98, 99, 100, 101, 102, 103, 104, 105, 106, 107] (by decide +kernel) (by decide +kernel)
set_option maxRecDepth 20000 in
theorem gX3_sight_X3_inMind : GoodIn wsX3_sight (wsV RX3 66 RX3 yX3_inMind wsX3_inMind) := goodIn_app (goodIn_of _ (by decide +kernel)) ggX3_sight_X3_inMind
set_option maxRecDepth 20000 in
theorem ggX3_sight_X0_isSeen : GoodIn wsX3_sight wsX0_isSeen := goodIn_r _ [49, 40, 50, 51, 52, 12, 53, 43, 54, 55, 56, 57, 32, 58, 59, 60, 61, 38, 39, 45, 62, 63, 64, 65, 44, 37, 66, 67, 68, 69, 97, 98, 99, 100, 101, 102, 103, 104, 105, 106, 107] (by decide +kernel) (by decide +kernel)
set_option maxRecDepth 20000 in
theorem gX3_sight_X0_isSeen : GoodIn wsX3_sight (wsV RX3 185 RX0 yX0_isSeen wsX0_isSeen) := goodIn_app (goodIn_of _ (by decide +kernel)) ggX3_sight_X0_isSeen
set_option maxRecDepth 20000 in
theorem ggX3_sight_X0_passHours : GoodIn wsX3_sight wsX0_passHours := goodIn_r _ [73, 45, 14, 74, 75, 76, 12, 77, 38, 39, 78, 79, 80, 81, 82, 83, 84, 40, 97, 98, 99, 100, 101, 102, 103, 104, 105, 106, 107] (by decide +kernel) (by decide +kernel)
set_option maxRecDepth 20000 in
theorem gX3_sight_X0_passHours : GoodIn wsX3_sight (wsV RX3 160 RX0 yX0_passHours wsX0_passHours) := goodIn_app (goodIn_of _ (by decide +kernel)) ggX3_sight_X0_passHours
theorem dX3_sight_0 : decode cX3_sight 0 = .ok (.iload_n 1, 1) := by decide +kernel
theorem dX3_sight_1 : decode cX3_sight 1 = .ok (.invokestatic 163, 3) := by decide +kernel
theorem dX3_sight_4 : decode cX3_sight 4 = .ok (.ifCond .eq 14, 3) := by decide +kernel
theorem dX3_sight_7 : decode cX3_sight 7 = .ok (.aload_n 0, 1) := by decide +kernel
theorem dX3_sight_8 : decode cX3_sight 8 = .ok (.getfield 10, 3) := by decide +kernel
theorem dX3_sight_11 : decode cX3_sight 11 = .ok (.iload_n 2, 1) := by decide +kernel
theorem dX3_sight_12 : decode cX3_sight 12 = .ok (.invokevirtual 88, 3) := by decide +kernel
theorem dX3_sight_15 : decode cX3_sight 15 = .ok (.ifCond .ne 9, 3) := by decide +kernel
theorem dX3_sight_18 : decode cX3_sight 18 = .ok (.aload_n 0, 1) := by decide +kernel
theorem dX3_sight_19 : decode cX3_sight 19 = .ok (.iconst (-1), 1) := by decide +kernel
theorem dX3_sight_20 : decode cX3_sight 20 = .ok (.invokevirtual 55, 3) := by decide +kernel
theorem dX3_sight_23 : decode cX3_sight 23 = .ok (.ireturn, 1) := by decide +kernel
theorem dX3_sight_24 : decode cX3_sight 24 = .ok (.iload_n 3, 1) := by decide +kernel
theorem dX3_sight_25 : decode cX3_sight 25 = .ok (.invokestatic 124, 3) := by decide +kernel
theorem dX3_sight_28 : decode cX3_sight 28 = .ok (.ifCond .ne 10, 3) := by decide +kernel
theorem dX3_sight_31 : decode cX3_sight 31 = .ok (.aload_n 0, 1) := by decide +kernel
theorem dX3_sight_32 : decode cX3_sight 32 = .ok (.bipush (-2), 2) := by decide +kernel
theorem dX3_sight_34 : decode cX3_sight 34 = .ok (.invokevirtual 55, 3) := by decide +kernel
theorem dX3_sight_37 : decode cX3_sight 37 = .ok (.ireturn, 1) := by decide +kernel
theorem dX3_sight_38 : decode cX3_sight 38 = .ok (.bipush (-9), 2) := by decide +kernel
theorem dX3_sight_40 : decode cX3_sight 40 = .ok (.istore 4, 2) := by decide +kernel
theorem dX3_sight_42 : decode cX3_sight 42 = .ok (.iconst 0, 1) := by decide +kernel
theorem dX3_sight_43 : decode cX3_sight 43 = .ok (.istore 5, 2) := by decide +kernel
theorem dX3_sight_45 : decode cX3_sight 45 = .ok (.aload_n 0, 1) := by decide +kernel
theorem dX3_sight_46 : decode cX3_sight 46 = .ok (.invokevirtual 66, 3) := by decide +kernel
theorem dX3_sight_49 : decode cX3_sight 49 = .ok (.astore 6, 2) := by decide +kernel
theorem dX3_sight_51 : decode cX3_sight 51 = .ok (.iconst 0, 1) := by decide +kernel
theorem dX3_sight_52 : decode cX3_sight 52 = .ok (.istore 7, 2) := by decide +kernel
theorem dX3_sight_54 : decode cX3_sight 54 = .ok (.iload 7, 2) := by decide +kernel
theorem dX3_sight_56 : decode cX3_sight 56 = .ok (.bipush 60, 2) := by decide +kernel
theorem dX3_sight_58 : decode cX3_sight 58 = .ok (.if_icmp .gt 42, 3) := by decide +kernel
theorem dX3_sight_61 : decode cX3_sight 61 = .ok (.aload 6, 2) := by decide +kernel
theorem dX3_sight_63 : decode cX3_sight 63 = .ok (.iload_n 2, 1) := by decide +kernel
theorem dX3_sight_64 : decode cX3_sight 64 = .ok (.iload_n 1, 1) := by decide +kernel
theorem dX3_sight_65 : decode cX3_sight 65 = .ok (.invokevirtual 185, 3) := by decide +kernel
theorem dX3_sight_68 : decode cX3_sight 68 = .ok (.ifCond .eq 20, 3) := by decide +kernel
theorem dX3_sight_71 : decode cX3_sight 71 = .ok (.iload 5, 2) := by decide +kernel
theorem dX3_sight_73 : decode cX3_sight 73 = .ok (.ifCond .ne 8, 3) := by decide +kernel
theorem dX3_sight_76 : decode cX3_sight 76 = .ok (.iload 7, 2) := by decide +kernel
theorem dX3_sight_78 : decode cX3_sight 78 = .ok (.goto 5, 3) := by decide +kernel
theorem dX3_sight_81 : decode cX3_sight 81 = .ok (.iload 4, 2) := by decide +kernel
theorem dX3_sight_83 : decode cX3_sight 83 = .ok (.istore 4, 2) := by decide +kernel
theorem dX3_sight_85 : decode cX3_sight 85 = .ok (.iinc 5 1, 3) := by decide +kernel
theorem dX3_sight_88 : decode cX3_sight 88 = .ok (.aload 6, 2) := by decide +kernel
theorem dX3_sight_90 : decode cX3_sight 90 = .ok (.iconst 1, 1) := by decide +kernel
theorem dX3_sight_91 : decode cX3_sight 91 = .ok (.invokevirtual 160, 3) := by decide +kernel
theorem dX3_sight_94 : decode cX3_sight 94 = .ok (.iinc 7 1, 3) := by decide +kernel
theorem dX3_sight_97 : decode cX3_sight 97 = .ok (.goto (-43), 3) := by decide +kernel
theorem dX3_sight_100 : decode cX3_sight 100 = .ok (.iload_n 3, 1) := by decide +kernel
theorem dX3_sight_101 : decode cX3_sight 101 = .ok (.ifCond .ne 8, 3) := by decide +kernel
theorem dX3_sight_104 : decode cX3_sight 104 = .ok (.iload 4, 2) := by decide +kernel
theorem dX3_sight_106 : decode cX3_sight 106 = .ok (.goto 5, 3) := by decide +kernel
theorem dX3_sight_109 : decode cX3_sight 109 = .ok (.iload 5, 2) := by decide +kernel
theorem dX3_sight_111 : decode cX3_sight 111 = .ok (.ireturn, 1) := by decide +kernel
set_option maxRecDepth 20000 in
theorem ggX3_agree_X3_inMind : GoodIn wsX3_agree wsX3_inMind := goodIn_r _ [5, 6, 7, 8, 9, 10, 11, 12, 13, 14, 15, 16, 17, 18, 19, 20, 21, 22, 23, 24, 25, 26, 27, 93, 94, 95, 96, 97, 98, 99, 100, 101, 102, 103, 104, 105, 106, 107, 108, 109, 110, 111, 112, 113, 114, 115] (by decide +kernel) (by decide +kernel)
set_option maxRecDepth 20000 in
theorem gX3_agree_X3_inMind : GoodIn wsX3_agree (wsV RX3 66 RX3 yX3_inMind wsX3_inMind) := goodIn_app (goodIn_of _ (by decide +kernel)) ggX3_agree_X3_inMind
set_option maxRecDepth 20000 in
theorem ggX3_agree_X0_differsAbove : GoodIn wsX3_agree wsX0_differsAbove := goodIn_r _ [31, 32, 33, 34, 11, 35, 36, 37, 38, 39, 24, 40, 41, 42, 43, 21, 44, 45, 46, 47, 25, 48, 49, 50, 51, 13, 52, 53, 54, 55, 19, 20, 27, 56, 57, 58, 59, 26, 18, 60, 61, 62, 63, 64, 65, 66, 67, 22, 68, 69, 70, 71, 23, 72, 73, 74, 75, 76, 4, 77, 105, 106, 107, 108, 109, 110, 111, 112, 113, 114, 115] (by decide +kernel) (by decide +kernel)
set_option maxRecDepth 20000 in
theorem gX3_agree_X0_differsAbove : GoodIn wsX3_agree (wsV RX3 189 RX0 yX0_differsAbove wsX0_differsAbove) := goodIn_app (goodIn_of _ (by decide +kernel)) ggX3_agree_X0_differsAbove
set_option maxRecDepth 20000 in
theorem ggX3_agree_X0_passHours : GoodIn wsX3_agree wsX0_passHours := goodIn_r _ [81, 27, 24, 82, 83, 84, 11, 85, 19, 20, 86, 87, 88, 89, 90, 91, 92, 21, 105, 106, 107, 108, 109, 110, 111, 112, 113, 114, 115] (by decide +kernel) (by decide +kernel)
set_option maxRecDepth 20000 in
theorem gX3_agree_X0_passHours : GoodIn wsX3_agree (wsV RX3 160 RX0 yX0_passHours wsX0_passHours) := goodIn_app (goodIn_of _ (by decide +kernel)) ggX3_agree_X0_passHours
theorem dX3_agree_0 : decode cX3_agree 0 = .ok (.aload_n 0, 1) := by decide +kernel
theorem dX3_agree_1 : decode cX3_agree 1 = .ok (.invokevirtual 66, 3) := by decide +kernel
theorem dX3_agree_4 : decode cX3_agree 4 = .ok (.astore_n 1, 1) := by decide +kernel
theorem dX3_agree_5 : decode cX3_agree 5 = .ok (.iconst 0, 1) := by decide +kernel
theorem dX3_agree_6 : decode cX3_agree 6 = .ok (.istore_n 2, 1) := by decide +kernel
theorem dX3_agree_7 : decode cX3_agree 7 = .ok (.iload_n 2, 1) := by decide +kernel
theorem dX3_agree_8 : decode cX3_agree 8 = .ok (.bipush 60, 2) := by decide +kernel
theorem dX3_agree_10 : decode cX3_agree 10 = .ok (.if_icmp .gt 26, 3) := by decide +kernel
theorem dX3_agree_13 : decode cX3_agree 13 = .ok (.aload_n 1, 1) := by decide +kernel
theorem dX3_agree_14 : decode cX3_agree 14 = .ok (.iconst 0, 1) := by decide +kernel
theorem dX3_agree_15 : decode cX3_agree 15 = .ok (.invokevirtual 189, 3) := by decide +kernel
theorem dX3_agree_18 : decode cX3_agree 18 = .ok (.bipush (-9), 2) := by decide +kernel
theorem dX3_agree_20 : decode cX3_agree 20 = .ok (.if_icmp .ne 5, 3) := by decide +kernel
theorem dX3_agree_23 : decode cX3_agree 23 = .ok (.iload_n 2, 1) := by decide +kernel
theorem dX3_agree_24 : decode cX3_agree 24 = .ok (.ireturn, 1) := by decide +kernel
theorem dX3_agree_25 : decode cX3_agree 25 = .ok (.aload_n 1, 1) := by decide +kernel
theorem dX3_agree_26 : decode cX3_agree 26 = .ok (.iconst 1, 1) := by decide +kernel
theorem dX3_agree_27 : decode cX3_agree 27 = .ok (.invokevirtual 160, 3) := by decide +kernel
theorem dX3_agree_30 : decode cX3_agree 30 = .ok (.iinc 2 1, 3) := by decide +kernel
theorem dX3_agree_33 : decode cX3_agree 33 = .ok (.goto (-26), 3) := by decide +kernel
theorem dX3_agree_36 : decode cX3_agree 36 = .ok (.bipush (-9), 2) := by decide +kernel
theorem dX3_agree_38 : decode cX3_agree 38 = .ok (.ireturn, 1) := by decide +kernel
set_option maxRecDepth 20000 in
theorem ggX3_appeal_X3_isBranch : GoodIn wsX3_appeal wsX3_isBranch := goodIn_r _ [5, 6, 7, 4, 8] (by decide +kernel) (by decide +kernel)
set_option maxRecDepth 20000 in
theorem gX3_appeal_X3_isBranch : GoodIn wsX3_appeal (va_wsS RX3 163 yX3_isBranch wsX3_isBranch) := goodIn_app (goodIn_of _ (by decide +kernel)) ggX3_appeal_X3_isBranch
set_option maxRecDepth 20000 in
theorem ggX3_appeal_X3_refuse : GoodIn wsX3_appeal wsX3_refuse := goodIn_r _ [12, 13, 74, 75, 76, 77, 78, 79, 80, 81, 82, 83, 84, 85] (by decide +kernel) (by decide +kernel)
set_option maxRecDepth 20000 in
theorem gX3_appeal_X3_refuse : GoodIn wsX3_appeal (wsV RX3 55 RX3 yX3_refuse wsX3_refuse) := goodIn_app (goodIn_of _ (by decide +kernel)) ggX3_appeal_X3_refuse
set_option maxRecDepth 20000 in
theorem ggX3_appeal_X0_differsAbove : GoodIn wsX3_appeal wsX0_differsAbove := goodIn_r _ [18, 19, 20, 21, 17, 22, 23, 24, 25, 26, 27, 28, 29, 30, 31, 32, 33, 34, 35, 36, 37, 38, 39, 40, 41, 42, 43, 44, 45, 46, 47, 48, 49, 50, 51, 52, 53, 54, 55, 56, 57, 58, 59, 60, 61, 62, 63, 64, 65, 66, 67, 68, 69, 70, 71, 72, 73, 7, 4, 8, 86, 87, 88, 89, 90, 91, 92, 93, 94, 95, 96] (by decide +kernel) (by decide +kernel)
set_option maxRecDepth 20000 in
theorem gX3_appeal_X0_differsAbove : GoodIn wsX3_appeal (wsV RX3 189 RX0 yX0_differsAbove wsX0_differsAbove) := goodIn_app (goodIn_of _ (by decide +kernel)) ggX3_appeal_X0_differsAbove
theorem dX3_appeal_0 : decode cX3_appeal 0 = .ok (.iload_n 1, 1) := by decide +kernel
theorem dX3_appeal_1 : decode cX3_appeal 1 = .ok (.invokestatic 163, 3) := by decide +kernel
theorem dX3_appeal_4 : decode cX3_appeal 4 = .ok (.ifCond .ne 9, 3) := by decide +kernel
theorem dX3_appeal_7 : decode cX3_appeal 7 = .ok (.aload_n 0, 1) := by decide +kernel
theorem dX3_appeal_8 : decode cX3_appeal 8 = .ok (.iconst (-1), 1) := by decide +kernel
theorem dX3_appeal_9 : decode cX3_appeal 9 = .ok (.invokevirtual 55, 3) := by decide +kernel
theorem dX3_appeal_12 : decode cX3_appeal 12 = .ok (.ireturn, 1) := by decide +kernel
theorem dX3_appeal_13 : decode cX3_appeal 13 = .ok (.aload_n 0, 1) := by decide +kernel
theorem dX3_appeal_14 : decode cX3_appeal 14 = .ok (.getfield 10, 3) := by decide +kernel
theorem dX3_appeal_17 : decode cX3_appeal 17 = .ok (.iload_n 1, 1) := by decide +kernel
theorem dX3_appeal_18 : decode cX3_appeal 18 = .ok (.invokevirtual 189, 3) := by decide +kernel
theorem dX3_appeal_21 : decode cX3_appeal 21 = .ok (.ireturn, 1) := by decide +kernel
set_option maxRecDepth 20000 in
theorem ggX3_branches_X3_isVerdict : GoodIn wsX3_branches wsX3_isVerdict := goodIn_r _ [5, 6, 7, 4, 8] (by decide +kernel) (by decide +kernel)
set_option maxRecDepth 20000 in
theorem gX3_branches_X3_isVerdict : GoodIn wsX3_branches (va_wsS RX3 145 yX3_isVerdict wsX3_isVerdict) := goodIn_app (goodIn_of _ (by decide +kernel)) ggX3_branches_X3_isVerdict
set_option maxRecDepth 20000 in
theorem ggX3_branches_X3_refuse : GoodIn wsX3_branches wsX3_refuse := goodIn_r _ [12, 13, 70, 71, 72, 73, 74, 75, 76, 77, 78, 79, 80, 81] (by decide +kernel) (by decide +kernel)
set_option maxRecDepth 20000 in
theorem gX3_branches_X3_refuse : GoodIn wsX3_branches (wsV RX3 55 RX3 yX3_refuse wsX3_refuse) := goodIn_app (goodIn_of _ (by decide +kernel)) ggX3_branches_X3_refuse
set_option maxRecDepth 20000 in
theorem ggX3_branches_X0_branchesWith : GoodIn wsX3_branches wsX0_branchesWith := goodIn_r _ [18, 19, 20, 21, 17, 22, 23, 24, 25, 26, 27, 28, 29, 30, 31, 32, 33, 34, 35, 36, 37, 38, 39, 40, 41, 42, 43, 44, 45, 46, 47, 48, 49, 50, 51, 52, 53, 54, 55, 56, 57, 58, 59, 60, 61, 62, 63, 64, 65, 66, 67, 68, 69, 7, 4, 8, 82, 83, 84, 85, 86, 87, 88, 89, 90, 91, 92] (by decide +kernel) (by decide +kernel)
set_option maxRecDepth 20000 in
theorem gX3_branches_X0_branchesWith : GoodIn wsX3_branches (wsV RX3 192 RX0 yX0_branchesWith wsX0_branchesWith) := goodIn_app (goodIn_of _ (by decide +kernel)) ggX3_branches_X0_branchesWith
theorem dX3_branches_0 : decode cX3_branches 0 = .ok (.iload_n 1, 1) := by decide +kernel
theorem dX3_branches_1 : decode cX3_branches 1 = .ok (.invokestatic 145, 3) := by decide +kernel
theorem dX3_branches_4 : decode cX3_branches 4 = .ok (.ifCond .ne 10, 3) := by decide +kernel
theorem dX3_branches_7 : decode cX3_branches 7 = .ok (.aload_n 0, 1) := by decide +kernel
theorem dX3_branches_8 : decode cX3_branches 8 = .ok (.bipush (-2), 2) := by decide +kernel
theorem dX3_branches_10 : decode cX3_branches 10 = .ok (.invokevirtual 55, 3) := by decide +kernel
theorem dX3_branches_13 : decode cX3_branches 13 = .ok (.ireturn, 1) := by decide +kernel
theorem dX3_branches_14 : decode cX3_branches 14 = .ok (.aload_n 0, 1) := by decide +kernel
theorem dX3_branches_15 : decode cX3_branches 15 = .ok (.getfield 10, 3) := by decide +kernel
theorem dX3_branches_18 : decode cX3_branches 18 = .ok (.iload_n 1, 1) := by decide +kernel
theorem dX3_branches_19 : decode cX3_branches 19 = .ok (.invokevirtual 192, 3) := by decide +kernel
theorem dX3_branches_22 : decode cX3_branches 22 = .ok (.ireturn, 1) := by decide +kernel
set_option maxRecDepth 20000 in
theorem ggX3_best_X3_isVerdict : GoodIn wsX3_best wsX3_isVerdict := goodIn_r _ [4, 5, 6, 3, 7] (by decide +kernel) (by decide +kernel)
set_option maxRecDepth 20000 in
theorem gX3_best_X3_isVerdict : GoodIn wsX3_best (va_wsS RX3 145 yX3_isVerdict wsX3_isVerdict) := goodIn_app (goodIn_of _ (by decide +kernel)) ggX3_best_X3_isVerdict
set_option maxRecDepth 20000 in
theorem ggX3_best_X3_isEither : GoodIn wsX3_best wsX3_isEither := goodIn_r _ [10, 5, 6, 3, 7] (by decide +kernel) (by decide +kernel)
set_option maxRecDepth 20000 in
theorem gX3_best_X3_isEither : GoodIn wsX3_best (va_wsS RX3 124 yX3_isEither wsX3_isEither) := goodIn_app (goodIn_of _ (by decide +kernel)) ggX3_best_X3_isEither
set_option maxRecDepth 20000 in
theorem ggX3_best_X3_refuse : GoodIn wsX3_best wsX3_refuse := goodIn_r _ [14, 15, 105, 106, 107, 108, 109, 110, 111, 112, 113, 114, 115, 116] (by decide +kernel) (by decide +kernel)
set_option maxRecDepth 20000 in
theorem gX3_best_X3_refuse : GoodIn wsX3_best (wsV RX3 55 RX3 yX3_refuse wsX3_refuse) := goodIn_app (goodIn_of _ (by decide +kernel)) ggX3_best_X3_refuse
set_option maxRecDepth 20000 in
theorem ggX3_best_X3_isWithin : GoodIn wsX3_best wsX3_isWithin := goodIn_r _ [7] (by decide +kernel) (by decide +kernel)
set_option maxRecDepth 20000 in
theorem gX3_best_X3_isWithin : GoodIn wsX3_best (va_wsS RX3 133 yX3_isWithin wsX3_isWithin) := goodIn_app (goodIn_of _ (by decide +kernel)) ggX3_best_X3_isWithin
set_option maxRecDepth 20000 in
theorem ggX3_best_X3_hoursWith : GoodIn wsX3_best wsX3_hoursWith := goodIn_r _ [19, 20, 21, 22, 3, 23, 24, 25, 26, 27, 28, 29, 30, 31, 32, 33, 34, 35, 36, 37, 38, 39, 40, 41, 42, 43, 44, 45, 46, 47, 48, 49, 50, 51, 52, 53, 54, 55, 56, 57, 58, 59, 60, 61, 62, 63, 64, 65, 66, 67, 68, 69, 70, 71, 72, 73, 74, 75, 76, 77, 78, 79, 80, 81, 82, 83, 84, 85, 86, 87, 88, 89, 6, 7, 90, 91, 92, 93, 94, 95, 96, 97, 98, 99, 100, 101, 102, 103, 104, 105, 106, 107, 108, 109, 110, 111, 112, 113, 114, 115, 116, 117, 118, 119, 120, 121, 122, 123, 124, 125, 126, 127] (by decide +kernel) (by decide +kernel)
set_option maxRecDepth 20000 in
theorem gX3_best_X3_hoursWith : GoodIn wsX3_best (wsV RX3 195 RX3 yX3_hoursWith wsX3_hoursWith) := goodIn_app (goodIn_of _ (by decide +kernel)) ggX3_best_X3_hoursWith
theorem dX3_best_0 : decode cX3_best 0 = .ok (.iload_n 1, 1) := by decide +kernel
theorem dX3_best_1 : decode cX3_best 1 = .ok (.invokestatic 145, 3) := by decide +kernel
theorem dX3_best_4 : decode cX3_best 4 = .ok (.ifCond .eq 10, 3) := by decide +kernel
theorem dX3_best_7 : decode cX3_best 7 = .ok (.iload_n 3, 1) := by decide +kernel
theorem dX3_best_8 : decode cX3_best 8 = .ok (.invokestatic 124, 3) := by decide +kernel
theorem dX3_best_11 : decode cX3_best 11 = .ok (.ifCond .ne 10, 3) := by decide +kernel
theorem dX3_best_14 : decode cX3_best 14 = .ok (.aload_n 0, 1) := by decide +kernel
theorem dX3_best_15 : decode cX3_best 15 = .ok (.bipush (-2), 2) := by decide +kernel
theorem dX3_best_17 : decode cX3_best 17 = .ok (.invokevirtual 55, 3) := by decide +kernel
theorem dX3_best_20 : decode cX3_best 20 = .ok (.ireturn, 1) := by decide +kernel
theorem dX3_best_21 : decode cX3_best 21 = .ok (.iload_n 2, 1) := by decide +kernel
theorem dX3_best_22 : decode cX3_best 22 = .ok (.iconst 0, 1) := by decide +kernel
theorem dX3_best_23 : decode cX3_best 23 = .ok (.bipush 30, 2) := by decide +kernel
theorem dX3_best_25 : decode cX3_best 25 = .ok (.invokestatic 133, 3) := by decide +kernel
theorem dX3_best_28 : decode cX3_best 28 = .ok (.ifCond .ne 19, 3) := by decide +kernel
theorem dX3_best_31 : decode cX3_best 31 = .ok (.aload_n 0, 1) := by decide +kernel
theorem dX3_best_32 : decode cX3_best 32 = .ok (.iload_n 2, 1) := by decide +kernel
theorem dX3_best_33 : decode cX3_best 33 = .ok (.ifCond .ge 8, 3) := by decide +kernel
theorem dX3_best_36 : decode cX3_best 36 = .ok (.bipush (-4), 2) := by decide +kernel
theorem dX3_best_38 : decode cX3_best 38 = .ok (.goto 5, 3) := by decide +kernel
theorem dX3_best_41 : decode cX3_best 41 = .ok (.bipush (-6), 2) := by decide +kernel
theorem dX3_best_43 : decode cX3_best 43 = .ok (.invokevirtual 55, 3) := by decide +kernel
theorem dX3_best_46 : decode cX3_best 46 = .ok (.ireturn, 1) := by decide +kernel
theorem dX3_best_47 : decode cX3_best 47 = .ok (.iconst 0, 1) := by decide +kernel
theorem dX3_best_48 : decode cX3_best 48 = .ok (.istore 4, 2) := by decide +kernel
theorem dX3_best_50 : decode cX3_best 50 = .ok (.iconst (-1), 1) := by decide +kernel
theorem dX3_best_51 : decode cX3_best 51 = .ok (.istore 5, 2) := by decide +kernel
theorem dX3_best_53 : decode cX3_best 53 = .ok (.iconst 0, 1) := by decide +kernel
theorem dX3_best_54 : decode cX3_best 54 = .ok (.istore 6, 2) := by decide +kernel
theorem dX3_best_56 : decode cX3_best 56 = .ok (.iload 6, 2) := by decide +kernel
theorem dX3_best_58 : decode cX3_best 58 = .ok (.bipush 10, 2) := by decide +kernel
theorem dX3_best_60 : decode cX3_best 60 = .ok (.if_icmp .ge 34, 3) := by decide +kernel
theorem dX3_best_63 : decode cX3_best 63 = .ok (.aload_n 0, 1) := by decide +kernel
theorem dX3_best_64 : decode cX3_best 64 = .ok (.iload_n 1, 1) := by decide +kernel
theorem dX3_best_65 : decode cX3_best 65 = .ok (.iload 6, 2) := by decide +kernel
theorem dX3_best_67 : decode cX3_best 67 = .ok (.iload_n 2, 1) := by decide +kernel
theorem dX3_best_68 : decode cX3_best 68 = .ok (.invokevirtual 195, 3) := by decide +kernel
theorem dX3_best_71 : decode cX3_best 71 = .ok (.istore 7, 2) := by decide +kernel
theorem dX3_best_73 : decode cX3_best 73 = .ok (.iload 7, 2) := by decide +kernel
theorem dX3_best_75 : decode cX3_best 75 = .ok (.iload 5, 2) := by decide +kernel
theorem dX3_best_77 : decode cX3_best 77 = .ok (.if_icmp .le 11, 3) := by decide +kernel
theorem dX3_best_80 : decode cX3_best 80 = .ok (.iload 7, 2) := by decide +kernel
theorem dX3_best_82 : decode cX3_best 82 = .ok (.istore 5, 2) := by decide +kernel
theorem dX3_best_84 : decode cX3_best 84 = .ok (.iload 6, 2) := by decide +kernel
theorem dX3_best_86 : decode cX3_best 86 = .ok (.istore 4, 2) := by decide +kernel
theorem dX3_best_88 : decode cX3_best 88 = .ok (.iinc 6 1, 3) := by decide +kernel
theorem dX3_best_91 : decode cX3_best 91 = .ok (.goto (-35), 3) := by decide +kernel
theorem dX3_best_94 : decode cX3_best 94 = .ok (.iload_n 3, 1) := by decide +kernel
theorem dX3_best_95 : decode cX3_best 95 = .ok (.ifCond .ne 8, 3) := by decide +kernel
theorem dX3_best_98 : decode cX3_best 98 = .ok (.iload 4, 2) := by decide +kernel
theorem dX3_best_100 : decode cX3_best 100 = .ok (.goto 5, 3) := by decide +kernel
theorem dX3_best_103 : decode cX3_best 103 = .ok (.iload 5, 2) := by decide +kernel
theorem dX3_best_105 : decode cX3_best 105 = .ok (.ireturn, 1) := by decide +kernel
set_option maxRecDepth 20000 in
theorem ggX3_drive_X0_hasThing : GoodIn wsX3_drive wsX0_hasThing := goodIn_r _ [7, 8, 9, 10, 11, 104, 105, 106, 107, 108, 109, 110, 111, 112, 113, 114] (by decide +kernel) (by decide +kernel)
set_option maxRecDepth 20000 in
theorem gX3_drive_X0_hasThing : GoodIn wsX3_drive (wsV RX3 88 RX0 yX0_hasThing wsX0_hasThing) := goodIn_app (goodIn_of _ (by decide +kernel)) ggX3_drive_X0_hasThing
set_option maxRecDepth 20000 in
theorem ggX3_drive_X3_refuse : GoodIn wsX3_drive wsX3_refuse := goodIn_r _ [15, 16, 92, 93, 94, 95, 96, 97, 98, 99, 100, 101, 102, 103] (by decide +kernel) (by decide +kernel)
set_option maxRecDepth 20000 in
theorem gX3_drive_X3_refuse : GoodIn wsX3_drive (wsV RX3 55 RX3 yX3_refuse wsX3_refuse) := goodIn_app (goodIn_of _ (by decide +kernel)) ggX3_drive_X3_refuse
set_option maxRecDepth 20000 in
theorem ggX3_drive_X3_isVerdict : GoodIn wsX3_drive wsX3_isVerdict := goodIn_r _ [19, 20, 9, 10, 11] (by decide +kernel) (by decide +kernel)
set_option maxRecDepth 20000 in
theorem gX3_drive_X3_isVerdict : GoodIn wsX3_drive (va_wsS RX3 145 yX3_isVerdict wsX3_isVerdict) := goodIn_app (goodIn_of _ (by decide +kernel)) ggX3_drive_X3_isVerdict
set_option maxRecDepth 20000 in
theorem ggX3_drive_X0_branchesWith : GoodIn wsX3_drive wsX0_branchesWith := goodIn_r _ [24, 25, 26, 27, 6, 28, 8, 29, 30, 31, 32, 33, 34, 35, 36, 37, 38, 39, 40, 41, 42, 43, 44, 45, 46, 47, 48, 49, 50, 51, 52, 53, 54, 55, 56, 57, 58, 59, 60, 61, 62, 63, 64, 65, 66, 67, 68, 69, 70, 71, 4, 5, 7, 9, 10, 11, 104, 105, 106, 107, 108, 109, 110, 111, 112, 113, 114] (by decide +kernel) (by decide +kernel)
set_option maxRecDepth 20000 in
theorem gX3_drive_X0_branchesWith : GoodIn wsX3_drive (wsV RX3 192 RX0 yX0_branchesWith wsX0_branchesWith) := goodIn_app (goodIn_of _ (by decide +kernel)) ggX3_drive_X0_branchesWith
set_option maxRecDepth 20000 in
theorem ggX3_drive_J6_bitCount_0f7a4 : GoodIn wsX3_drive wsJ6_bitCount_0f7a4 := goodIn_r _ [75, 76, 77, 78] (by decide +kernel) (by decide +kernel)
set_option maxRecDepth 20000 in
theorem gX3_drive_J6_bitCount_0f7a4 : GoodIn wsX3_drive (va_wsS RX3 199 yJ6_bitCount_0f7a4 wsJ6_bitCount_0f7a4) := goodIn_app (goodIn_of _ (by decide +kernel)) ggX3_drive_J6_bitCount_0f7a4
set_option maxRecDepth 20000 in
theorem ggX3_drive_X3_inMind : GoodIn wsX3_drive wsX3_inMind := goodIn_r _ [82, 83, 1, 84, 85, 86, 6, 87, 43, 88, 89, 90, 91, 56, 48, 49, 33, 65, 70, 8, 38, 55, 50, 92, 93, 94, 95, 96, 97, 98, 99, 100, 101, 102, 103, 104, 105, 106, 107, 108, 109, 110, 111, 112, 113, 114] (by decide +kernel) (by decide +kernel)
set_option maxRecDepth 20000 in
theorem gX3_drive_X3_inMind : GoodIn wsX3_drive (wsV RX3 66 RX3 yX3_inMind wsX3_inMind) := goodIn_app (goodIn_of _ (by decide +kernel)) ggX3_drive_X3_inMind
theorem dX3_drive_0 : decode cX3_drive 0 = .ok (.aload_n 0, 1) := by decide +kernel
theorem dX3_drive_1 : decode cX3_drive 1 = .ok (.getfield 10, 3) := by decide +kernel
theorem dX3_drive_4 : decode cX3_drive 4 = .ok (.iload_n 1, 1) := by decide +kernel
theorem dX3_drive_5 : decode cX3_drive 5 = .ok (.invokevirtual 88, 3) := by decide +kernel
theorem dX3_drive_8 : decode cX3_drive 8 = .ok (.ifCond .ne 9, 3) := by decide +kernel
theorem dX3_drive_11 : decode cX3_drive 11 = .ok (.aload_n 0, 1) := by decide +kernel
theorem dX3_drive_12 : decode cX3_drive 12 = .ok (.iconst (-1), 1) := by decide +kernel
theorem dX3_drive_13 : decode cX3_drive 13 = .ok (.invokevirtual 55, 3) := by decide +kernel
theorem dX3_drive_16 : decode cX3_drive 16 = .ok (.ireturn, 1) := by decide +kernel
theorem dX3_drive_17 : decode cX3_drive 17 = .ok (.iload_n 2, 1) := by decide +kernel
theorem dX3_drive_18 : decode cX3_drive 18 = .ok (.invokestatic 145, 3) := by decide +kernel
theorem dX3_drive_21 : decode cX3_drive 21 = .ok (.ifCond .ne 10, 3) := by decide +kernel
theorem dX3_drive_24 : decode cX3_drive 24 = .ok (.aload_n 0, 1) := by decide +kernel
theorem dX3_drive_25 : decode cX3_drive 25 = .ok (.bipush (-2), 2) := by decide +kernel
theorem dX3_drive_27 : decode cX3_drive 27 = .ok (.invokevirtual 55, 3) := by decide +kernel
theorem dX3_drive_30 : decode cX3_drive 30 = .ok (.ireturn, 1) := by decide +kernel
theorem dX3_drive_31 : decode cX3_drive 31 = .ok (.bipush (-9), 2) := by decide +kernel
theorem dX3_drive_33 : decode cX3_drive 33 = .ok (.istore_n 3, 1) := by decide +kernel
theorem dX3_drive_34 : decode cX3_drive 34 = .ok (.aload_n 0, 1) := by decide +kernel
theorem dX3_drive_35 : decode cX3_drive 35 = .ok (.getfield 10, 3) := by decide +kernel
theorem dX3_drive_38 : decode cX3_drive 38 = .ok (.iload_n 2, 1) := by decide +kernel
theorem dX3_drive_39 : decode cX3_drive 39 = .ok (.invokevirtual 192, 3) := by decide +kernel
theorem dX3_drive_42 : decode cX3_drive 42 = .ok (.invokestatic 199, 3) := by decide +kernel
theorem dX3_drive_45 : decode cX3_drive 45 = .ok (.istore 4, 2) := by decide +kernel
theorem dX3_drive_47 : decode cX3_drive 47 = .ok (.aload_n 0, 1) := by decide +kernel
theorem dX3_drive_48 : decode cX3_drive 48 = .ok (.invokevirtual 66, 3) := by decide +kernel
theorem dX3_drive_51 : decode cX3_drive 51 = .ok (.astore 5, 2) := by decide +kernel
theorem dX3_drive_53 : decode cX3_drive 53 = .ok (.iconst 0, 1) := by decide +kernel
theorem dX3_drive_54 : decode cX3_drive 54 = .ok (.istore 6, 2) := by decide +kernel
theorem dX3_drive_56 : decode cX3_drive 56 = .ok (.iload 6, 2) := by decide +kernel
theorem dX3_drive_58 : decode cX3_drive 58 = .ok (.bipush 16, 2) := by decide +kernel
theorem dX3_drive_60 : decode cX3_drive 60 = .ok (.if_icmp .ge 43, 3) := by decide +kernel
theorem dX3_drive_63 : decode cX3_drive 63 = .ok (.aload 5, 2) := by decide +kernel
theorem dX3_drive_65 : decode cX3_drive 65 = .ok (.getfield 98, 3) := by decide +kernel
theorem dX3_drive_68 : decode cX3_drive 68 = .ok (.iload_n 1, 1) := by decide +kernel
theorem dX3_drive_69 : decode cX3_drive 69 = .ok (.iload 6, 2) := by decide +kernel
theorem dX3_drive_71 : decode cX3_drive 71 = .ok (.iastore, 1) := by decide +kernel
theorem dX3_drive_72 : decode cX3_drive 72 = .ok (.aload 5, 2) := by decide +kernel
theorem dX3_drive_74 : decode cX3_drive 74 = .ok (.iload_n 2, 1) := by decide +kernel
theorem dX3_drive_75 : decode cX3_drive 75 = .ok (.invokevirtual 192, 3) := by decide +kernel
theorem dX3_drive_78 : decode cX3_drive 78 = .ok (.invokestatic 199, 3) := by decide +kernel
theorem dX3_drive_81 : decode cX3_drive 81 = .ok (.istore 7, 2) := by decide +kernel
theorem dX3_drive_83 : decode cX3_drive 83 = .ok (.iload 7, 2) := by decide +kernel
theorem dX3_drive_85 : decode cX3_drive 85 = .ok (.iload 4, 2) := by decide +kernel
theorem dX3_drive_87 : decode cX3_drive 87 = .ok (.if_icmp .le 10, 3) := by decide +kernel
theorem dX3_drive_90 : decode cX3_drive 90 = .ok (.iload 7, 2) := by decide +kernel
theorem dX3_drive_92 : decode cX3_drive 92 = .ok (.istore 4, 2) := by decide +kernel
theorem dX3_drive_94 : decode cX3_drive 94 = .ok (.iload 6, 2) := by decide +kernel
theorem dX3_drive_96 : decode cX3_drive 96 = .ok (.istore_n 3, 1) := by decide +kernel
theorem dX3_drive_97 : decode cX3_drive 97 = .ok (.iinc 6 1, 3) := by decide +kernel
theorem dX3_drive_100 : decode cX3_drive 100 = .ok (.goto (-44), 3) := by decide +kernel
theorem dX3_drive_103 : decode cX3_drive 103 = .ok (.iload_n 3, 1) := by decide +kernel
theorem dX3_drive_104 : decode cX3_drive 104 = .ok (.ireturn, 1) := by decide +kernel
set_option maxRecDepth 20000 in
theorem ggX3_hill_X3_isBranch : GoodIn wsX3_hill wsX3_isBranch := goodIn_r _ [4, 5, 6, 3, 7] (by decide +kernel) (by decide +kernel)
set_option maxRecDepth 20000 in
theorem gX3_hill_X3_isBranch : GoodIn wsX3_hill (va_wsS RX3 163 yX3_isBranch wsX3_isBranch) := goodIn_app (goodIn_of _ (by decide +kernel)) ggX3_hill_X3_isBranch
set_option maxRecDepth 20000 in
theorem ggX3_hill_X3_refuse : GoodIn wsX3_hill wsX3_refuse := goodIn_r _ [11, 12, 93, 94, 95, 96, 97, 98, 99, 100, 101, 102, 103, 104] (by decide +kernel) (by decide +kernel)
set_option maxRecDepth 20000 in
theorem gX3_hill_X3_refuse : GoodIn wsX3_hill (wsV RX3 55 RX3 yX3_refuse wsX3_refuse) := goodIn_app (goodIn_of _ (by decide +kernel)) ggX3_hill_X3_refuse
set_option maxRecDepth 20000 in
theorem ggX3_hill_X3_isEither : GoodIn wsX3_hill wsX3_isEither := goodIn_r _ [15, 5, 6, 3, 7] (by decide +kernel) (by decide +kernel)
