theorem dX1_init_0 : decode cX1_init 0 = .ok (.aload_n 0, 1) := by decide +kernel
theorem dX1_init_1 : decode cX1_init 1 = .ok (.invokespecial 3, 3) := by decide +kernel
theorem dX1_init_4 : decode cX1_init 4 = .ok (.aload_n 0, 1) := by decide +kernel
theorem dX1_init_5 : decode cX1_init 5 = .ok (.bipush 96, 2) := by decide +kernel
theorem dX1_init_7 : decode cX1_init 7 = .ok (.newarray .int, 2) := by decide +kernel
theorem dX1_init_9 : decode cX1_init 9 = .ok (.putfield 9, 3) := by decide +kernel
theorem dX1_init_12 : decode cX1_init 12 = .ok (.return_, 1) := by decide +kernel
theorem dX1_isFull_0 : decode cX1_isFull 0 = .ok (.aload_n 0, 1) := by decide +kernel
theorem dX1_isFull_1 : decode cX1_isFull 1 = .ok (.getfield 15, 3) := by decide +kernel
theorem dX1_isFull_4 : decode cX1_isFull 4 = .ok (.bipush 96, 2) := by decide +kernel
theorem dX1_isFull_6 : decode cX1_isFull 6 = .ok (.if_icmp .lt 7, 3) := by decide +kernel
theorem dX1_isFull_9 : decode cX1_isFull 9 = .ok (.iconst 1, 1) := by decide +kernel
theorem dX1_isFull_10 : decode cX1_isFull 10 = .ok (.goto 4, 3) := by decide +kernel
theorem dX1_isFull_13 : decode cX1_isFull 13 = .ok (.iconst 0, 1) := by decide +kernel
theorem dX1_isFull_14 : decode cX1_isFull 14 = .ok (.ireturn, 1) := by decide +kernel
set_option maxRecDepth 20000 in
theorem ggX1_add_X1_isFull : GoodIn wsX1_add wsX1_isFull := goodIn_r _ [7, 2, 8, 9] (by decide +kernel) (by decide +kernel)
set_option maxRecDepth 20000 in
theorem gX1_add_X1_isFull : GoodIn wsX1_add (wsV RX1 19 RX1 yX1_isFull wsX1_isFull) := goodIn_app (goodIn_of _ (by decide +kernel)) ggX1_add_X1_isFull
theorem dX1_add_0 : decode cX1_add 0 = .ok (.aload_n 0, 1) := by decide +kernel
theorem dX1_add_1 : decode cX1_add 1 = .ok (.invokevirtual 19, 3) := by decide +kernel
theorem dX1_add_4 : decode cX1_add 4 = .ok (.ifCond .ne 23, 3) := by decide +kernel
theorem dX1_add_7 : decode cX1_add 7 = .ok (.aload_n 0, 1) := by decide +kernel
theorem dX1_add_8 : decode cX1_add 8 = .ok (.getfield 9, 3) := by decide +kernel
theorem dX1_add_11 : decode cX1_add 11 = .ok (.aload_n 0, 1) := by decide +kernel
theorem dX1_add_12 : decode cX1_add 12 = .ok (.getfield 15, 3) := by decide +kernel
theorem dX1_add_15 : decode cX1_add 15 = .ok (.iload_n 1, 1) := by decide +kernel
theorem dX1_add_16 : decode cX1_add 16 = .ok (.iastore, 1) := by decide +kernel
theorem dX1_add_17 : decode cX1_add 17 = .ok (.aload_n 0, 1) := by decide +kernel
theorem dX1_add_18 : decode cX1_add 18 = .ok (.dup, 1) := by decide +kernel
theorem dX1_add_19 : decode cX1_add 19 = .ok (.getfield 15, 3) := by decide +kernel
theorem dX1_add_22 : decode cX1_add 22 = .ok (.iconst 1, 1) := by decide +kernel
theorem dX1_add_23 : decode cX1_add 23 = .ok (.iadd, 1) := by decide +kernel
theorem dX1_add_24 : decode cX1_add 24 = .ok (.putfield 15, 3) := by decide +kernel
theorem dX1_add_27 : decode cX1_add 27 = .ok (.aload_n 0, 1) := by decide +kernel
theorem dX1_add_28 : decode cX1_add 28 = .ok (.getfield 15, 3) := by decide +kernel
theorem dX1_add_31 : decode cX1_add 31 = .ok (.ireturn, 1) := by decide +kernel
theorem dX1_forget_0 : decode cX1_forget 0 = .ok (.aload_n 0, 1) := by decide +kernel
theorem dX1_forget_1 : decode cX1_forget 1 = .ok (.iconst 0, 1) := by decide +kernel
theorem dX1_forget_2 : decode cX1_forget 2 = .ok (.putfield 15, 3) := by decide +kernel
theorem dX1_forget_5 : decode cX1_forget 5 = .ok (.return_, 1) := by decide +kernel
theorem dX1_statements_0 : decode cX1_statements 0 = .ok (.iconst 0, 1) := by decide +kernel
theorem dX1_statements_1 : decode cX1_statements 1 = .ok (.istore_n 1, 1) := by decide +kernel
theorem dX1_statements_2 : decode cX1_statements 2 = .ok (.iconst 0, 1) := by decide +kernel
theorem dX1_statements_3 : decode cX1_statements 3 = .ok (.istore_n 2, 1) := by decide +kernel
theorem dX1_statements_4 : decode cX1_statements 4 = .ok (.iload_n 2, 1) := by decide +kernel
theorem dX1_statements_5 : decode cX1_statements 5 = .ok (.aload_n 0, 1) := by decide +kernel
theorem dX1_statements_6 : decode cX1_statements 6 = .ok (.getfield 15, 3) := by decide +kernel
theorem dX1_statements_9 : decode cX1_statements 9 = .ok (.if_icmp .ge 28, 3) := by decide +kernel
theorem dX1_statements_12 : decode cX1_statements 12 = .ok (.iload_n 1, 1) := by decide +kernel
theorem dX1_statements_13 : decode cX1_statements 13 = .ok (.aload_n 0, 1) := by decide +kernel
theorem dX1_statements_14 : decode cX1_statements 14 = .ok (.getfield 9, 3) := by decide +kernel
theorem dX1_statements_17 : decode cX1_statements 17 = .ok (.iload_n 2, 1) := by decide +kernel
theorem dX1_statements_18 : decode cX1_statements 18 = .ok (.iaload, 1) := by decide +kernel
theorem dX1_statements_19 : decode cX1_statements 19 = .ok (.bipush 59, 2) := by decide +kernel
theorem dX1_statements_21 : decode cX1_statements 21 = .ok (.if_icmp .ne 7, 3) := by decide +kernel
theorem dX1_statements_24 : decode cX1_statements 24 = .ok (.iconst 1, 1) := by decide +kernel
theorem dX1_statements_25 : decode cX1_statements 25 = .ok (.goto 4, 3) := by decide +kernel
theorem dX1_statements_28 : decode cX1_statements 28 = .ok (.iconst 0, 1) := by decide +kernel
theorem dX1_statements_29 : decode cX1_statements 29 = .ok (.iadd, 1) := by decide +kernel
theorem dX1_statements_30 : decode cX1_statements 30 = .ok (.istore_n 1, 1) := by decide +kernel
theorem dX1_statements_31 : decode cX1_statements 31 = .ok (.iinc 2 1, 3) := by decide +kernel
theorem dX1_statements_34 : decode cX1_statements 34 = .ok (.goto (-30), 3) := by decide +kernel
theorem dX1_statements_37 : decode cX1_statements 37 = .ok (.iload_n 1, 1) := by decide +kernel
theorem dX1_statements_38 : decode cX1_statements 38 = .ok (.ireturn, 1) := by decide +kernel
set_option maxRecDepth 20000 in
theorem ggX1_firstMisfit_X1_fits : GoodIn wsX1_firstMisfit wsX1_fits := goodIn_r _ [7, 2, 8, 9, 6, 10, 11, 12, 13, 14, 15, 16, 17, 18, 19, 20, 21, 22, 23, 24, 25, 26, 27, 28, 29, 30, 31, 32, 33, 34, 35, 36, 37, 38, 39, 40, 41, 42, 43, 44, 45, 46, 47, 48, 49, 50, 51, 52, 53, 54, 55, 56, 57, 58, 59, 60, 61, 62, 63, 64, 65, 66, 67, 1, 68, 69, 70, 71, 72, 73, 74, 75, 76, 77, 78, 79, 80, 81, 82, 83, 84, 85, 86, 87, 88, 89, 90, 91, 92, 93, 94, 95, 96, 97, 98, 99, 100, 101, 102, 103, 104, 105, 106, 107, 108, 109, 110, 111, 112, 113, 114, 115, 116, 117, 118, 119, 120, 121, 122, 123, 124, 125, 126, 127, 128, 129, 130, 131, 132, 133, 134, 135, 136, 137] (by decide +kernel) (by decide +kernel)
set_option maxRecDepth 20000 in
theorem gX1_firstMisfit_X1_fits : GoodIn wsX1_firstMisfit (wsV RX1 23 RX1 yX1_fits wsX1_fits) := goodIn_app (goodIn_of _ (by decide +kernel)) ggX1_firstMisfit_X1_fits
theorem dX1_firstMisfit_0 : decode cX1_firstMisfit 0 = .ok (.iconst 0, 1) := by decide +kernel
theorem dX1_firstMisfit_1 : decode cX1_firstMisfit 1 = .ok (.istore_n 1, 1) := by decide +kernel
theorem dX1_firstMisfit_2 : decode cX1_firstMisfit 2 = .ok (.iconst 0, 1) := by decide +kernel
theorem dX1_firstMisfit_3 : decode cX1_firstMisfit 3 = .ok (.istore_n 2, 1) := by decide +kernel
theorem dX1_firstMisfit_4 : decode cX1_firstMisfit 4 = .ok (.iload_n 2, 1) := by decide +kernel
theorem dX1_firstMisfit_5 : decode cX1_firstMisfit 5 = .ok (.aload_n 0, 1) := by decide +kernel
theorem dX1_firstMisfit_6 : decode cX1_firstMisfit 6 = .ok (.getfield 15, 3) := by decide +kernel
theorem dX1_firstMisfit_9 : decode cX1_firstMisfit 9 = .ok (.if_icmp .ge 35, 3) := by decide +kernel
theorem dX1_firstMisfit_12 : decode cX1_firstMisfit 12 = .ok (.aload_n 0, 1) := by decide +kernel
theorem dX1_firstMisfit_13 : decode cX1_firstMisfit 13 = .ok (.iload_n 1, 1) := by decide +kernel
theorem dX1_firstMisfit_14 : decode cX1_firstMisfit 14 = .ok (.iload_n 2, 1) := by decide +kernel
theorem dX1_firstMisfit_15 : decode cX1_firstMisfit 15 = .ok (.invokevirtual 23, 3) := by decide +kernel
theorem dX1_firstMisfit_18 : decode cX1_firstMisfit 18 = .ok (.ifCond .ne 5, 3) := by decide +kernel
theorem dX1_firstMisfit_21 : decode cX1_firstMisfit 21 = .ok (.iload_n 2, 1) := by decide +kernel
theorem dX1_firstMisfit_22 : decode cX1_firstMisfit 22 = .ok (.ireturn, 1) := by decide +kernel
theorem dX1_firstMisfit_23 : decode cX1_firstMisfit 23 = .ok (.aload_n 0, 1) := by decide +kernel
theorem dX1_firstMisfit_24 : decode cX1_firstMisfit 24 = .ok (.getfield 9, 3) := by decide +kernel
theorem dX1_firstMisfit_27 : decode cX1_firstMisfit 27 = .ok (.iload_n 2, 1) := by decide +kernel
theorem dX1_firstMisfit_28 : decode cX1_firstMisfit 28 = .ok (.iaload, 1) := by decide +kernel
theorem dX1_firstMisfit_29 : decode cX1_firstMisfit 29 = .ok (.bipush 59, 2) := by decide +kernel
theorem dX1_firstMisfit_31 : decode cX1_firstMisfit 31 = .ok (.if_icmp .ne 7, 3) := by decide +kernel
theorem dX1_firstMisfit_34 : decode cX1_firstMisfit 34 = .ok (.iload_n 2, 1) := by decide +kernel
theorem dX1_firstMisfit_35 : decode cX1_firstMisfit 35 = .ok (.iconst 1, 1) := by decide +kernel
theorem dX1_firstMisfit_36 : decode cX1_firstMisfit 36 = .ok (.iadd, 1) := by decide +kernel
theorem dX1_firstMisfit_37 : decode cX1_firstMisfit 37 = .ok (.istore_n 1, 1) := by decide +kernel
theorem dX1_firstMisfit_38 : decode cX1_firstMisfit 38 = .ok (.iinc 2 1, 3) := by decide +kernel
theorem dX1_firstMisfit_41 : decode cX1_firstMisfit 41 = .ok (.goto (-37), 3) := by decide +kernel
theorem dX1_firstMisfit_44 : decode cX1_firstMisfit 44 = .ok (.aload_n 0, 1) := by decide +kernel
theorem dX1_firstMisfit_45 : decode cX1_firstMisfit 45 = .ok (.getfield 15, 3) := by decide +kernel
theorem dX1_firstMisfit_48 : decode cX1_firstMisfit 48 = .ok (.ifCond .eq 11, 3) := by decide +kernel
theorem dX1_firstMisfit_51 : decode cX1_firstMisfit 51 = .ok (.iload_n 1, 1) := by decide +kernel
theorem dX1_firstMisfit_52 : decode cX1_firstMisfit 52 = .ok (.aload_n 0, 1) := by decide +kernel
theorem dX1_firstMisfit_53 : decode cX1_firstMisfit 53 = .ok (.getfield 15, 3) := by decide +kernel
theorem dX1_firstMisfit_56 : decode cX1_firstMisfit 56 = .ok (.if_icmp .ge 10, 3) := by decide +kernel
theorem dX1_firstMisfit_59 : decode cX1_firstMisfit 59 = .ok (.aload_n 0, 1) := by decide +kernel
theorem dX1_firstMisfit_60 : decode cX1_firstMisfit 60 = .ok (.getfield 15, 3) := by decide +kernel
theorem dX1_firstMisfit_63 : decode cX1_firstMisfit 63 = .ok (.goto 4, 3) := by decide +kernel
theorem dX1_firstMisfit_66 : decode cX1_firstMisfit 66 = .ok (.iconst (-1), 1) := by decide +kernel
theorem dX1_firstMisfit_67 : decode cX1_firstMisfit 67 = .ok (.ireturn, 1) := by decide +kernel
set_option maxRecDepth 20000 in
theorem ggX1_firstWrongFor_X1_tell : GoodIn wsX1_firstWrongFor wsX1_tell := goodIn_r _ [7, 2, 8, 9, 10, 6, 11, 12, 13, 14, 15, 1, 16, 17, 18, 19, 20, 21, 22, 23, 24, 25, 26, 27, 28, 29, 30, 31, 32, 33, 34, 35, 36, 37, 38, 39, 40, 41, 42, 43, 44, 45, 46, 47, 48, 49, 50, 51, 52, 53, 54, 55, 56, 57, 58, 59, 60, 61, 62, 63, 64, 65, 66, 67, 68, 69, 70, 71, 72, 73, 74, 75, 76, 77, 78, 79, 80, 81, 82, 83, 84, 85, 86, 87, 88, 89, 90, 91, 92, 93, 94, 95, 96, 97, 98, 99, 100, 101, 102, 103, 104, 105, 106, 107, 108, 109, 110, 111, 112, 113, 114, 115, 116, 117, 118, 119, 120, 121, 122, 123, 124, 125, 126, 127, 128, 129, 130, 131, 132, 133, 134, 135, 136, 137, 138, 139, 140, 141, 142, 143, 144, 145, 146, 147, 148, 149, 150, 151, 152, 153, 154, 155, 156, 157, 158, 159, 160, 161, 162, 163, 164, 165, 166, 167, 168, 169, 170, 171, 172, 173, 174, 175, 176, 177, 178, 179, 180, 181, 182, 183, 184, 185, 186, 187, 188, 189, 190, 191, 192, 193, 194, 195, 196, 197, 198, 199, 200, 201, 202, 203, 204] (by decide +kernel) (by decide +kernel)
set_option maxRecDepth 20000 in
theorem gX1_firstWrongFor_X1_tell : GoodIn wsX1_firstWrongFor (wsV RX1 27 RX1 yX1_tell wsX1_tell) := goodIn_app (goodIn_of _ (by decide +kernel)) ggX1_firstWrongFor_X1_tell
theorem dX1_firstWrongFor_0 : decode cX1_firstWrongFor 0 = .ok (.iconst 0, 1) := by decide +kernel
theorem dX1_firstWrongFor_1 : decode cX1_firstWrongFor 1 = .ok (.istore_n 2, 1) := by decide +kernel
theorem dX1_firstWrongFor_2 : decode cX1_firstWrongFor 2 = .ok (.iload_n 2, 1) := by decide +kernel
theorem dX1_firstWrongFor_3 : decode cX1_firstWrongFor 3 = .ok (.aload_n 0, 1) := by decide +kernel
theorem dX1_firstWrongFor_4 : decode cX1_firstWrongFor 4 = .ok (.getfield 15, 3) := by decide +kernel
theorem dX1_firstWrongFor_7 : decode cX1_firstWrongFor 7 = .ok (.if_icmp .ge 47, 3) := by decide +kernel
theorem dX1_firstWrongFor_10 : decode cX1_firstWrongFor 10 = .ok (.iload_n 2, 1) := by decide +kernel
theorem dX1_firstWrongFor_11 : decode cX1_firstWrongFor 11 = .ok (.ifCond .eq 16, 3) := by decide +kernel
theorem dX1_firstWrongFor_14 : decode cX1_firstWrongFor 14 = .ok (.aload_n 0, 1) := by decide +kernel
theorem dX1_firstWrongFor_15 : decode cX1_firstWrongFor 15 = .ok (.getfield 9, 3) := by decide +kernel
theorem dX1_firstWrongFor_18 : decode cX1_firstWrongFor 18 = .ok (.iload_n 2, 1) := by decide +kernel
theorem dX1_firstWrongFor_19 : decode cX1_firstWrongFor 19 = .ok (.iconst 1, 1) := by decide +kernel
theorem dX1_firstWrongFor_20 : decode cX1_firstWrongFor 20 = .ok (.isub, 1) := by decide +kernel
theorem dX1_firstWrongFor_21 : decode cX1_firstWrongFor 21 = .ok (.iaload, 1) := by decide +kernel
theorem dX1_firstWrongFor_22 : decode cX1_firstWrongFor 22 = .ok (.bipush 59, 2) := by decide +kernel
theorem dX1_firstWrongFor_24 : decode cX1_firstWrongFor 24 = .ok (.if_icmp .ne 7, 3) := by decide +kernel
theorem dX1_firstWrongFor_27 : decode cX1_firstWrongFor 27 = .ok (.iconst 1, 1) := by decide +kernel
theorem dX1_firstWrongFor_28 : decode cX1_firstWrongFor 28 = .ok (.goto 4, 3) := by decide +kernel
theorem dX1_firstWrongFor_31 : decode cX1_firstWrongFor 31 = .ok (.iconst 0, 1) := by decide +kernel
theorem dX1_firstWrongFor_32 : decode cX1_firstWrongFor 32 = .ok (.istore_n 3, 1) := by decide +kernel
theorem dX1_firstWrongFor_33 : decode cX1_firstWrongFor 33 = .ok (.iload_n 3, 1) := by decide +kernel
theorem dX1_firstWrongFor_34 : decode cX1_firstWrongFor 34 = .ok (.ifCond .eq 14, 3) := by decide +kernel
theorem dX1_firstWrongFor_37 : decode cX1_firstWrongFor 37 = .ok (.aload_n 0, 1) := by decide +kernel
theorem dX1_firstWrongFor_38 : decode cX1_firstWrongFor 38 = .ok (.aload_n 1, 1) := by decide +kernel
theorem dX1_firstWrongFor_39 : decode cX1_firstWrongFor 39 = .ok (.iload_n 2, 1) := by decide +kernel
theorem dX1_firstWrongFor_40 : decode cX1_firstWrongFor 40 = .ok (.invokevirtual 27, 3) := by decide +kernel
theorem dX1_firstWrongFor_43 : decode cX1_firstWrongFor 43 = .ok (.ifCond .ne 5, 3) := by decide +kernel
theorem dX1_firstWrongFor_46 : decode cX1_firstWrongFor 46 = .ok (.iload_n 2, 1) := by decide +kernel
theorem dX1_firstWrongFor_47 : decode cX1_firstWrongFor 47 = .ok (.ireturn, 1) := by decide +kernel
theorem dX1_firstWrongFor_48 : decode cX1_firstWrongFor 48 = .ok (.iinc 2 1, 3) := by decide +kernel
theorem dX1_firstWrongFor_51 : decode cX1_firstWrongFor 51 = .ok (.goto (-49), 3) := by decide +kernel
theorem dX1_firstWrongFor_54 : decode cX1_firstWrongFor 54 = .ok (.iconst (-1), 1) := by decide +kernel
theorem dX1_firstWrongFor_55 : decode cX1_firstWrongFor 55 = .ok (.ireturn, 1) := by decide +kernel
set_option maxRecDepth 20000 in
theorem ggX1_fits_X1_shapeBehind : GoodIn wsX1_fits wsX1_shapeBehind := goodIn_r _ [5] (by decide +kernel) (by decide +kernel)
set_option maxRecDepth 20000 in
theorem gX1_fits_X1_shapeBehind : GoodIn wsX1_fits (va_wsS RX1 31 yX1_shapeBehind wsX1_shapeBehind) := goodIn_app (goodIn_of _ (by decide +kernel)) ggX1_fits_X1_shapeBehind
set_option maxRecDepth 20000 in
theorem ggX1_fits_J0_isEmpty_aae02 : GoodIn wsX1_fits wsJ0_isEmpty_aae02 := goodIn_r _ [10, 11] (by decide +kernel) (by decide +kernel)
set_option maxRecDepth 20000 in
theorem gX1_fits_J0_isEmpty_aae02 : GoodIn wsX1_fits (wsV RX1 35 RJ0 yJ0_isEmpty_aae02 wsJ0_isEmpty_aae02) := goodIn_app (goodIn_of _ (by decide +kernel)) ggX1_fits_J0_isEmpty_aae02
set_option maxRecDepth 20000 in
theorem ggX1_fits_J0_length_8abf5 : GoodIn wsX1_fits wsJ0_length_8abf5 := goodIn_r _ [15, 11, 16, 17, 18, 9, 19, 20, 21] (by decide +kernel) (by decide +kernel)
set_option maxRecDepth 20000 in
theorem gX1_fits_J0_length_8abf5 : GoodIn wsX1_fits (wsV RX1 40 RJ0 yJ0_length_8abf5 wsJ0_length_8abf5) := goodIn_app (goodIn_of _ (by decide +kernel)) ggX1_fits_J0_length_8abf5
set_option maxRecDepth 20000 in
theorem ggX1_fits_J0_charAt_5068e : GoodIn wsX1_fits wsJ0_charAt_5068e := goodIn_r _ [25, 11, 26, 27, 28, 9, 29, 20, 21, 30, 31, 32, 33, 34, 35, 36, 37, 38, 39, 40, 41, 42, 43, 44, 45, 46, 47, 48, 49, 50, 51, 52, 53, 54, 55, 56, 57, 58] (by decide +kernel) (by decide +kernel)
set_option maxRecDepth 20000 in
theorem gX1_fits_J0_charAt_5068e : GoodIn wsX1_fits (wsV RX1 44 RJ0 yJ0_charAt_5068e wsJ0_charAt_5068e) := goodIn_app (goodIn_of _ (by decide +kernel)) ggX1_fits_J0_charAt_5068e
set_option maxRecDepth 20000 in
theorem ggX1_fits_X1_kindAt : GoodIn wsX1_fits wsX1_kindAt := goodIn_r _ [62, 63, 1, 64, 65, 66, 9, 67, 68, 69, 70, 71, 11, 26, 27, 28, 29, 20, 21, 72, 13, 14, 15, 16, 17, 18, 19, 73, 74, 32, 75, 76, 77, 78, 79, 80, 81, 82, 83, 84, 85, 86, 87, 88, 89, 90, 44, 91, 92, 93, 94, 95, 96, 97, 98, 99, 100, 49, 50, 51, 101, 102, 103, 37, 104, 105, 40, 106, 107, 108, 109, 53, 54, 55, 56, 57, 58, 110, 111, 112, 113, 114, 115, 116, 117, 118, 119, 120, 121, 122, 123, 124, 132, 133] (by decide +kernel) (by decide +kernel)
set_option maxRecDepth 20000 in
theorem gX1_fits_X1_kindAt : GoodIn wsX1_fits (wsV RX1 48 RX1 yX1_kindAt wsX1_kindAt) := goodIn_app (goodIn_of _ (by decide +kernel)) ggX1_fits_X1_kindAt
set_option maxRecDepth 20000 in
theorem ggX1_fits_X1_digitAt : GoodIn wsX1_fits wsX1_digitAt := goodIn_r _ [128, 63, 1, 132, 133] (by decide +kernel) (by decide +kernel)
set_option maxRecDepth 20000 in
theorem gX1_fits_X1_digitAt : GoodIn wsX1_fits (wsV RX1 52 RX1 yX1_digitAt wsX1_digitAt) := goodIn_app (goodIn_of _ (by decide +kernel)) ggX1_fits_X1_digitAt
set_option maxRecDepth 20000 in
theorem ggX1_fits_X3_isWithin : GoodIn wsX1_fits wsX3_isWithin := goodIn_r _ [131] (by decide +kernel) (by decide +kernel)
set_option maxRecDepth 20000 in
theorem gX1_fits_X3_isWithin_n55 : GoodIn wsX1_fits (wsX3_isWithin) := ggX1_fits_X3_isWithin
theorem dX1_fits_0 : decode cX1_fits 0 = .ok (.aload_n 0, 1) := by decide +kernel
theorem dX1_fits_1 : decode cX1_fits 1 = .ok (.getfield 9, 3) := by decide +kernel
theorem dX1_fits_4 : decode cX1_fits 4 = .ok (.iload_n 1, 1) := by decide +kernel
theorem dX1_fits_5 : decode cX1_fits 5 = .ok (.iaload, 1) := by decide +kernel
theorem dX1_fits_6 : decode cX1_fits 6 = .ok (.invokestatic 31, 3) := by decide +kernel
theorem dX1_fits_9 : decode cX1_fits 9 = .ok (.astore_n 3, 1) := by decide +kernel
theorem dX1_fits_10 : decode cX1_fits 10 = .ok (.iload_n 2, 1) := by decide +kernel
theorem dX1_fits_11 : decode cX1_fits 11 = .ok (.iload_n 1, 1) := by decide +kernel
theorem dX1_fits_12 : decode cX1_fits 12 = .ok (.if_icmp .ne 16, 3) := by decide +kernel
theorem dX1_fits_15 : decode cX1_fits 15 = .ok (.aload_n 3, 1) := by decide +kernel
theorem dX1_fits_16 : decode cX1_fits 16 = .ok (.invokevirtual 35, 3) := by decide +kernel
theorem dX1_fits_19 : decode cX1_fits 19 = .ok (.ifCond .ne 7, 3) := by decide +kernel
theorem dX1_fits_22 : decode cX1_fits 22 = .ok (.iconst 1, 1) := by decide +kernel
theorem dX1_fits_23 : decode cX1_fits 23 = .ok (.goto 4, 3) := by decide +kernel
theorem dX1_fits_26 : decode cX1_fits 26 = .ok (.iconst 0, 1) := by decide +kernel
theorem dX1_fits_27 : decode cX1_fits 27 = .ok (.ireturn, 1) := by decide +kernel
theorem dX1_fits_28 : decode cX1_fits 28 = .ok (.iload_n 2, 1) := by decide +kernel
theorem dX1_fits_29 : decode cX1_fits 29 = .ok (.iload_n 1, 1) := by decide +kernel
theorem dX1_fits_30 : decode cX1_fits 30 = .ok (.isub, 1) := by decide +kernel
theorem dX1_fits_31 : decode cX1_fits 31 = .ok (.iconst 1, 1) := by decide +kernel
theorem dX1_fits_32 : decode cX1_fits 32 = .ok (.isub, 1) := by decide +kernel
theorem dX1_fits_33 : decode cX1_fits 33 = .ok (.istore 4, 2) := by decide +kernel
theorem dX1_fits_35 : decode cX1_fits 35 = .ok (.iload 4, 2) := by decide +kernel
theorem dX1_fits_37 : decode cX1_fits 37 = .ok (.ifCond .lt 12, 3) := by decide +kernel
theorem dX1_fits_40 : decode cX1_fits 40 = .ok (.iload 4, 2) := by decide +kernel
theorem dX1_fits_42 : decode cX1_fits 42 = .ok (.aload_n 3, 1) := by decide +kernel
theorem dX1_fits_43 : decode cX1_fits 43 = .ok (.invokevirtual 40, 3) := by decide +kernel
theorem dX1_fits_46 : decode cX1_fits 46 = .ok (.if_icmp .lt 5, 3) := by decide +kernel
theorem dX1_fits_49 : decode cX1_fits 49 = .ok (.iconst 0, 1) := by decide +kernel
theorem dX1_fits_50 : decode cX1_fits 50 = .ok (.ireturn, 1) := by decide +kernel
theorem dX1_fits_51 : decode cX1_fits 51 = .ok (.aload_n 3, 1) := by decide +kernel
theorem dX1_fits_52 : decode cX1_fits 52 = .ok (.iload 4, 2) := by decide +kernel
theorem dX1_fits_54 : decode cX1_fits 54 = .ok (.invokevirtual 44, 3) := by decide +kernel
theorem dX1_fits_57 : decode cX1_fits 57 = .ok (.istore 5, 2) := by decide +kernel
theorem dX1_fits_59 : decode cX1_fits 59 = .ok (.iload 5, 2) := by decide +kernel
theorem dX1_fits_61 : decode cX1_fits 61 = .ok (.lookupswitch 54 #[(48, 42), (107, 27)], 27) := by decide +kernel
theorem dX1_fits_88 : decode cX1_fits 88 = .ok (.aload_n 0, 1) := by decide +kernel
theorem dX1_fits_89 : decode cX1_fits 89 = .ok (.iload_n 2, 1) := by decide +kernel
theorem dX1_fits_90 : decode cX1_fits 90 = .ok (.invokevirtual 48, 3) := by decide +kernel
theorem dX1_fits_93 : decode cX1_fits 93 = .ok (.iconst (-1), 1) := by decide +kernel
theorem dX1_fits_94 : decode cX1_fits 94 = .ok (.if_icmp .eq 7, 3) := by decide +kernel
theorem dX1_fits_97 : decode cX1_fits 97 = .ok (.iconst 1, 1) := by decide +kernel
theorem dX1_fits_98 : decode cX1_fits 98 = .ok (.goto 4, 3) := by decide +kernel
theorem dX1_fits_101 : decode cX1_fits 101 = .ok (.iconst 0, 1) := by decide +kernel
theorem dX1_fits_102 : decode cX1_fits 102 = .ok (.ireturn, 1) := by decide +kernel
theorem dX1_fits_103 : decode cX1_fits 103 = .ok (.aload_n 0, 1) := by decide +kernel
theorem dX1_fits_104 : decode cX1_fits 104 = .ok (.iload_n 2, 1) := by decide +kernel
theorem dX1_fits_105 : decode cX1_fits 105 = .ok (.invokevirtual 52, 3) := by decide +kernel
theorem dX1_fits_108 : decode cX1_fits 108 = .ok (.iconst 0, 1) := by decide +kernel
theorem dX1_fits_109 : decode cX1_fits 109 = .ok (.bipush 9, 2) := by decide +kernel
theorem dX1_fits_111 : decode cX1_fits 111 = .ok (.invokestatic 55, 3) := by decide +kernel
theorem dX1_fits_114 : decode cX1_fits 114 = .ok (.ireturn, 1) := by decide +kernel
theorem dX1_fits_115 : decode cX1_fits 115 = .ok (.aload_n 0, 1) := by decide +kernel
theorem dX1_fits_116 : decode cX1_fits 116 = .ok (.getfield 9, 3) := by decide +kernel
theorem dX1_fits_119 : decode cX1_fits 119 = .ok (.iload_n 2, 1) := by decide +kernel
theorem dX1_fits_120 : decode cX1_fits 120 = .ok (.iaload, 1) := by decide +kernel
theorem dX1_fits_121 : decode cX1_fits 121 = .ok (.iload 5, 2) := by decide +kernel
theorem dX1_fits_123 : decode cX1_fits 123 = .ok (.if_icmp .ne 7, 3) := by decide +kernel
theorem dX1_fits_126 : decode cX1_fits 126 = .ok (.iconst 1, 1) := by decide +kernel
theorem dX1_fits_127 : decode cX1_fits 127 = .ok (.goto 4, 3) := by decide +kernel
theorem dX1_fits_130 : decode cX1_fits 130 = .ok (.iconst 0, 1) := by decide +kernel
theorem dX1_fits_131 : decode cX1_fits 131 = .ok (.ireturn, 1) := by decide +kernel
theorem dX1_shapeBehind_0 : decode cX1_shapeBehind 0 = .ok (.iload_n 0, 1) := by decide +kernel
theorem dX1_shapeBehind_1 : decode cX1_shapeBehind 1 = .ok (.tableswitch 118 99 120 #[103, 103, 112, 118, 118, 112, 118, 118, 118, 118, 118, 118, 118, 118, 118, 118, 118, 106, 118, 109, 118, 115], 103) := by decide +kernel
theorem dX1_shapeBehind_104 : decode cX1_shapeBehind 104 = .ok (.ldc 59, 2) := by decide +kernel
theorem dX1_shapeBehind_106 : decode cX1_shapeBehind 106 = .ok (.areturn, 1) := by decide +kernel
theorem dX1_shapeBehind_107 : decode cX1_shapeBehind 107 = .ok (.ldc 61, 2) := by decide +kernel
theorem dX1_shapeBehind_109 : decode cX1_shapeBehind 109 = .ok (.areturn, 1) := by decide +kernel
theorem dX1_shapeBehind_110 : decode cX1_shapeBehind 110 = .ok (.ldc 63, 2) := by decide +kernel
theorem dX1_shapeBehind_112 : decode cX1_shapeBehind 112 = .ok (.areturn, 1) := by decide +kernel
theorem dX1_shapeBehind_113 : decode cX1_shapeBehind 113 = .ok (.ldc 65, 2) := by decide +kernel
theorem dX1_shapeBehind_115 : decode cX1_shapeBehind 115 = .ok (.areturn, 1) := by decide +kernel
theorem dX1_shapeBehind_116 : decode cX1_shapeBehind 116 = .ok (.ldc 67, 2) := by decide +kernel
theorem dX1_shapeBehind_118 : decode cX1_shapeBehind 118 = .ok (.areturn, 1) := by decide +kernel
theorem dX1_shapeBehind_119 : decode cX1_shapeBehind 119 = .ok (.ldc 69, 2) := by decide +kernel
theorem dX1_shapeBehind_121 : decode cX1_shapeBehind 121 = .ok (.areturn, 1) := by decide +kernel
set_option maxRecDepth 20000 in
theorem ggX1_tell_X1_twoDigitsAt : GoodIn wsX1_tell wsX1_twoDigitsAt := goodIn_r _ [6, 7, 8, 9, 5, 10, 11, 1, 188, 189] (by decide +kernel) (by decide +kernel)
set_option maxRecDepth 20000 in
theorem gX1_tell_X1_twoDigitsAt : GoodIn wsX1_tell (wsV RX1 71 RX1 yX1_twoDigitsAt wsX1_twoDigitsAt) := goodIn_app (goodIn_of _ (by decide +kernel)) ggX1_tell_X1_twoDigitsAt
set_option maxRecDepth 20000 in
theorem ggX1_tell_X1_digitAt : GoodIn wsX1_tell wsX1_digitAt := goodIn_r _ [10, 11, 1, 188, 189] (by decide +kernel) (by decide +kernel)
set_option maxRecDepth 20000 in
theorem gX1_tell_X1_digitAt : GoodIn wsX1_tell (wsV RX1 52 RX1 yX1_digitAt wsX1_digitAt) := goodIn_app (goodIn_of _ (by decide +kernel)) ggX1_tell_X1_digitAt
set_option maxRecDepth 20000 in
theorem ggX1_tell_X1_tellHeight : GoodIn wsX1_tell wsX1_tellHeight := goodIn_r _ [14, 15, 16, 17, 18, 19, 20, 21, 22, 23, 24, 25, 26, 27, 28, 29, 30, 31, 190, 191, 192, 193, 194, 195, 196, 197, 198, 199, 200] (by decide +kernel) (by decide +kernel)
set_option maxRecDepth 20000 in
theorem gX1_tell_X1_tellHeight : GoodIn wsX1_tell (va_wsS RX1 74 yX1_tellHeight wsX1_tellHeight) := goodIn_app (goodIn_of _ (by decide +kernel)) ggX1_tell_X1_tellHeight
set_option maxRecDepth 20000 in
theorem ggX1_tell_X1_kindAt : GoodIn wsX1_tell wsX1_kindAt := goodIn_r _ [35, 11, 1, 36, 37, 38, 39, 40, 41, 42, 43, 44, 45, 46, 47, 48, 49, 50, 51, 52, 53, 54, 55, 56, 57, 58, 59, 60, 61, 62, 63, 64, 29, 30, 31, 65, 66, 67, 68, 69, 70, 71, 72, 73, 74, 75, 76, 77, 78, 79, 80, 81, 82, 83, 84, 85, 86, 87, 88, 89, 90, 91, 92, 93, 94, 95, 96, 97, 98, 99, 100, 101, 102, 103, 104, 105, 106, 107, 108, 109, 110, 111, 112, 113, 114, 115, 116, 117, 118, 119, 120, 121, 188, 189] (by decide +kernel) (by decide +kernel)
set_option maxRecDepth 20000 in
theorem gX1_tell_X1_kindAt : GoodIn wsX1_tell (wsV RX1 48 RX1 yX1_kindAt wsX1_kindAt) := goodIn_app (goodIn_of _ (by decide +kernel)) ggX1_tell_X1_kindAt
set_option maxRecDepth 20000 in
theorem ggX1_tell_X1_tellThing : GoodIn wsX1_tell wsX1_tellThing := goodIn_r _ [124, 125, 126, 16, 127, 18, 19, 20, 15, 17, 128, 129, 130, 24, 131, 132, 133, 134, 135, 190, 191, 192, 193, 194, 195, 196, 197, 198, 199, 200] (by decide +kernel) (by decide +kernel)
set_option maxRecDepth 20000 in
theorem gX1_tell_X1_tellThing : GoodIn wsX1_tell (va_wsS RX1 78 yX1_tellThing wsX1_tellThing) := goodIn_app (goodIn_of _ (by decide +kernel)) ggX1_tell_X1_tellThing
set_option maxRecDepth 20000 in
theorem ggX1_tell_X1_tellCode : GoodIn wsX1_tell wsX1_tellCode := goodIn_r _ [138, 126, 16, 127, 18, 19, 20, 139, 140, 141, 142, 143, 24, 144, 145, 146, 190, 191, 192, 193, 194, 195, 196, 197, 198, 199, 200] (by decide +kernel) (by decide +kernel)
set_option maxRecDepth 20000 in
theorem gX1_tell_X1_tellCode : GoodIn wsX1_tell (va_wsS RX1 82 yX1_tellCode wsX1_tellCode) := goodIn_app (goodIn_of _ (by decide +kernel)) ggX1_tell_X1_tellCode
set_option maxRecDepth 20000 in
theorem ggX1_tell_X1_tellEyes : GoodIn wsX1_tell wsX1_tellEyes := goodIn_r _ [149, 150, 19, 16, 20, 190, 191, 192, 193, 194, 195, 196, 197, 198, 199, 200] (by decide +kernel) (by decide +kernel)
set_option maxRecDepth 20000 in
theorem gX1_tell_X1_tellEyes : GoodIn wsX1_tell (va_wsS RX1 85 yX1_tellEyes wsX1_tellEyes) := goodIn_app (goodIn_of _ (by decide +kernel)) ggX1_tell_X1_tellEyes
set_option maxRecDepth 20000 in
theorem ggX1_tell_X1_tellHidden : GoodIn wsX1_tell wsX1_tellHidden := goodIn_r _ [153, 154, 155, 156, 24, 157, 133, 19, 16, 20, 158, 159, 160, 161, 162, 190, 191, 192, 193, 194, 195, 196, 197, 198, 199, 200] (by decide +kernel) (by decide +kernel)
set_option maxRecDepth 20000 in
theorem gX1_tell_X1_tellHidden : GoodIn wsX1_tell (va_wsS RX1 88 yX1_tellHidden wsX1_tellHidden) := goodIn_app (goodIn_of _ (by decide +kernel)) ggX1_tell_X1_tellHidden
set_option maxRecDepth 20000 in
theorem ggX1_tell_X1_tellDriven : GoodIn wsX1_tell wsX1_tellDriven := goodIn_r _ [165, 166, 154, 155, 156, 24, 157, 133, 19, 16, 20, 15, 17, 18, 190, 191, 192, 193, 194, 195, 196, 197, 198, 199, 200] (by decide +kernel) (by decide +kernel)
set_option maxRecDepth 20000 in
theorem gX1_tell_X1_tellDriven : GoodIn wsX1_tell (va_wsS RX1 91 yX1_tellDriven wsX1_tellDriven) := goodIn_app (goodIn_of _ (by decide +kernel)) ggX1_tell_X1_tellDriven
set_option maxRecDepth 20000 in
theorem ggX1_tell_X1_tellHours : GoodIn wsX1_tell wsX1_tellHours := goodIn_r _ [169, 170, 171, 66, 30, 67, 19, 16, 20, 172, 173, 174, 24, 175, 176, 133, 177, 178, 179, 180, 132, 134, 181, 182, 183, 184, 185, 186, 187, 135, 190, 191, 192, 193, 194, 195, 196, 197, 198, 199, 200] (by decide +kernel) (by decide +kernel)
set_option maxRecDepth 20000 in
theorem gX1_tell_X1_tellHours : GoodIn wsX1_tell (va_wsS RX1 94 yX1_tellHours wsX1_tellHours) := goodIn_app (goodIn_of _ (by decide +kernel)) ggX1_tell_X1_tellHours
theorem dX1_tell_0 : decode cX1_tell 0 = .ok (.aload_n 0, 1) := by decide +kernel
theorem dX1_tell_1 : decode cX1_tell 1 = .ok (.getfield 9, 3) := by decide +kernel
theorem dX1_tell_4 : decode cX1_tell 4 = .ok (.iload_n 2, 1) := by decide +kernel
theorem dX1_tell_5 : decode cX1_tell 5 = .ok (.iaload, 1) := by decide +kernel
theorem dX1_tell_6 : decode cX1_tell 6 = .ok (.tableswitch 228 99 120 #[102, 197, 173, 228, 228, 216, 228, 228, 228, 228, 228, 228, 228, 228, 228, 228, 228, 121, 228, 147, 228, 185], 102) := by decide +kernel
theorem dX1_tell_108 : decode cX1_tell 108 = .ok (.aload_n 1, 1) := by decide +kernel
theorem dX1_tell_109 : decode cX1_tell 109 = .ok (.aload_n 0, 1) := by decide +kernel
theorem dX1_tell_110 : decode cX1_tell 110 = .ok (.iload_n 2, 1) := by decide +kernel
theorem dX1_tell_111 : decode cX1_tell 111 = .ok (.iconst 1, 1) := by decide +kernel
theorem dX1_tell_112 : decode cX1_tell 112 = .ok (.iadd, 1) := by decide +kernel
theorem dX1_tell_113 : decode cX1_tell 113 = .ok (.invokevirtual 71, 3) := by decide +kernel
theorem dX1_tell_116 : decode cX1_tell 116 = .ok (.aload_n 0, 1) := by decide +kernel
theorem dX1_tell_117 : decode cX1_tell 117 = .ok (.iload_n 2, 1) := by decide +kernel
theorem dX1_tell_118 : decode cX1_tell 118 = .ok (.iconst 3, 1) := by decide +kernel
theorem dX1_tell_119 : decode cX1_tell 119 = .ok (.iadd, 1) := by decide +kernel
theorem dX1_tell_120 : decode cX1_tell 120 = .ok (.invokevirtual 52, 3) := by decide +kernel
theorem dX1_tell_123 : decode cX1_tell 123 = .ok (.invokestatic 74, 3) := by decide +kernel
theorem dX1_tell_126 : decode cX1_tell 126 = .ok (.ireturn, 1) := by decide +kernel
theorem dX1_tell_127 : decode cX1_tell 127 = .ok (.aload_n 1, 1) := by decide +kernel
theorem dX1_tell_128 : decode cX1_tell 128 = .ok (.aload_n 0, 1) := by decide +kernel
theorem dX1_tell_129 : decode cX1_tell 129 = .ok (.iload_n 2, 1) := by decide +kernel
theorem dX1_tell_130 : decode cX1_tell 130 = .ok (.iconst 1, 1) := by decide +kernel
theorem dX1_tell_131 : decode cX1_tell 131 = .ok (.iadd, 1) := by decide +kernel
theorem dX1_tell_132 : decode cX1_tell 132 = .ok (.invokevirtual 48, 3) := by decide +kernel
theorem dX1_tell_135 : decode cX1_tell 135 = .ok (.aload_n 0, 1) := by decide +kernel
theorem dX1_tell_136 : decode cX1_tell 136 = .ok (.iload_n 2, 1) := by decide +kernel
theorem dX1_tell_137 : decode cX1_tell 137 = .ok (.iconst 2, 1) := by decide +kernel
theorem dX1_tell_138 : decode cX1_tell 138 = .ok (.iadd, 1) := by decide +kernel
theorem dX1_tell_139 : decode cX1_tell 139 = .ok (.invokevirtual 52, 3) := by decide +kernel
theorem dX1_tell_142 : decode cX1_tell 142 = .ok (.aload_n 0, 1) := by decide +kernel
theorem dX1_tell_143 : decode cX1_tell 143 = .ok (.iload_n 2, 1) := by decide +kernel
theorem dX1_tell_144 : decode cX1_tell 144 = .ok (.iconst 3, 1) := by decide +kernel
theorem dX1_tell_145 : decode cX1_tell 145 = .ok (.iadd, 1) := by decide +kernel
theorem dX1_tell_146 : decode cX1_tell 146 = .ok (.invokevirtual 71, 3) := by decide +kernel
theorem dX1_tell_149 : decode cX1_tell 149 = .ok (.invokestatic 78, 3) := by decide +kernel
theorem dX1_tell_152 : decode cX1_tell 152 = .ok (.ireturn, 1) := by decide +kernel
theorem dX1_tell_153 : decode cX1_tell 153 = .ok (.aload_n 1, 1) := by decide +kernel
theorem dX1_tell_154 : decode cX1_tell 154 = .ok (.aload_n 0, 1) := by decide +kernel
theorem dX1_tell_155 : decode cX1_tell 155 = .ok (.iload_n 2, 1) := by decide +kernel
theorem dX1_tell_156 : decode cX1_tell 156 = .ok (.iconst 1, 1) := by decide +kernel
theorem dX1_tell_157 : decode cX1_tell 157 = .ok (.iadd, 1) := by decide +kernel
theorem dX1_tell_158 : decode cX1_tell 158 = .ok (.invokevirtual 48, 3) := by decide +kernel
theorem dX1_tell_161 : decode cX1_tell 161 = .ok (.aload_n 0, 1) := by decide +kernel
theorem dX1_tell_162 : decode cX1_tell 162 = .ok (.iload_n 2, 1) := by decide +kernel
theorem dX1_tell_163 : decode cX1_tell 163 = .ok (.iconst 2, 1) := by decide +kernel
theorem dX1_tell_164 : decode cX1_tell 164 = .ok (.iadd, 1) := by decide +kernel
theorem dX1_tell_165 : decode cX1_tell 165 = .ok (.invokevirtual 52, 3) := by decide +kernel
theorem dX1_tell_168 : decode cX1_tell 168 = .ok (.aload_n 0, 1) := by decide +kernel
theorem dX1_tell_169 : decode cX1_tell 169 = .ok (.iload_n 2, 1) := by decide +kernel
theorem dX1_tell_170 : decode cX1_tell 170 = .ok (.iconst 3, 1) := by decide +kernel
theorem dX1_tell_171 : decode cX1_tell 171 = .ok (.iadd, 1) := by decide +kernel
theorem dX1_tell_172 : decode cX1_tell 172 = .ok (.invokevirtual 52, 3) := by decide +kernel
theorem dX1_tell_175 : decode cX1_tell 175 = .ok (.invokestatic 82, 3) := by decide +kernel
theorem dX1_tell_178 : decode cX1_tell 178 = .ok (.ireturn, 1) := by decide +kernel
theorem dX1_tell_179 : decode cX1_tell 179 = .ok (.aload_n 1, 1) := by decide +kernel
theorem dX1_tell_180 : decode cX1_tell 180 = .ok (.aload_n 0, 1) := by decide +kernel
theorem dX1_tell_181 : decode cX1_tell 181 = .ok (.iload_n 2, 1) := by decide +kernel
theorem dX1_tell_182 : decode cX1_tell 182 = .ok (.iconst 1, 1) := by decide +kernel
theorem dX1_tell_183 : decode cX1_tell 183 = .ok (.iadd, 1) := by decide +kernel
theorem dX1_tell_184 : decode cX1_tell 184 = .ok (.invokevirtual 71, 3) := by decide +kernel
theorem dX1_tell_187 : decode cX1_tell 187 = .ok (.invokestatic 85, 3) := by decide +kernel
theorem dX1_tell_190 : decode cX1_tell 190 = .ok (.ireturn, 1) := by decide +kernel
theorem dX1_tell_191 : decode cX1_tell 191 = .ok (.aload_n 1, 1) := by decide +kernel
theorem dX1_tell_192 : decode cX1_tell 192 = .ok (.aload_n 0, 1) := by decide +kernel
theorem dX1_tell_193 : decode cX1_tell 193 = .ok (.iload_n 2, 1) := by decide +kernel
theorem dX1_tell_194 : decode cX1_tell 194 = .ok (.iconst 1, 1) := by decide +kernel
theorem dX1_tell_195 : decode cX1_tell 195 = .ok (.iadd, 1) := by decide +kernel
theorem dX1_tell_196 : decode cX1_tell 196 = .ok (.invokevirtual 52, 3) := by decide +kernel
theorem dX1_tell_199 : decode cX1_tell 199 = .ok (.invokestatic 88, 3) := by decide +kernel
theorem dX1_tell_202 : decode cX1_tell 202 = .ok (.ireturn, 1) := by decide +kernel
theorem dX1_tell_203 : decode cX1_tell 203 = .ok (.aload_n 1, 1) := by decide +kernel
theorem dX1_tell_204 : decode cX1_tell 204 = .ok (.aload_n 0, 1) := by decide +kernel
theorem dX1_tell_205 : decode cX1_tell 205 = .ok (.iload_n 2, 1) := by decide +kernel
theorem dX1_tell_206 : decode cX1_tell 206 = .ok (.iconst 1, 1) := by decide +kernel
theorem dX1_tell_207 : decode cX1_tell 207 = .ok (.iadd, 1) := by decide +kernel
theorem dX1_tell_208 : decode cX1_tell 208 = .ok (.invokevirtual 52, 3) := by decide +kernel
theorem dX1_tell_211 : decode cX1_tell 211 = .ok (.aload_n 0, 1) := by decide +kernel
theorem dX1_tell_212 : decode cX1_tell 212 = .ok (.iload_n 2, 1) := by decide +kernel
theorem dX1_tell_213 : decode cX1_tell 213 = .ok (.iconst 2, 1) := by decide +kernel
theorem dX1_tell_214 : decode cX1_tell 214 = .ok (.iadd, 1) := by decide +kernel
theorem dX1_tell_215 : decode cX1_tell 215 = .ok (.invokevirtual 71, 3) := by decide +kernel
theorem dX1_tell_218 : decode cX1_tell 218 = .ok (.invokestatic 91, 3) := by decide +kernel
theorem dX1_tell_221 : decode cX1_tell 221 = .ok (.ireturn, 1) := by decide +kernel
theorem dX1_tell_222 : decode cX1_tell 222 = .ok (.aload_n 1, 1) := by decide +kernel
theorem dX1_tell_223 : decode cX1_tell 223 = .ok (.aload_n 0, 1) := by decide +kernel
theorem dX1_tell_224 : decode cX1_tell 224 = .ok (.iload_n 2, 1) := by decide +kernel
theorem dX1_tell_225 : decode cX1_tell 225 = .ok (.iconst 1, 1) := by decide +kernel
theorem dX1_tell_226 : decode cX1_tell 226 = .ok (.iadd, 1) := by decide +kernel
theorem dX1_tell_227 : decode cX1_tell 227 = .ok (.invokevirtual 71, 3) := by decide +kernel
theorem dX1_tell_230 : decode cX1_tell 230 = .ok (.invokestatic 94, 3) := by decide +kernel
theorem dX1_tell_233 : decode cX1_tell 233 = .ok (.ireturn, 1) := by decide +kernel
theorem dX1_tell_234 : decode cX1_tell 234 = .ok (.iconst 0, 1) := by decide +kernel
theorem dX1_tell_235 : decode cX1_tell 235 = .ok (.ireturn, 1) := by decide +kernel
set_option maxRecDepth 20000 in
theorem ggX1_tellHeight_X3_isCell : GoodIn wsX1_tellHeight wsX3_isCell := goodIn_r _ [3, 4, 5, 2, 6] (by decide +kernel) (by decide +kernel)
set_option maxRecDepth 20000 in
theorem gX1_tellHeight_X3_isCell_n97 : GoodIn wsX1_tellHeight (wsX3_isCell) := ggX1_tellHeight_X3_isCell
set_option maxRecDepth 20000 in
theorem ggX1_tellHeight_X0_setHeight : GoodIn wsX1_tellHeight wsX0_setHeight := goodIn_r _ [11, 12, 13, 14, 15, 16, 17, 18, 19, 20, 21, 22, 23, 24, 25, 26, 27, 28] (by decide +kernel) (by decide +kernel)
set_option maxRecDepth 20000 in
theorem gX1_tellHeight_X0_setHeight : GoodIn wsX1_tellHeight (wsV RX1 101 RX0 yX0_setHeight wsX0_setHeight) := goodIn_app (goodIn_of _ (by decide +kernel)) ggX1_tellHeight_X0_setHeight
theorem dX1_tellHeight_0 : decode cX1_tellHeight 0 = .ok (.iload_n 1, 1) := by decide +kernel
theorem dX1_tellHeight_1 : decode cX1_tellHeight 1 = .ok (.invokestatic 97, 3) := by decide +kernel
theorem dX1_tellHeight_4 : decode cX1_tellHeight 4 = .ok (.istore_n 3, 1) := by decide +kernel
theorem dX1_tellHeight_5 : decode cX1_tellHeight 5 = .ok (.iload_n 3, 1) := by decide +kernel
theorem dX1_tellHeight_6 : decode cX1_tellHeight 6 = .ok (.ifCond .eq 9, 3) := by decide +kernel
theorem dX1_tellHeight_9 : decode cX1_tellHeight 9 = .ok (.aload_n 0, 1) := by decide +kernel
theorem dX1_tellHeight_10 : decode cX1_tellHeight 10 = .ok (.iload_n 1, 1) := by decide +kernel
theorem dX1_tellHeight_11 : decode cX1_tellHeight 11 = .ok (.iload_n 2, 1) := by decide +kernel
theorem dX1_tellHeight_12 : decode cX1_tellHeight 12 = .ok (.invokevirtual 101, 3) := by decide +kernel
theorem dX1_tellHeight_15 : decode cX1_tellHeight 15 = .ok (.iload_n 3, 1) := by decide +kernel
theorem dX1_tellHeight_16 : decode cX1_tellHeight 16 = .ok (.ireturn, 1) := by decide +kernel
set_option maxRecDepth 20000 in
theorem ggX1_tellThing_X3_isKind : GoodIn wsX1_tellThing wsX3_isKind := goodIn_r _ [4, 5, 6, 3, 7] (by decide +kernel) (by decide +kernel)
set_option maxRecDepth 20000 in
theorem gX1_tellThing_X3_isKind_n110 : GoodIn wsX1_tellThing (wsX3_isKind) := ggX1_tellThing_X3_isKind
set_option maxRecDepth 20000 in
theorem ggX1_tellThing_X3_isCell : GoodIn wsX1_tellThing wsX3_isCell := goodIn_r _ [9, 5, 6, 3, 7] (by decide +kernel) (by decide +kernel)
set_option maxRecDepth 20000 in
theorem gX1_tellThing_X3_isCell_n97 : GoodIn wsX1_tellThing (wsX3_isCell) := ggX1_tellThing_X3_isCell
set_option maxRecDepth 20000 in
theorem ggX1_tellThing_X0_addThing : GoodIn wsX1_tellThing wsX0_addThing := goodIn_r _ [14, 15, 16, 17, 18, 19, 20, 21, 22, 23, 24, 25, 26, 27, 28, 29] (by decide +kernel) (by decide +kernel)
set_option maxRecDepth 20000 in
theorem gX1_tellThing_X0_addThing : GoodIn wsX1_tellThing (wsV RX1 113 RX0 yX0_addThing wsX0_addThing) := goodIn_app (goodIn_of _ (by decide +kernel)) ggX1_tellThing_X0_addThing
theorem dX1_tellThing_0 : decode cX1_tellThing 0 = .ok (.aload_n 0, 1) := by decide +kernel
theorem dX1_tellThing_1 : decode cX1_tellThing 1 = .ok (.getfield 107, 3) := by decide +kernel
theorem dX1_tellThing_4 : decode cX1_tellThing 4 = .ok (.bipush 7, 2) := by decide +kernel
theorem dX1_tellThing_6 : decode cX1_tellThing 6 = .ok (.if_icmp .ge 21, 3) := by decide +kernel
theorem dX1_tellThing_9 : decode cX1_tellThing 9 = .ok (.iload_n 1, 1) := by decide +kernel
theorem dX1_tellThing_10 : decode cX1_tellThing 10 = .ok (.invokestatic 110, 3) := by decide +kernel
theorem dX1_tellThing_13 : decode cX1_tellThing 13 = .ok (.ifCond .eq 14, 3) := by decide +kernel
theorem dX1_tellThing_16 : decode cX1_tellThing 16 = .ok (.iload_n 3, 1) := by decide +kernel
theorem dX1_tellThing_17 : decode cX1_tellThing 17 = .ok (.invokestatic 97, 3) := by decide +kernel
theorem dX1_tellThing_20 : decode cX1_tellThing 20 = .ok (.ifCond .eq 7, 3) := by decide +kernel
theorem dX1_tellThing_23 : decode cX1_tellThing 23 = .ok (.iconst 1, 1) := by decide +kernel
theorem dX1_tellThing_24 : decode cX1_tellThing 24 = .ok (.goto 4, 3) := by decide +kernel
theorem dX1_tellThing_27 : decode cX1_tellThing 27 = .ok (.iconst 0, 1) := by decide +kernel
theorem dX1_tellThing_28 : decode cX1_tellThing 28 = .ok (.istore 4, 2) := by decide +kernel
theorem dX1_tellThing_30 : decode cX1_tellThing 30 = .ok (.iload 4, 2) := by decide +kernel
theorem dX1_tellThing_32 : decode cX1_tellThing 32 = .ok (.ifCond .eq 10, 3) := by decide +kernel
theorem dX1_tellThing_35 : decode cX1_tellThing 35 = .ok (.aload_n 0, 1) := by decide +kernel
theorem dX1_tellThing_36 : decode cX1_tellThing 36 = .ok (.iload_n 1, 1) := by decide +kernel
theorem dX1_tellThing_37 : decode cX1_tellThing 37 = .ok (.iload_n 2, 1) := by decide +kernel
theorem dX1_tellThing_38 : decode cX1_tellThing 38 = .ok (.iload_n 3, 1) := by decide +kernel
theorem dX1_tellThing_39 : decode cX1_tellThing 39 = .ok (.invokevirtual 113, 3) := by decide +kernel
theorem dX1_tellThing_42 : decode cX1_tellThing 42 = .ok (.iload 4, 2) := by decide +kernel
theorem dX1_tellThing_44 : decode cX1_tellThing 44 = .ok (.ireturn, 1) := by decide +kernel
set_option maxRecDepth 20000 in
theorem ggX1_tellCode_X3_isKind : GoodIn wsX1_tellCode wsX3_isKind := goodIn_r _ [3, 4, 5, 2, 6] (by decide +kernel) (by decide +kernel)
set_option maxRecDepth 20000 in
theorem gX1_tellCode_X3_isKind_n110 : GoodIn wsX1_tellCode (wsX3_isKind) := ggX1_tellCode_X3_isKind
set_option maxRecDepth 20000 in
theorem ggX1_tellCode_X3_isVerdict : GoodIn wsX1_tellCode wsX3_isVerdict := goodIn_r _ [8, 4, 5, 2, 6] (by decide +kernel) (by decide +kernel)
set_option maxRecDepth 20000 in
theorem gX1_tellCode_X3_isVerdict_n117 : GoodIn wsX1_tellCode (wsX3_isVerdict) := ggX1_tellCode_X3_isVerdict
set_option maxRecDepth 20000 in
theorem ggX1_tellCode_X0_decree : GoodIn wsX1_tellCode wsX0_decree := goodIn_r _ [13, 14, 15, 16, 17, 18, 19, 20, 21, 22, 23, 24, 25, 26] (by decide +kernel) (by decide +kernel)
set_option maxRecDepth 20000 in
theorem gX1_tellCode_X0_decree : GoodIn wsX1_tellCode (wsV RX1 120 RX0 yX0_decree wsX0_decree) := goodIn_app (goodIn_of _ (by decide +kernel)) ggX1_tellCode_X0_decree
theorem dX1_tellCode_0 : decode cX1_tellCode 0 = .ok (.iload_n 1, 1) := by decide +kernel
theorem dX1_tellCode_1 : decode cX1_tellCode 1 = .ok (.invokestatic 110, 3) := by decide +kernel
theorem dX1_tellCode_4 : decode cX1_tellCode 4 = .ok (.ifCond .eq 14, 3) := by decide +kernel
theorem dX1_tellCode_7 : decode cX1_tellCode 7 = .ok (.iload_n 2, 1) := by decide +kernel
theorem dX1_tellCode_8 : decode cX1_tellCode 8 = .ok (.invokestatic 117, 3) := by decide +kernel
theorem dX1_tellCode_11 : decode cX1_tellCode 11 = .ok (.ifCond .eq 7, 3) := by decide +kernel
theorem dX1_tellCode_14 : decode cX1_tellCode 14 = .ok (.iconst 1, 1) := by decide +kernel
theorem dX1_tellCode_15 : decode cX1_tellCode 15 = .ok (.goto 4, 3) := by decide +kernel
theorem dX1_tellCode_18 : decode cX1_tellCode 18 = .ok (.iconst 0, 1) := by decide +kernel
theorem dX1_tellCode_19 : decode cX1_tellCode 19 = .ok (.istore 4, 2) := by decide +kernel
theorem dX1_tellCode_21 : decode cX1_tellCode 21 = .ok (.iload 4, 2) := by decide +kernel
theorem dX1_tellCode_23 : decode cX1_tellCode 23 = .ok (.ifCond .eq 10, 3) := by decide +kernel
theorem dX1_tellCode_26 : decode cX1_tellCode 26 = .ok (.aload_n 0, 1) := by decide +kernel
theorem dX1_tellCode_27 : decode cX1_tellCode 27 = .ok (.iload_n 1, 1) := by decide +kernel
theorem dX1_tellCode_28 : decode cX1_tellCode 28 = .ok (.iload_n 2, 1) := by decide +kernel
theorem dX1_tellCode_29 : decode cX1_tellCode 29 = .ok (.iload_n 3, 1) := by decide +kernel
theorem dX1_tellCode_30 : decode cX1_tellCode 30 = .ok (.invokevirtual 120, 3) := by decide +kernel
theorem dX1_tellCode_33 : decode cX1_tellCode 33 = .ok (.iload 4, 2) := by decide +kernel
theorem dX1_tellCode_35 : decode cX1_tellCode 35 = .ok (.ireturn, 1) := by decide +kernel
set_option maxRecDepth 20000 in
theorem ggX1_tellEyes_X3_isWithin : GoodIn wsX1_tellEyes wsX3_isWithin := goodIn_r _ [4] (by decide +kernel) (by decide +kernel)
set_option maxRecDepth 20000 in
theorem gX1_tellEyes_X3_isWithin_n55 : GoodIn wsX1_tellEyes (wsX3_isWithin) := ggX1_tellEyes_X3_isWithin
theorem dX1_tellEyes_0 : decode cX1_tellEyes 0 = .ok (.iload_n 1, 1) := by decide +kernel
theorem dX1_tellEyes_1 : decode cX1_tellEyes 1 = .ok (.iconst 0, 1) := by decide +kernel
theorem dX1_tellEyes_2 : decode cX1_tellEyes 2 = .ok (.bipush 16, 2) := by decide +kernel
theorem dX1_tellEyes_4 : decode cX1_tellEyes 4 = .ok (.invokestatic 55, 3) := by decide +kernel
theorem dX1_tellEyes_7 : decode cX1_tellEyes 7 = .ok (.istore_n 2, 1) := by decide +kernel
theorem dX1_tellEyes_8 : decode cX1_tellEyes 8 = .ok (.iload_n 2, 1) := by decide +kernel
theorem dX1_tellEyes_9 : decode cX1_tellEyes 9 = .ok (.ifCond .eq 8, 3) := by decide +kernel
theorem dX1_tellEyes_12 : decode cX1_tellEyes 12 = .ok (.aload_n 0, 1) := by decide +kernel
theorem dX1_tellEyes_13 : decode cX1_tellEyes 13 = .ok (.iload_n 1, 1) := by decide +kernel
theorem dX1_tellEyes_14 : decode cX1_tellEyes 14 = .ok (.putfield 123, 3) := by decide +kernel
theorem dX1_tellEyes_17 : decode cX1_tellEyes 17 = .ok (.iload_n 2, 1) := by decide +kernel
theorem dX1_tellEyes_18 : decode cX1_tellEyes 18 = .ok (.ireturn, 1) := by decide +kernel
set_option maxRecDepth 20000 in
theorem ggX1_tellHidden_X0_hasThing : GoodIn wsX1_tellHidden wsX0_hasThing := goodIn_r _ [5, 6, 7, 8, 9, 15, 16, 17, 18, 19, 20, 21, 22, 23, 24, 25] (by decide +kernel) (by decide +kernel)
set_option maxRecDepth 20000 in
theorem gX1_tellHidden_X0_hasThing : GoodIn wsX1_tellHidden (wsV RX1 126 RX0 yX0_hasThing wsX0_hasThing) := goodIn_app (goodIn_of _ (by decide +kernel)) ggX1_tellHidden_X0_hasThing
set_option maxRecDepth 20000 in
theorem ggX1_tellHidden_X0_turnHidden : GoodIn wsX1_tellHidden wsX0_turnHidden := goodIn_r _ [13, 14, 15, 16, 17, 18, 19, 20, 21, 22, 23, 24, 25] (by decide +kernel) (by decide +kernel)
set_option maxRecDepth 20000 in
theorem gX1_tellHidden_X0_turnHidden : GoodIn wsX1_tellHidden (wsV RX1 129 RX0 yX0_turnHidden wsX0_turnHidden) := goodIn_app (goodIn_of _ (by decide +kernel)) ggX1_tellHidden_X0_turnHidden
theorem dX1_tellHidden_0 : decode cX1_tellHidden 0 = .ok (.aload_n 0, 1) := by decide +kernel
theorem dX1_tellHidden_1 : decode cX1_tellHidden 1 = .ok (.iload_n 1, 1) := by decide +kernel
theorem dX1_tellHidden_2 : decode cX1_tellHidden 2 = .ok (.invokevirtual 126, 3) := by decide +kernel
theorem dX1_tellHidden_5 : decode cX1_tellHidden 5 = .ok (.istore_n 2, 1) := by decide +kernel
theorem dX1_tellHidden_6 : decode cX1_tellHidden 6 = .ok (.iload_n 2, 1) := by decide +kernel
theorem dX1_tellHidden_7 : decode cX1_tellHidden 7 = .ok (.ifCond .eq 8, 3) := by decide +kernel
theorem dX1_tellHidden_10 : decode cX1_tellHidden 10 = .ok (.aload_n 0, 1) := by decide +kernel
theorem dX1_tellHidden_11 : decode cX1_tellHidden 11 = .ok (.iload_n 1, 1) := by decide +kernel
theorem dX1_tellHidden_12 : decode cX1_tellHidden 12 = .ok (.invokevirtual 129, 3) := by decide +kernel
theorem dX1_tellHidden_15 : decode cX1_tellHidden 15 = .ok (.iload_n 2, 1) := by decide +kernel
theorem dX1_tellHidden_16 : decode cX1_tellHidden 16 = .ok (.ireturn, 1) := by decide +kernel
set_option maxRecDepth 20000 in
theorem ggX1_tellDriven_X0_hasThing : GoodIn wsX1_tellDriven wsX0_hasThing := goodIn_r _ [6, 7, 8, 9, 10, 14, 15, 16, 17, 18, 19, 20, 21, 22, 23, 24] (by decide +kernel) (by decide +kernel)
set_option maxRecDepth 20000 in
theorem gX1_tellDriven_X0_hasThing : GoodIn wsX1_tellDriven (wsV RX1 126 RX0 yX0_hasThing wsX0_hasThing) := goodIn_app (goodIn_of _ (by decide +kernel)) ggX1_tellDriven_X0_hasThing
set_option maxRecDepth 20000 in
theorem ggX1_tellDriven_X3_isCell : GoodIn wsX1_tellDriven wsX3_isCell := goodIn_r _ [12, 13, 8, 9, 10] (by decide +kernel) (by decide +kernel)
set_option maxRecDepth 20000 in
theorem gX1_tellDriven_X3_isCell_n97 : GoodIn wsX1_tellDriven (wsX3_isCell) := ggX1_tellDriven_X3_isCell
theorem dX1_tellDriven_0 : decode cX1_tellDriven 0 = .ok (.aload_n 0, 1) := by decide +kernel
theorem dX1_tellDriven_1 : decode cX1_tellDriven 1 = .ok (.iload_n 1, 1) := by decide +kernel
theorem dX1_tellDriven_2 : decode cX1_tellDriven 2 = .ok (.invokevirtual 126, 3) := by decide +kernel
theorem dX1_tellDriven_5 : decode cX1_tellDriven 5 = .ok (.ifCond .eq 14, 3) := by decide +kernel
theorem dX1_tellDriven_8 : decode cX1_tellDriven 8 = .ok (.iload_n 2, 1) := by decide +kernel
theorem dX1_tellDriven_9 : decode cX1_tellDriven 9 = .ok (.invokestatic 97, 3) := by decide +kernel
theorem dX1_tellDriven_12 : decode cX1_tellDriven 12 = .ok (.ifCond .eq 7, 3) := by decide +kernel
theorem dX1_tellDriven_15 : decode cX1_tellDriven 15 = .ok (.iconst 1, 1) := by decide +kernel
theorem dX1_tellDriven_16 : decode cX1_tellDriven 16 = .ok (.goto 4, 3) := by decide +kernel
theorem dX1_tellDriven_19 : decode cX1_tellDriven 19 = .ok (.iconst 0, 1) := by decide +kernel
theorem dX1_tellDriven_20 : decode cX1_tellDriven 20 = .ok (.istore_n 3, 1) := by decide +kernel
theorem dX1_tellDriven_21 : decode cX1_tellDriven 21 = .ok (.iload_n 3, 1) := by decide +kernel
theorem dX1_tellDriven_22 : decode cX1_tellDriven 22 = .ok (.ifCond .eq 10, 3) := by decide +kernel
theorem dX1_tellDriven_25 : decode cX1_tellDriven 25 = .ok (.aload_n 0, 1) := by decide +kernel
theorem dX1_tellDriven_26 : decode cX1_tellDriven 26 = .ok (.getfield 133, 3) := by decide +kernel
theorem dX1_tellDriven_29 : decode cX1_tellDriven 29 = .ok (.iload_n 1, 1) := by decide +kernel
theorem dX1_tellDriven_30 : decode cX1_tellDriven 30 = .ok (.iload_n 2, 1) := by decide +kernel
theorem dX1_tellDriven_31 : decode cX1_tellDriven 31 = .ok (.iastore, 1) := by decide +kernel
theorem dX1_tellDriven_32 : decode cX1_tellDriven 32 = .ok (.iload_n 3, 1) := by decide +kernel
theorem dX1_tellDriven_33 : decode cX1_tellDriven 33 = .ok (.ireturn, 1) := by decide +kernel
set_option maxRecDepth 20000 in
theorem ggX1_tellHours_X3_isWithin : GoodIn wsX1_tellHours wsX3_isWithin := goodIn_r _ [8] (by decide +kernel) (by decide +kernel)
set_option maxRecDepth 20000 in
theorem gX1_tellHours_X3_isWithin_n55 : GoodIn wsX1_tellHours (wsX3_isWithin) := ggX1_tellHours_X3_isWithin
set_option maxRecDepth 20000 in
theorem ggX1_tellHours_X0_passHours : GoodIn wsX1_tellHours wsX0_passHours := goodIn_r _ [13, 14, 15, 16, 17, 18, 12, 19, 20, 21, 22, 23, 24, 25, 26, 27, 28, 29, 30, 31, 32, 33, 34, 35, 36, 37, 38, 39, 40] (by decide +kernel) (by decide +kernel)
set_option maxRecDepth 20000 in
theorem gX1_tellHours_X0_passHours : GoodIn wsX1_tellHours (wsV RX1 145 RX0 yX0_passHours wsX0_passHours) := goodIn_app (goodIn_of _ (by decide +kernel)) ggX1_tellHours_X0_passHours
theorem dX1_tellHours_0 : decode cX1_tellHours 0 = .ok (.iload_n 1, 1) := by decide +kernel
theorem dX1_tellHours_1 : decode cX1_tellHours 1 = .ok (.iconst 1, 1) := by decide +kernel
theorem dX1_tellHours_2 : decode cX1_tellHours 2 = .ok (.bipush 60, 2) := by decide +kernel
theorem dX1_tellHours_4 : decode cX1_tellHours 4 = .ok (.sipush 999, 3) := by decide +kernel
theorem dX1_tellHours_7 : decode cX1_tellHours 7 = .ok (.aload_n 0, 1) := by decide +kernel
theorem dX1_tellHours_8 : decode cX1_tellHours 8 = .ok (.getfield 136, 3) := by decide +kernel
theorem dX1_tellHours_11 : decode cX1_tellHours 11 = .ok (.isub, 1) := by decide +kernel
theorem dX1_tellHours_12 : decode cX1_tellHours 12 = .ok (.invokestatic 139, 3) := by decide +kernel
theorem dX1_tellHours_15 : decode cX1_tellHours 15 = .ok (.invokestatic 55, 3) := by decide +kernel
theorem dX1_tellHours_18 : decode cX1_tellHours 18 = .ok (.istore_n 2, 1) := by decide +kernel
theorem dX1_tellHours_19 : decode cX1_tellHours 19 = .ok (.iload_n 2, 1) := by decide +kernel
theorem dX1_tellHours_20 : decode cX1_tellHours 20 = .ok (.ifCond .eq 8, 3) := by decide +kernel
theorem dX1_tellHours_23 : decode cX1_tellHours 23 = .ok (.aload_n 0, 1) := by decide +kernel
theorem dX1_tellHours_24 : decode cX1_tellHours 24 = .ok (.iload_n 1, 1) := by decide +kernel
theorem dX1_tellHours_25 : decode cX1_tellHours 25 = .ok (.invokevirtual 145, 3) := by decide +kernel
theorem dX1_tellHours_28 : decode cX1_tellHours 28 = .ok (.iload_n 2, 1) := by decide +kernel
theorem dX1_tellHours_29 : decode cX1_tellHours 29 = .ok (.ireturn, 1) := by decide +kernel
set_option maxRecDepth 20000 in
theorem ggX1_kindAt_J0_indexOf_0f7a4 : GoodIn wsX1_kindAt wsJ0_indexOf_0f7a4 := goodIn_r _ [7, 8, 9, 10, 6, 11, 12, 13, 14, 15, 16, 17, 18, 19, 20, 21, 22, 23, 24, 25, 26, 27, 28, 29, 30, 31, 32, 33, 34, 35, 36, 37, 38, 39, 40, 41, 42, 43, 44, 45, 46, 47, 48, 49, 50, 51, 52, 53, 54, 55, 56, 57, 58, 59, 60, 61, 62, 63, 64, 65, 66, 67, 68, 69, 70, 71, 72, 73, 74, 75, 76, 77, 78, 79, 80, 81, 82, 83, 84, 85, 86, 87, 88, 89, 90, 91] (by decide +kernel) (by decide +kernel)
set_option maxRecDepth 20000 in
theorem gX1_kindAt_J0_indexOf_0f7a4 : GoodIn wsX1_kindAt (wsV RX1 150 RJ0 yJ0_indexOf_0f7a4 wsJ0_indexOf_0f7a4) := goodIn_app (goodIn_of _ (by decide +kernel)) ggX1_kindAt_J0_indexOf_0f7a4
theorem dX1_kindAt_0 : decode cX1_kindAt 0 = .ok (.iload_n 1, 1) := by decide +kernel
theorem dX1_kindAt_1 : decode cX1_kindAt 1 = .ok (.aload_n 0, 1) := by decide +kernel
theorem dX1_kindAt_2 : decode cX1_kindAt 2 = .ok (.getfield 15, 3) := by decide +kernel
theorem dX1_kindAt_5 : decode cX1_kindAt 5 = .ok (.if_icmp .ge 18, 3) := by decide +kernel
theorem dX1_kindAt_8 : decode cX1_kindAt 8 = .ok (.ldc 148, 2) := by decide +kernel
theorem dX1_kindAt_10 : decode cX1_kindAt 10 = .ok (.aload_n 0, 1) := by decide +kernel
theorem dX1_kindAt_11 : decode cX1_kindAt 11 = .ok (.getfield 9, 3) := by decide +kernel
theorem dX1_kindAt_14 : decode cX1_kindAt 14 = .ok (.iload_n 1, 1) := by decide +kernel
theorem dX1_kindAt_15 : decode cX1_kindAt 15 = .ok (.iaload, 1) := by decide +kernel
theorem dX1_kindAt_16 : decode cX1_kindAt 16 = .ok (.i2c, 1) := by decide +kernel
theorem dX1_kindAt_17 : decode cX1_kindAt 17 = .ok (.invokevirtual 150, 3) := by decide +kernel
theorem dX1_kindAt_20 : decode cX1_kindAt 20 = .ok (.goto 4, 3) := by decide +kernel
theorem dX1_kindAt_23 : decode cX1_kindAt 23 = .ok (.iconst (-1), 1) := by decide +kernel
theorem dX1_kindAt_24 : decode cX1_kindAt 24 = .ok (.ireturn, 1) := by decide +kernel
theorem dX1_digitAt_0 : decode cX1_digitAt 0 = .ok (.iload_n 1, 1) := by decide +kernel
theorem dX1_digitAt_1 : decode cX1_digitAt 1 = .ok (.aload_n 0, 1) := by decide +kernel
theorem dX1_digitAt_2 : decode cX1_digitAt 2 = .ok (.getfield 15, 3) := by decide +kernel
theorem dX1_digitAt_5 : decode cX1_digitAt 5 = .ok (.if_icmp .ge 15, 3) := by decide +kernel
theorem dX1_digitAt_8 : decode cX1_digitAt 8 = .ok (.aload_n 0, 1) := by decide +kernel
theorem dX1_digitAt_9 : decode cX1_digitAt 9 = .ok (.getfield 9, 3) := by decide +kernel
theorem dX1_digitAt_12 : decode cX1_digitAt 12 = .ok (.iload_n 1, 1) := by decide +kernel
theorem dX1_digitAt_13 : decode cX1_digitAt 13 = .ok (.iaload, 1) := by decide +kernel
theorem dX1_digitAt_14 : decode cX1_digitAt 14 = .ok (.bipush 48, 2) := by decide +kernel
theorem dX1_digitAt_16 : decode cX1_digitAt 16 = .ok (.isub, 1) := by decide +kernel
theorem dX1_digitAt_17 : decode cX1_digitAt 17 = .ok (.goto 4, 3) := by decide +kernel
theorem dX1_digitAt_20 : decode cX1_digitAt 20 = .ok (.iconst 0, 1) := by decide +kernel
theorem dX1_digitAt_21 : decode cX1_digitAt 21 = .ok (.ireturn, 1) := by decide +kernel
set_option maxRecDepth 20000 in
theorem ggX1_twoDigitsAt_X1_digitAt : GoodIn wsX1_twoDigitsAt wsX1_digitAt := goodIn_r _ [5, 6, 7, 8, 9] (by decide +kernel) (by decide +kernel)
set_option maxRecDepth 20000 in
theorem gX1_twoDigitsAt_X1_digitAt : GoodIn wsX1_twoDigitsAt (wsV RX1 52 RX1 yX1_digitAt wsX1_digitAt) := goodIn_app (goodIn_of _ (by decide +kernel)) ggX1_twoDigitsAt_X1_digitAt
theorem dX1_twoDigitsAt_0 : decode cX1_twoDigitsAt 0 = .ok (.bipush 10, 2) := by decide +kernel
theorem dX1_twoDigitsAt_2 : decode cX1_twoDigitsAt 2 = .ok (.aload_n 0, 1) := by decide +kernel
theorem dX1_twoDigitsAt_3 : decode cX1_twoDigitsAt 3 = .ok (.iload_n 1, 1) := by decide +kernel
theorem dX1_twoDigitsAt_4 : decode cX1_twoDigitsAt 4 = .ok (.invokevirtual 52, 3) := by decide +kernel
theorem dX1_twoDigitsAt_7 : decode cX1_twoDigitsAt 7 = .ok (.imul, 1) := by decide +kernel
theorem dX1_twoDigitsAt_8 : decode cX1_twoDigitsAt 8 = .ok (.aload_n 0, 1) := by decide +kernel
theorem dX1_twoDigitsAt_9 : decode cX1_twoDigitsAt 9 = .ok (.iload_n 1, 1) := by decide +kernel
theorem dX1_twoDigitsAt_10 : decode cX1_twoDigitsAt 10 = .ok (.iconst 1, 1) := by decide +kernel
theorem dX1_twoDigitsAt_11 : decode cX1_twoDigitsAt 11 = .ok (.iadd, 1) := by decide +kernel
theorem dX1_twoDigitsAt_12 : decode cX1_twoDigitsAt 12 = .ok (.invokevirtual 52, 3) := by decide +kernel
theorem dX1_twoDigitsAt_15 : decode cX1_twoDigitsAt 15 = .ok (.iadd, 1) := by decide +kernel
theorem dX1_twoDigitsAt_16 : decode cX1_twoDigitsAt 16 = .ok (.ireturn, 1) := by decide +kernel
