theorem dX4_lots_96 : decode cX4_lots 96 = .ok (.invokevirtual 199, 3) := by decide +kernel
theorem dX4_lots_99 : decode cX4_lots 99 = .ok (.iastore, 1) := by decide +kernel
theorem dX4_lots_100 : decode cX4_lots 100 = .ok (.iinc 6 1, 3) := by decide +kernel
theorem dX4_lots_103 : decode cX4_lots 103 = .ok (.goto (-31), 3) := by decide +kernel
theorem dX4_lots_106 : decode cX4_lots 106 = .ok (.aload_n 0, 1) := by decide +kernel
theorem dX4_lots_107 : decode cX4_lots 107 = .ok (.bipush 10, 2) := by decide +kernel
theorem dX4_lots_109 : decode cX4_lots 109 = .ok (.invokevirtual 199, 3) := by decide +kernel
theorem dX4_lots_112 : decode cX4_lots 112 = .ok (.istore 6, 2) := by decide +kernel
theorem dX4_lots_114 : decode cX4_lots 114 = .ok (.iload 4, 2) := by decide +kernel
theorem dX4_lots_116 : decode cX4_lots 116 = .ok (.iload_n 3, 1) := by decide +kernel
theorem dX4_lots_117 : decode cX4_lots 117 = .ok (.iconst 1, 1) := by decide +kernel
theorem dX4_lots_118 : decode cX4_lots 118 = .ok (.if_icmp .ne 18, 3) := by decide +kernel
theorem dX4_lots_121 : decode cX4_lots 121 = .ok (.aload_n 0, 1) := by decide +kernel
theorem dX4_lots_122 : decode cX4_lots 122 = .ok (.getfield 13, 3) := by decide +kernel
theorem dX4_lots_125 : decode cX4_lots 125 = .ok (.iload 6, 2) := by decide +kernel
theorem dX4_lots_127 : decode cX4_lots 127 = .ok (.invokestatic 64, 3) := by decide +kernel
theorem dX4_lots_130 : decode cX4_lots 130 = .ok (.invokestatic 147, 3) := by decide +kernel
theorem dX4_lots_133 : decode cX4_lots 133 = .ok (.goto 21, 3) := by decide +kernel
theorem dX4_lots_136 : decode cX4_lots 136 = .ok (.aload_n 0, 1) := by decide +kernel
theorem dX4_lots_137 : decode cX4_lots 137 = .ok (.getfield 13, 3) := by decide +kernel
theorem dX4_lots_140 : decode cX4_lots 140 = .ok (.iload 6, 2) := by decide +kernel
theorem dX4_lots_142 : decode cX4_lots 142 = .ok (.invokestatic 70, 3) := by decide +kernel
theorem dX4_lots_145 : decode cX4_lots 145 = .ok (.iconst 1, 1) := by decide +kernel
theorem dX4_lots_146 : decode cX4_lots 146 = .ok (.if_icmp .ne 7, 3) := by decide +kernel
theorem dX4_lots_149 : decode cX4_lots 149 = .ok (.iconst 1, 1) := by decide +kernel
theorem dX4_lots_150 : decode cX4_lots 150 = .ok (.goto 4, 3) := by decide +kernel
theorem dX4_lots_153 : decode cX4_lots 153 = .ok (.iconst 0, 1) := by decide +kernel
theorem dX4_lots_154 : decode cX4_lots 154 = .ok (.iadd, 1) := by decide +kernel
theorem dX4_lots_155 : decode cX4_lots 155 = .ok (.istore 4, 2) := by decide +kernel
theorem dX4_lots_157 : decode cX4_lots 157 = .ok (.iinc 5 1, 3) := by decide +kernel
theorem dX4_lots_160 : decode cX4_lots 160 = .ok (.goto (-108), 3) := by decide +kernel
theorem dX4_lots_163 : decode cX4_lots 163 = .ok (.iload 4, 2) := by decide +kernel
theorem dX4_lots_165 : decode cX4_lots 165 = .ok (.ireturn, 1) := by decide +kernel
set_option maxRecDepth 20000 in
theorem ggX4_image_X4_copies : GoodIn wsX4_image wsX4_copies := goodIn_r _ [7] (by decide +kernel) (by decide +kernel)
set_option maxRecDepth 20000 in
theorem gX4_image_X4_copies : GoodIn wsX4_image (va_wsS RX4 118 yX4_copies wsX4_copies) := goodIn_app (goodIn_of _ (by decide +kernel)) ggX4_image_X4_copies
theorem dX4_image_0 : decode cX4_image 0 = .ok (.aload_n 0, 1) := by decide +kernel
theorem dX4_image_1 : decode cX4_image 1 = .ok (.getfield 9, 3) := by decide +kernel
theorem dX4_image_4 : decode cX4_image 4 = .ok (.aload_n 0, 1) := by decide +kernel
theorem dX4_image_5 : decode cX4_image 5 = .ok (.getfield 16, 3) := by decide +kernel
theorem dX4_image_8 : decode cX4_image 8 = .ok (.invokestatic 118, 3) := by decide +kernel
theorem dX4_image_11 : decode cX4_image 11 = .ok (.aload_n 0, 1) := by decide +kernel
theorem dX4_image_12 : decode cX4_image 12 = .ok (.iconst 1, 1) := by decide +kernel
theorem dX4_image_13 : decode cX4_image 13 = .ok (.putfield 202, 3) := by decide +kernel
theorem dX4_image_16 : decode cX4_image 16 = .ok (.aload_n 0, 1) := by decide +kernel
theorem dX4_image_17 : decode cX4_image 17 = .ok (.getfield 9, 3) := by decide +kernel
theorem dX4_image_20 : decode cX4_image 20 = .ok (.iconst 1, 1) := by decide +kernel
theorem dX4_image_21 : decode cX4_image 21 = .ok (.iaload, 1) := by decide +kernel
theorem dX4_image_22 : decode cX4_image 22 = .ok (.ireturn, 1) := by decide +kernel
set_option maxRecDepth 20000 in
theorem ggX4_on_X4_no : GoodIn wsX4_on wsX4_no := goodIn_r _ [8, 9, 13, 14, 15, 16, 17, 18, 19, 20, 21, 22, 23, 24, 25] (by decide +kernel) (by decide +kernel)
set_option maxRecDepth 20000 in
theorem gX4_on_X4_no : GoodIn wsX4_on (wsV RX4 36 RX4 yX4_no wsX4_no) := goodIn_app (goodIn_of _ (by decide +kernel)) ggX4_on_X4_no
set_option maxRecDepth 20000 in
theorem ggX4_on_X4_copies : GoodIn wsX4_on wsX4_copies := goodIn_r _ [12] (by decide +kernel) (by decide +kernel)
set_option maxRecDepth 20000 in
theorem gX4_on_X4_copies : GoodIn wsX4_on (va_wsS RX4 118 yX4_copies wsX4_copies) := goodIn_app (goodIn_of _ (by decide +kernel)) ggX4_on_X4_copies
theorem dX4_on_0 : decode cX4_on 0 = .ok (.aload_n 0, 1) := by decide +kernel
theorem dX4_on_1 : decode cX4_on 1 = .ok (.getfield 202, 3) := by decide +kernel
theorem dX4_on_4 : decode cX4_on 4 = .ok (.ifCond .ne 10, 3) := by decide +kernel
theorem dX4_on_7 : decode cX4_on 7 = .ok (.aload_n 0, 1) := by decide +kernel
theorem dX4_on_8 : decode cX4_on 8 = .ok (.bipush (-3), 2) := by decide +kernel
theorem dX4_on_10 : decode cX4_on 10 = .ok (.invokevirtual 36, 3) := by decide +kernel
theorem dX4_on_13 : decode cX4_on 13 = .ok (.ireturn, 1) := by decide +kernel
theorem dX4_on_14 : decode cX4_on 14 = .ok (.aload_n 0, 1) := by decide +kernel
theorem dX4_on_15 : decode cX4_on 15 = .ok (.getfield 16, 3) := by decide +kernel
theorem dX4_on_18 : decode cX4_on 18 = .ok (.aload_n 0, 1) := by decide +kernel
theorem dX4_on_19 : decode cX4_on 19 = .ok (.getfield 9, 3) := by decide +kernel
theorem dX4_on_22 : decode cX4_on 22 = .ok (.invokestatic 118, 3) := by decide +kernel
theorem dX4_on_25 : decode cX4_on 25 = .ok (.aload_n 0, 1) := by decide +kernel
theorem dX4_on_26 : decode cX4_on 26 = .ok (.getfield 9, 3) := by decide +kernel
theorem dX4_on_29 : decode cX4_on 29 = .ok (.iconst 1, 1) := by decide +kernel
theorem dX4_on_30 : decode cX4_on 30 = .ok (.iaload, 1) := by decide +kernel
theorem dX4_on_31 : decode cX4_on 31 = .ok (.ireturn, 1) := by decide +kernel
set_option maxRecDepth 20000 in
theorem ggX4_count_X4_isIn : GoodIn wsX4_count wsX4_isIn := goodIn_r _ [8] (by decide +kernel) (by decide +kernel)
set_option maxRecDepth 20000 in
theorem gX4_count_X4_isIn : GoodIn wsX4_count (va_wsS RX4 40 yX4_isIn wsX4_isIn) := goodIn_app (goodIn_of _ (by decide +kernel)) ggX4_count_X4_isIn
set_option maxRecDepth 20000 in
theorem ggX4_count_X4_allHeights : GoodIn wsX4_count wsX4_allHeights := goodIn_r _ [12, 2, 13, 14, 15, 16, 17, 18, 19, 20, 21, 22, 23, 24, 25] (by decide +kernel) (by decide +kernel)
set_option maxRecDepth 20000 in
theorem gX4_count_X4_allHeights : GoodIn wsX4_count (wsV RX4 185 RX4 yX4_allHeights wsX4_allHeights) := goodIn_app (goodIn_of _ (by decide +kernel)) ggX4_count_X4_allHeights
theorem dX4_count_0 : decode cX4_count 0 = .ok (.iload_n 1, 1) := by decide +kernel
theorem dX4_count_1 : decode cX4_count 1 = .ok (.bipush 11, 2) := by decide +kernel
theorem dX4_count_3 : decode cX4_count 3 = .ok (.bipush 16, 2) := by decide +kernel
theorem dX4_count_5 : decode cX4_count 5 = .ok (.invokestatic 40, 3) := by decide +kernel
theorem dX4_count_8 : decode cX4_count 8 = .ok (.ifCond .eq 13, 3) := by decide +kernel
theorem dX4_count_11 : decode cX4_count 11 = .ok (.aload_n 0, 1) := by decide +kernel
theorem dX4_count_12 : decode cX4_count 12 = .ok (.getfield 28, 3) := by decide +kernel
theorem dX4_count_15 : decode cX4_count 15 = .ok (.iload_n 1, 1) := by decide +kernel
theorem dX4_count_16 : decode cX4_count 16 = .ok (.bipush 10, 2) := by decide +kernel
theorem dX4_count_18 : decode cX4_count 18 = .ok (.isub, 1) := by decide +kernel
theorem dX4_count_19 : decode cX4_count 19 = .ok (.iaload, 1) := by decide +kernel
theorem dX4_count_20 : decode cX4_count 20 = .ok (.ireturn, 1) := by decide +kernel
theorem dX4_count_21 : decode cX4_count 21 = .ok (.iconst 0, 1) := by decide +kernel
theorem dX4_count_22 : decode cX4_count 22 = .ok (.istore_n 2, 1) := by decide +kernel
theorem dX4_count_23 : decode cX4_count 23 = .ok (.iload_n 1, 1) := by decide +kernel
theorem dX4_count_24 : decode cX4_count 24 = .ok (.tableswitch 98 0 7 #[48, 48, 48, 48, 55, 60, 88, 93], 48) := by decide +kernel
theorem dX4_count_72 : decode cX4_count 72 = .ok (.aload_n 0, 1) := by decide +kernel
theorem dX4_count_73 : decode cX4_count 73 = .ok (.getfield 9, 3) := by decide +kernel
theorem dX4_count_76 : decode cX4_count 76 = .ok (.iload_n 1, 1) := by decide +kernel
theorem dX4_count_77 : decode cX4_count 77 = .ok (.iaload, 1) := by decide +kernel
theorem dX4_count_78 : decode cX4_count 78 = .ok (.ireturn, 1) := by decide +kernel
theorem dX4_count_79 : decode cX4_count 79 = .ok (.aload_n 0, 1) := by decide +kernel
theorem dX4_count_80 : decode cX4_count 80 = .ok (.invokevirtual 185, 3) := by decide +kernel
theorem dX4_count_83 : decode cX4_count 83 = .ok (.ireturn, 1) := by decide +kernel
theorem dX4_count_84 : decode cX4_count 84 = .ok (.iconst 0, 1) := by decide +kernel
theorem dX4_count_85 : decode cX4_count 85 = .ok (.istore_n 3, 1) := by decide +kernel
theorem dX4_count_86 : decode cX4_count 86 = .ok (.iload_n 3, 1) := by decide +kernel
theorem dX4_count_87 : decode cX4_count 87 = .ok (.bipush 6, 2) := by decide +kernel
theorem dX4_count_89 : decode cX4_count 89 = .ok (.if_icmp .ge 21, 3) := by decide +kernel
theorem dX4_count_92 : decode cX4_count 92 = .ok (.iload_n 2, 1) := by decide +kernel
theorem dX4_count_93 : decode cX4_count 93 = .ok (.aload_n 0, 1) := by decide +kernel
theorem dX4_count_94 : decode cX4_count 94 = .ok (.getfield 9, 3) := by decide +kernel
theorem dX4_count_97 : decode cX4_count 97 = .ok (.bipush 26, 2) := by decide +kernel
theorem dX4_count_99 : decode cX4_count 99 = .ok (.iload_n 3, 1) := by decide +kernel
theorem dX4_count_100 : decode cX4_count 100 = .ok (.iadd, 1) := by decide +kernel
theorem dX4_count_101 : decode cX4_count 101 = .ok (.iaload, 1) := by decide +kernel
theorem dX4_count_102 : decode cX4_count 102 = .ok (.iadd, 1) := by decide +kernel
theorem dX4_count_103 : decode cX4_count 103 = .ok (.istore_n 2, 1) := by decide +kernel
theorem dX4_count_104 : decode cX4_count 104 = .ok (.iinc 3 1, 3) := by decide +kernel
theorem dX4_count_107 : decode cX4_count 107 = .ok (.goto (-21), 3) := by decide +kernel
theorem dX4_count_110 : decode cX4_count 110 = .ok (.iload_n 2, 1) := by decide +kernel
theorem dX4_count_111 : decode cX4_count 111 = .ok (.ireturn, 1) := by decide +kernel
theorem dX4_count_112 : decode cX4_count 112 = .ok (.aload_n 0, 1) := by decide +kernel
theorem dX4_count_113 : decode cX4_count 113 = .ok (.getfield 190, 3) := by decide +kernel
theorem dX4_count_116 : decode cX4_count 116 = .ok (.ireturn, 1) := by decide +kernel
theorem dX4_count_117 : decode cX4_count 117 = .ok (.aload_n 0, 1) := by decide +kernel
theorem dX4_count_118 : decode cX4_count 118 = .ok (.getfield 80, 3) := by decide +kernel
theorem dX4_count_121 : decode cX4_count 121 = .ok (.ireturn, 1) := by decide +kernel
theorem dX4_count_122 : decode cX4_count 122 = .ok (.bipush (-9), 2) := by decide +kernel
theorem dX4_count_124 : decode cX4_count 124 = .ok (.ireturn, 1) := by decide +kernel
