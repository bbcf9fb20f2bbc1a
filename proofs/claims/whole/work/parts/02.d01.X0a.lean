theorem dX0_init_0 : decode cX0_init 0 = .ok (.aload_n 0, 1) := by decide +kernel
theorem dX0_init_1 : decode cX0_init 1 = .ok (.invokespecial 3, 3) := by decide +kernel
theorem dX0_init_4 : decode cX0_init 4 = .ok (.aload_n 0, 1) := by decide +kernel
theorem dX0_init_5 : decode cX0_init 5 = .ok (.bipush 16, 2) := by decide +kernel
theorem dX0_init_7 : decode cX0_init 7 = .ok (.newarray .int, 2) := by decide +kernel
theorem dX0_init_9 : decode cX0_init 9 = .ok (.putfield 9, 3) := by decide +kernel
theorem dX0_init_12 : decode cX0_init 12 = .ok (.aload_n 0, 1) := by decide +kernel
theorem dX0_init_13 : decode cX0_init 13 = .ok (.bipush 16, 2) := by decide +kernel
theorem dX0_init_15 : decode cX0_init 15 = .ok (.newarray .int, 2) := by decide +kernel
theorem dX0_init_17 : decode cX0_init 17 = .ok (.putfield 15, 3) := by decide +kernel
theorem dX0_init_20 : decode cX0_init 20 = .ok (.aload_n 0, 1) := by decide +kernel
theorem dX0_init_21 : decode cX0_init 21 = .ok (.bipush 7, 2) := by decide +kernel
theorem dX0_init_23 : decode cX0_init 23 = .ok (.newarray .int, 2) := by decide +kernel
theorem dX0_init_25 : decode cX0_init 25 = .ok (.putfield 18, 3) := by decide +kernel
theorem dX0_init_28 : decode cX0_init 28 = .ok (.aload_n 0, 1) := by decide +kernel
theorem dX0_init_29 : decode cX0_init 29 = .ok (.bipush 7, 2) := by decide +kernel
theorem dX0_init_31 : decode cX0_init 31 = .ok (.newarray .int, 2) := by decide +kernel
theorem dX0_init_33 : decode cX0_init 33 = .ok (.putfield 21, 3) := by decide +kernel
theorem dX0_init_36 : decode cX0_init 36 = .ok (.aload_n 0, 1) := by decide +kernel
theorem dX0_init_37 : decode cX0_init 37 = .ok (.bipush 7, 2) := by decide +kernel
theorem dX0_init_39 : decode cX0_init 39 = .ok (.newarray .int, 2) := by decide +kernel
theorem dX0_init_41 : decode cX0_init 41 = .ok (.putfield 24, 3) := by decide +kernel
theorem dX0_init_44 : decode cX0_init 44 = .ok (.aload_n 0, 1) := by decide +kernel
theorem dX0_init_45 : decode cX0_init 45 = .ok (.bipush 6, 2) := by decide +kernel
theorem dX0_init_47 : decode cX0_init 47 = .ok (.newarray .int, 2) := by decide +kernel
theorem dX0_init_49 : decode cX0_init 49 = .ok (.putfield 27, 3) := by decide +kernel
theorem dX0_init_52 : decode cX0_init 52 = .ok (.aload_n 0, 1) := by decide +kernel
theorem dX0_init_53 : decode cX0_init 53 = .ok (.bipush 6, 2) := by decide +kernel
theorem dX0_init_55 : decode cX0_init 55 = .ok (.newarray .int, 2) := by decide +kernel
theorem dX0_init_57 : decode cX0_init 57 = .ok (.putfield 30, 3) := by decide +kernel
theorem dX0_init_60 : decode cX0_init 60 = .ok (.aload_n 0, 1) := by decide +kernel
theorem dX0_init_61 : decode cX0_init 61 = .ok (.bipush 16, 2) := by decide +kernel
theorem dX0_init_63 : decode cX0_init 63 = .ok (.putfield 33, 3) := by decide +kernel
theorem dX0_init_66 : decode cX0_init 66 = .ok (.aload_n 0, 1) := by decide +kernel
theorem dX0_init_67 : decode cX0_init 67 = .ok (.getfield 15, 3) := by decide +kernel
theorem dX0_init_70 : decode cX0_init 70 = .ok (.iconst 0, 1) := by decide +kernel
theorem dX0_init_71 : decode cX0_init 71 = .ok (.iconst (-1), 1) := by decide +kernel
theorem dX0_init_72 : decode cX0_init 72 = .ok (.iastore, 1) := by decide +kernel
theorem dX0_init_73 : decode cX0_init 73 = .ok (.return_, 1) := by decide +kernel
theorem dX0_copyFrom_0 : decode cX0_copyFrom 0 = .ok (.aload_n 1, 1) := by decide +kernel
theorem dX0_copyFrom_1 : decode cX0_copyFrom 1 = .ok (.getfield 9, 3) := by decide +kernel
theorem dX0_copyFrom_4 : decode cX0_copyFrom 4 = .ok (.iconst 0, 1) := by decide +kernel
theorem dX0_copyFrom_5 : decode cX0_copyFrom 5 = .ok (.aload_n 0, 1) := by decide +kernel
theorem dX0_copyFrom_6 : decode cX0_copyFrom 6 = .ok (.getfield 9, 3) := by decide +kernel
theorem dX0_copyFrom_9 : decode cX0_copyFrom 9 = .ok (.iconst 0, 1) := by decide +kernel
theorem dX0_copyFrom_10 : decode cX0_copyFrom 10 = .ok (.bipush 16, 2) := by decide +kernel
theorem dX0_copyFrom_12 : decode cX0_copyFrom 12 = .ok (.invokestatic 37, 3) := by decide +kernel
theorem dX0_copyFrom_15 : decode cX0_copyFrom 15 = .ok (.aload_n 1, 1) := by decide +kernel
theorem dX0_copyFrom_16 : decode cX0_copyFrom 16 = .ok (.getfield 15, 3) := by decide +kernel
theorem dX0_copyFrom_19 : decode cX0_copyFrom 19 = .ok (.iconst 0, 1) := by decide +kernel
theorem dX0_copyFrom_20 : decode cX0_copyFrom 20 = .ok (.aload_n 0, 1) := by decide +kernel
theorem dX0_copyFrom_21 : decode cX0_copyFrom 21 = .ok (.getfield 15, 3) := by decide +kernel
theorem dX0_copyFrom_24 : decode cX0_copyFrom 24 = .ok (.iconst 0, 1) := by decide +kernel
theorem dX0_copyFrom_25 : decode cX0_copyFrom 25 = .ok (.bipush 16, 2) := by decide +kernel
theorem dX0_copyFrom_27 : decode cX0_copyFrom 27 = .ok (.invokestatic 37, 3) := by decide +kernel
theorem dX0_copyFrom_30 : decode cX0_copyFrom 30 = .ok (.aload_n 1, 1) := by decide +kernel
theorem dX0_copyFrom_31 : decode cX0_copyFrom 31 = .ok (.getfield 18, 3) := by decide +kernel
theorem dX0_copyFrom_34 : decode cX0_copyFrom 34 = .ok (.iconst 0, 1) := by decide +kernel
theorem dX0_copyFrom_35 : decode cX0_copyFrom 35 = .ok (.aload_n 0, 1) := by decide +kernel
theorem dX0_copyFrom_36 : decode cX0_copyFrom 36 = .ok (.getfield 18, 3) := by decide +kernel
theorem dX0_copyFrom_39 : decode cX0_copyFrom 39 = .ok (.iconst 0, 1) := by decide +kernel
theorem dX0_copyFrom_40 : decode cX0_copyFrom 40 = .ok (.bipush 7, 2) := by decide +kernel
theorem dX0_copyFrom_42 : decode cX0_copyFrom 42 = .ok (.invokestatic 37, 3) := by decide +kernel
theorem dX0_copyFrom_45 : decode cX0_copyFrom 45 = .ok (.aload_n 1, 1) := by decide +kernel
theorem dX0_copyFrom_46 : decode cX0_copyFrom 46 = .ok (.getfield 21, 3) := by decide +kernel
theorem dX0_copyFrom_49 : decode cX0_copyFrom 49 = .ok (.iconst 0, 1) := by decide +kernel
theorem dX0_copyFrom_50 : decode cX0_copyFrom 50 = .ok (.aload_n 0, 1) := by decide +kernel
theorem dX0_copyFrom_51 : decode cX0_copyFrom 51 = .ok (.getfield 21, 3) := by decide +kernel
theorem dX0_copyFrom_54 : decode cX0_copyFrom 54 = .ok (.iconst 0, 1) := by decide +kernel
theorem dX0_copyFrom_55 : decode cX0_copyFrom 55 = .ok (.bipush 7, 2) := by decide +kernel
theorem dX0_copyFrom_57 : decode cX0_copyFrom 57 = .ok (.invokestatic 37, 3) := by decide +kernel
theorem dX0_copyFrom_60 : decode cX0_copyFrom 60 = .ok (.aload_n 1, 1) := by decide +kernel
theorem dX0_copyFrom_61 : decode cX0_copyFrom 61 = .ok (.getfield 24, 3) := by decide +kernel
theorem dX0_copyFrom_64 : decode cX0_copyFrom 64 = .ok (.iconst 0, 1) := by decide +kernel
theorem dX0_copyFrom_65 : decode cX0_copyFrom 65 = .ok (.aload_n 0, 1) := by decide +kernel
theorem dX0_copyFrom_66 : decode cX0_copyFrom 66 = .ok (.getfield 24, 3) := by decide +kernel
theorem dX0_copyFrom_69 : decode cX0_copyFrom 69 = .ok (.iconst 0, 1) := by decide +kernel
theorem dX0_copyFrom_70 : decode cX0_copyFrom 70 = .ok (.bipush 7, 2) := by decide +kernel
theorem dX0_copyFrom_72 : decode cX0_copyFrom 72 = .ok (.invokestatic 37, 3) := by decide +kernel
theorem dX0_copyFrom_75 : decode cX0_copyFrom 75 = .ok (.aload_n 1, 1) := by decide +kernel
theorem dX0_copyFrom_76 : decode cX0_copyFrom 76 = .ok (.getfield 27, 3) := by decide +kernel
theorem dX0_copyFrom_79 : decode cX0_copyFrom 79 = .ok (.iconst 0, 1) := by decide +kernel
theorem dX0_copyFrom_80 : decode cX0_copyFrom 80 = .ok (.aload_n 0, 1) := by decide +kernel
theorem dX0_copyFrom_81 : decode cX0_copyFrom 81 = .ok (.getfield 27, 3) := by decide +kernel
theorem dX0_copyFrom_84 : decode cX0_copyFrom 84 = .ok (.iconst 0, 1) := by decide +kernel
theorem dX0_copyFrom_85 : decode cX0_copyFrom 85 = .ok (.bipush 6, 2) := by decide +kernel
theorem dX0_copyFrom_87 : decode cX0_copyFrom 87 = .ok (.invokestatic 37, 3) := by decide +kernel
theorem dX0_copyFrom_90 : decode cX0_copyFrom 90 = .ok (.aload_n 1, 1) := by decide +kernel
theorem dX0_copyFrom_91 : decode cX0_copyFrom 91 = .ok (.getfield 30, 3) := by decide +kernel
theorem dX0_copyFrom_94 : decode cX0_copyFrom 94 = .ok (.iconst 0, 1) := by decide +kernel
theorem dX0_copyFrom_95 : decode cX0_copyFrom 95 = .ok (.aload_n 0, 1) := by decide +kernel
theorem dX0_copyFrom_96 : decode cX0_copyFrom 96 = .ok (.getfield 30, 3) := by decide +kernel
theorem dX0_copyFrom_99 : decode cX0_copyFrom 99 = .ok (.iconst 0, 1) := by decide +kernel
theorem dX0_copyFrom_100 : decode cX0_copyFrom 100 = .ok (.bipush 6, 2) := by decide +kernel
theorem dX0_copyFrom_102 : decode cX0_copyFrom 102 = .ok (.invokestatic 37, 3) := by decide +kernel
theorem dX0_copyFrom_105 : decode cX0_copyFrom 105 = .ok (.aload_n 0, 1) := by decide +kernel
theorem dX0_copyFrom_106 : decode cX0_copyFrom 106 = .ok (.aload_n 1, 1) := by decide +kernel
theorem dX0_copyFrom_107 : decode cX0_copyFrom 107 = .ok (.getfield 43, 3) := by decide +kernel
theorem dX0_copyFrom_110 : decode cX0_copyFrom 110 = .ok (.putfield 43, 3) := by decide +kernel
theorem dX0_copyFrom_113 : decode cX0_copyFrom 113 = .ok (.aload_n 0, 1) := by decide +kernel
theorem dX0_copyFrom_114 : decode cX0_copyFrom 114 = .ok (.aload_n 1, 1) := by decide +kernel
theorem dX0_copyFrom_115 : decode cX0_copyFrom 115 = .ok (.getfield 46, 3) := by decide +kernel
theorem dX0_copyFrom_118 : decode cX0_copyFrom 118 = .ok (.putfield 46, 3) := by decide +kernel
theorem dX0_copyFrom_121 : decode cX0_copyFrom 121 = .ok (.aload_n 0, 1) := by decide +kernel
theorem dX0_copyFrom_122 : decode cX0_copyFrom 122 = .ok (.aload_n 1, 1) := by decide +kernel
theorem dX0_copyFrom_123 : decode cX0_copyFrom 123 = .ok (.getfield 33, 3) := by decide +kernel
theorem dX0_copyFrom_126 : decode cX0_copyFrom 126 = .ok (.putfield 33, 3) := by decide +kernel
theorem dX0_copyFrom_129 : decode cX0_copyFrom 129 = .ok (.aload_n 0, 1) := by decide +kernel
theorem dX0_copyFrom_130 : decode cX0_copyFrom 130 = .ok (.aload_n 1, 1) := by decide +kernel
theorem dX0_copyFrom_131 : decode cX0_copyFrom 131 = .ok (.getfield 49, 3) := by decide +kernel
theorem dX0_copyFrom_134 : decode cX0_copyFrom 134 = .ok (.putfield 49, 3) := by decide +kernel
theorem dX0_copyFrom_137 : decode cX0_copyFrom 137 = .ok (.return_, 1) := by decide +kernel
set_option maxRecDepth 20000 in
theorem ggX0_hasThing_X3_isWithin : GoodIn wsX0_hasThing wsX3_isWithin := goodIn_r _ [4] (by decide +kernel) (by decide +kernel)
set_option maxRecDepth 20000 in
theorem gX0_hasThing_X3_isWithin_n52 : GoodIn wsX0_hasThing (wsX3_isWithin) := ggX0_hasThing_X3_isWithin
theorem dX0_hasThing_0 : decode cX0_hasThing 0 = .ok (.iload_n 1, 1) := by decide +kernel
theorem dX0_hasThing_1 : decode cX0_hasThing 1 = .ok (.iconst 0, 1) := by decide +kernel
theorem dX0_hasThing_2 : decode cX0_hasThing 2 = .ok (.aload_n 0, 1) := by decide +kernel
theorem dX0_hasThing_3 : decode cX0_hasThing 3 = .ok (.getfield 43, 3) := by decide +kernel
theorem dX0_hasThing_6 : decode cX0_hasThing 6 = .ok (.iconst 1, 1) := by decide +kernel
theorem dX0_hasThing_7 : decode cX0_hasThing 7 = .ok (.isub, 1) := by decide +kernel
theorem dX0_hasThing_8 : decode cX0_hasThing 8 = .ok (.invokestatic 52, 3) := by decide +kernel
theorem dX0_hasThing_11 : decode cX0_hasThing 11 = .ok (.ireturn, 1) := by decide +kernel
theorem dX0_isHidden_0 : decode cX0_isHidden 0 = .ok (.aload_n 0, 1) := by decide +kernel
theorem dX0_isHidden_1 : decode cX0_isHidden 1 = .ok (.getfield 46, 3) := by decide +kernel
theorem dX0_isHidden_4 : decode cX0_isHidden 4 = .ok (.iload_n 1, 1) := by decide +kernel
theorem dX0_isHidden_5 : decode cX0_isHidden 5 = .ok (.ishr, 1) := by decide +kernel
theorem dX0_isHidden_6 : decode cX0_isHidden 6 = .ok (.iconst 1, 1) := by decide +kernel
theorem dX0_isHidden_7 : decode cX0_isHidden 7 = .ok (.iand, 1) := by decide +kernel
theorem dX0_isHidden_8 : decode cX0_isHidden 8 = .ok (.iconst 1, 1) := by decide +kernel
theorem dX0_isHidden_9 : decode cX0_isHidden 9 = .ok (.if_icmp .ne 7, 3) := by decide +kernel
theorem dX0_isHidden_12 : decode cX0_isHidden 12 = .ok (.iconst 1, 1) := by decide +kernel
theorem dX0_isHidden_13 : decode cX0_isHidden 13 = .ok (.goto 4, 3) := by decide +kernel
theorem dX0_isHidden_16 : decode cX0_isHidden 16 = .ok (.iconst 0, 1) := by decide +kernel
theorem dX0_isHidden_17 : decode cX0_isHidden 17 = .ok (.ireturn, 1) := by decide +kernel
theorem dX0_turnHidden_0 : decode cX0_turnHidden 0 = .ok (.aload_n 0, 1) := by decide +kernel
theorem dX0_turnHidden_1 : decode cX0_turnHidden 1 = .ok (.dup, 1) := by decide +kernel
theorem dX0_turnHidden_2 : decode cX0_turnHidden 2 = .ok (.getfield 46, 3) := by decide +kernel
theorem dX0_turnHidden_5 : decode cX0_turnHidden 5 = .ok (.iconst 1, 1) := by decide +kernel
theorem dX0_turnHidden_6 : decode cX0_turnHidden 6 = .ok (.iload_n 1, 1) := by decide +kernel
theorem dX0_turnHidden_7 : decode cX0_turnHidden 7 = .ok (.ishl, 1) := by decide +kernel
theorem dX0_turnHidden_8 : decode cX0_turnHidden 8 = .ok (.ixor, 1) := by decide +kernel
theorem dX0_turnHidden_9 : decode cX0_turnHidden 9 = .ok (.putfield 46, 3) := by decide +kernel
theorem dX0_turnHidden_12 : decode cX0_turnHidden 12 = .ok (.return_, 1) := by decide +kernel
theorem dX0_setHeight_0 : decode cX0_setHeight 0 = .ok (.aload_n 0, 1) := by decide +kernel
theorem dX0_setHeight_1 : decode cX0_setHeight 1 = .ok (.getfield 9, 3) := by decide +kernel
theorem dX0_setHeight_4 : decode cX0_setHeight 4 = .ok (.iload_n 1, 1) := by decide +kernel
theorem dX0_setHeight_5 : decode cX0_setHeight 5 = .ok (.iload_n 2, 1) := by decide +kernel
theorem dX0_setHeight_6 : decode cX0_setHeight 6 = .ok (.iastore, 1) := by decide +kernel
theorem dX0_setHeight_7 : decode cX0_setHeight 7 = .ok (.iload_n 1, 1) := by decide +kernel
theorem dX0_setHeight_8 : decode cX0_setHeight 8 = .ok (.iconst 1, 1) := by decide +kernel
theorem dX0_setHeight_9 : decode cX0_setHeight 9 = .ok (.iadd, 1) := by decide +kernel
theorem dX0_setHeight_10 : decode cX0_setHeight 10 = .ok (.istore_n 3, 1) := by decide +kernel
theorem dX0_setHeight_11 : decode cX0_setHeight 11 = .ok (.iload_n 3, 1) := by decide +kernel
theorem dX0_setHeight_12 : decode cX0_setHeight 12 = .ok (.bipush 16, 2) := by decide +kernel
theorem dX0_setHeight_14 : decode cX0_setHeight 14 = .ok (.if_icmp .ge 34, 3) := by decide +kernel
theorem dX0_setHeight_17 : decode cX0_setHeight 17 = .ok (.aload_n 0, 1) := by decide +kernel
theorem dX0_setHeight_18 : decode cX0_setHeight 18 = .ok (.getfield 15, 3) := by decide +kernel
theorem dX0_setHeight_21 : decode cX0_setHeight 21 = .ok (.iload_n 3, 1) := by decide +kernel
theorem dX0_setHeight_22 : decode cX0_setHeight 22 = .ok (.aload_n 0, 1) := by decide +kernel
theorem dX0_setHeight_23 : decode cX0_setHeight 23 = .ok (.getfield 15, 3) := by decide +kernel
theorem dX0_setHeight_26 : decode cX0_setHeight 26 = .ok (.iload_n 3, 1) := by decide +kernel
theorem dX0_setHeight_27 : decode cX0_setHeight 27 = .ok (.iconst 1, 1) := by decide +kernel
theorem dX0_setHeight_28 : decode cX0_setHeight 28 = .ok (.isub, 1) := by decide +kernel
theorem dX0_setHeight_29 : decode cX0_setHeight 29 = .ok (.iaload, 1) := by decide +kernel
theorem dX0_setHeight_30 : decode cX0_setHeight 30 = .ok (.aload_n 0, 1) := by decide +kernel
theorem dX0_setHeight_31 : decode cX0_setHeight 31 = .ok (.getfield 9, 3) := by decide +kernel
theorem dX0_setHeight_34 : decode cX0_setHeight 34 = .ok (.iload_n 3, 1) := by decide +kernel
theorem dX0_setHeight_35 : decode cX0_setHeight 35 = .ok (.iconst 1, 1) := by decide +kernel
theorem dX0_setHeight_36 : decode cX0_setHeight 36 = .ok (.isub, 1) := by decide +kernel
theorem dX0_setHeight_37 : decode cX0_setHeight 37 = .ok (.iaload, 1) := by decide +kernel
theorem dX0_setHeight_38 : decode cX0_setHeight 38 = .ok (.invokestatic 56, 3) := by decide +kernel
theorem dX0_setHeight_41 : decode cX0_setHeight 41 = .ok (.iastore, 1) := by decide +kernel
theorem dX0_setHeight_42 : decode cX0_setHeight 42 = .ok (.iinc 3 1, 3) := by decide +kernel
theorem dX0_setHeight_45 : decode cX0_setHeight 45 = .ok (.goto (-34), 3) := by decide +kernel
theorem dX0_setHeight_48 : decode cX0_setHeight 48 = .ok (.return_, 1) := by decide +kernel
theorem dX0_addThing_0 : decode cX0_addThing 0 = .ok (.aload_n 0, 1) := by decide +kernel
theorem dX0_addThing_1 : decode cX0_addThing 1 = .ok (.getfield 18, 3) := by decide +kernel
theorem dX0_addThing_4 : decode cX0_addThing 4 = .ok (.aload_n 0, 1) := by decide +kernel
theorem dX0_addThing_5 : decode cX0_addThing 5 = .ok (.getfield 43, 3) := by decide +kernel
theorem dX0_addThing_8 : decode cX0_addThing 8 = .ok (.iload_n 1, 1) := by decide +kernel
theorem dX0_addThing_9 : decode cX0_addThing 9 = .ok (.iastore, 1) := by decide +kernel
theorem dX0_addThing_10 : decode cX0_addThing 10 = .ok (.aload_n 0, 1) := by decide +kernel
theorem dX0_addThing_11 : decode cX0_addThing 11 = .ok (.getfield 21, 3) := by decide +kernel
theorem dX0_addThing_14 : decode cX0_addThing 14 = .ok (.aload_n 0, 1) := by decide +kernel
theorem dX0_addThing_15 : decode cX0_addThing 15 = .ok (.getfield 43, 3) := by decide +kernel
theorem dX0_addThing_18 : decode cX0_addThing 18 = .ok (.iload_n 2, 1) := by decide +kernel
theorem dX0_addThing_19 : decode cX0_addThing 19 = .ok (.iastore, 1) := by decide +kernel
theorem dX0_addThing_20 : decode cX0_addThing 20 = .ok (.aload_n 0, 1) := by decide +kernel
theorem dX0_addThing_21 : decode cX0_addThing 21 = .ok (.getfield 24, 3) := by decide +kernel
theorem dX0_addThing_24 : decode cX0_addThing 24 = .ok (.aload_n 0, 1) := by decide +kernel
theorem dX0_addThing_25 : decode cX0_addThing 25 = .ok (.getfield 43, 3) := by decide +kernel
theorem dX0_addThing_28 : decode cX0_addThing 28 = .ok (.iload_n 3, 1) := by decide +kernel
theorem dX0_addThing_29 : decode cX0_addThing 29 = .ok (.iastore, 1) := by decide +kernel
theorem dX0_addThing_30 : decode cX0_addThing 30 = .ok (.aload_n 0, 1) := by decide +kernel
theorem dX0_addThing_31 : decode cX0_addThing 31 = .ok (.dup, 1) := by decide +kernel
theorem dX0_addThing_32 : decode cX0_addThing 32 = .ok (.getfield 43, 3) := by decide +kernel
theorem dX0_addThing_35 : decode cX0_addThing 35 = .ok (.iconst 1, 1) := by decide +kernel
theorem dX0_addThing_36 : decode cX0_addThing 36 = .ok (.iadd, 1) := by decide +kernel
theorem dX0_addThing_37 : decode cX0_addThing 37 = .ok (.putfield 43, 3) := by decide +kernel
theorem dX0_addThing_40 : decode cX0_addThing 40 = .ok (.return_, 1) := by decide +kernel
theorem dX0_decree_0 : decode cX0_decree 0 = .ok (.aload_n 0, 1) := by decide +kernel
theorem dX0_decree_1 : decode cX0_decree 1 = .ok (.getfield 27, 3) := by decide +kernel
theorem dX0_decree_4 : decode cX0_decree 4 = .ok (.iload_n 1, 1) := by decide +kernel
theorem dX0_decree_5 : decode cX0_decree 5 = .ok (.iload_n 2, 1) := by decide +kernel
theorem dX0_decree_6 : decode cX0_decree 6 = .ok (.iastore, 1) := by decide +kernel
theorem dX0_decree_7 : decode cX0_decree 7 = .ok (.aload_n 0, 1) := by decide +kernel
theorem dX0_decree_8 : decode cX0_decree 8 = .ok (.getfield 30, 3) := by decide +kernel
theorem dX0_decree_11 : decode cX0_decree 11 = .ok (.iload_n 1, 1) := by decide +kernel
theorem dX0_decree_12 : decode cX0_decree 12 = .ok (.iload_n 3, 1) := by decide +kernel
theorem dX0_decree_13 : decode cX0_decree 13 = .ok (.iastore, 1) := by decide +kernel
theorem dX0_decree_14 : decode cX0_decree 14 = .ok (.return_, 1) := by decide +kernel
set_option maxRecDepth 20000 in
theorem ggX0_passHours_X0_stepsOf : GoodIn wsX0_passHours wsX0_stepsOf := goodIn_r _ [7, 8, 9, 10, 11, 6, 12, 18, 19, 20, 21, 22, 23, 24, 25, 26, 27, 28] (by decide +kernel) (by decide +kernel)
set_option maxRecDepth 20000 in
theorem gX0_passHours_X0_stepsOf : GoodIn wsX0_passHours (wsV RX0 62 RX0 yX0_stepsOf wsX0_stepsOf) := goodIn_app (goodIn_of _ (by decide +kernel)) ggX0_passHours_X0_stepsOf
set_option maxRecDepth 20000 in
theorem ggX0_passHours_X0_goOn : GoodIn wsX0_passHours wsX0_goOn := goodIn_r _ [16, 17, 18, 19, 20, 21, 22, 23, 24, 25, 26, 27, 28] (by decide +kernel) (by decide +kernel)
set_option maxRecDepth 20000 in
theorem gX0_passHours_X0_goOn : GoodIn wsX0_passHours (wsV RX0 65 RX0 yX0_goOn wsX0_goOn) := goodIn_app (goodIn_of _ (by decide +kernel)) ggX0_passHours_X0_goOn
theorem dX0_passHours_0 : decode cX0_passHours 0 = .ok (.iconst 0, 1) := by decide +kernel
theorem dX0_passHours_1 : decode cX0_passHours 1 = .ok (.istore_n 2, 1) := by decide +kernel
theorem dX0_passHours_2 : decode cX0_passHours 2 = .ok (.iload_n 2, 1) := by decide +kernel
theorem dX0_passHours_3 : decode cX0_passHours 3 = .ok (.iload_n 1, 1) := by decide +kernel
theorem dX0_passHours_4 : decode cX0_passHours 4 = .ok (.if_icmp .ge 49, 3) := by decide +kernel
theorem dX0_passHours_7 : decode cX0_passHours 7 = .ok (.aload_n 0, 1) := by decide +kernel
theorem dX0_passHours_8 : decode cX0_passHours 8 = .ok (.dup, 1) := by decide +kernel
theorem dX0_passHours_9 : decode cX0_passHours 9 = .ok (.getfield 49, 3) := by decide +kernel
theorem dX0_passHours_12 : decode cX0_passHours 12 = .ok (.iconst 1, 1) := by decide +kernel
theorem dX0_passHours_13 : decode cX0_passHours 13 = .ok (.iadd, 1) := by decide +kernel
theorem dX0_passHours_14 : decode cX0_passHours 14 = .ok (.putfield 49, 3) := by decide +kernel
theorem dX0_passHours_17 : decode cX0_passHours 17 = .ok (.iconst 0, 1) := by decide +kernel
theorem dX0_passHours_18 : decode cX0_passHours 18 = .ok (.istore_n 3, 1) := by decide +kernel
theorem dX0_passHours_19 : decode cX0_passHours 19 = .ok (.iload_n 3, 1) := by decide +kernel
theorem dX0_passHours_20 : decode cX0_passHours 20 = .ok (.aload_n 0, 1) := by decide +kernel
theorem dX0_passHours_21 : decode cX0_passHours 21 = .ok (.getfield 43, 3) := by decide +kernel
theorem dX0_passHours_24 : decode cX0_passHours 24 = .ok (.if_icmp .ge 23, 3) := by decide +kernel
theorem dX0_passHours_27 : decode cX0_passHours 27 = .ok (.aload_n 0, 1) := by decide +kernel
theorem dX0_passHours_28 : decode cX0_passHours 28 = .ok (.iload_n 3, 1) := by decide +kernel
theorem dX0_passHours_29 : decode cX0_passHours 29 = .ok (.aload_n 0, 1) := by decide +kernel
theorem dX0_passHours_30 : decode cX0_passHours 30 = .ok (.iload_n 3, 1) := by decide +kernel
theorem dX0_passHours_31 : decode cX0_passHours 31 = .ok (.aload_n 0, 1) := by decide +kernel
theorem dX0_passHours_32 : decode cX0_passHours 32 = .ok (.getfield 49, 3) := by decide +kernel
theorem dX0_passHours_35 : decode cX0_passHours 35 = .ok (.invokevirtual 62, 3) := by decide +kernel
theorem dX0_passHours_38 : decode cX0_passHours 38 = .ok (.invokevirtual 65, 3) := by decide +kernel
theorem dX0_passHours_41 : decode cX0_passHours 41 = .ok (.iinc 3 1, 3) := by decide +kernel
theorem dX0_passHours_44 : decode cX0_passHours 44 = .ok (.goto (-25), 3) := by decide +kernel
theorem dX0_passHours_47 : decode cX0_passHours 47 = .ok (.iinc 2 1, 3) := by decide +kernel
theorem dX0_passHours_50 : decode cX0_passHours 50 = .ok (.goto (-48), 3) := by decide +kernel
theorem dX0_passHours_53 : decode cX0_passHours 53 = .ok (.return_, 1) := by decide +kernel
theorem dX0_goOn_0 : decode cX0_goOn 0 = .ok (.aload_n 0, 1) := by decide +kernel
theorem dX0_goOn_1 : decode cX0_goOn 1 = .ok (.getfield 24, 3) := by decide +kernel
theorem dX0_goOn_4 : decode cX0_goOn 4 = .ok (.iload_n 1, 1) := by decide +kernel
theorem dX0_goOn_5 : decode cX0_goOn 5 = .ok (.aload_n 0, 1) := by decide +kernel
theorem dX0_goOn_6 : decode cX0_goOn 6 = .ok (.getfield 24, 3) := by decide +kernel
theorem dX0_goOn_9 : decode cX0_goOn 9 = .ok (.iload_n 1, 1) := by decide +kernel
theorem dX0_goOn_10 : decode cX0_goOn 10 = .ok (.iaload, 1) := by decide +kernel
theorem dX0_goOn_11 : decode cX0_goOn 11 = .ok (.iload_n 2, 1) := by decide +kernel
theorem dX0_goOn_12 : decode cX0_goOn 12 = .ok (.iadd, 1) := by decide +kernel
theorem dX0_goOn_13 : decode cX0_goOn 13 = .ok (.bipush 16, 2) := by decide +kernel
theorem dX0_goOn_15 : decode cX0_goOn 15 = .ok (.irem, 1) := by decide +kernel
theorem dX0_goOn_16 : decode cX0_goOn 16 = .ok (.iastore, 1) := by decide +kernel
theorem dX0_goOn_17 : decode cX0_goOn 17 = .ok (.return_, 1) := by decide +kernel
set_option maxRecDepth 20000 in
theorem ggX0_stepsOf_X0_divides : GoodIn wsX0_stepsOf wsX0_divides := goodIn_r _ [6] (by decide +kernel) (by decide +kernel)
set_option maxRecDepth 20000 in
theorem gX0_stepsOf_X0_divides : GoodIn wsX0_stepsOf (va_wsS RX0 69 yX0_divides wsX0_divides) := goodIn_app (goodIn_of _ (by decide +kernel)) ggX0_stepsOf_X0_divides
theorem dX0_stepsOf_0 : decode cX0_stepsOf 0 = .ok (.aload_n 0, 1) := by decide +kernel
theorem dX0_stepsOf_1 : decode cX0_stepsOf 1 = .ok (.getfield 18, 3) := by decide +kernel
theorem dX0_stepsOf_4 : decode cX0_stepsOf 4 = .ok (.iload_n 1, 1) := by decide +kernel
theorem dX0_stepsOf_5 : decode cX0_stepsOf 5 = .ok (.iaload, 1) := by decide +kernel
theorem dX0_stepsOf_6 : decode cX0_stepsOf 6 = .ok (.tableswitch 51 2 4 #[26, 28, 49], 26) := by decide +kernel
theorem dX0_stepsOf_32 : decode cX0_stepsOf 32 = .ok (.iconst 1, 1) := by decide +kernel
theorem dX0_stepsOf_33 : decode cX0_stepsOf 33 = .ok (.ireturn, 1) := by decide +kernel
theorem dX0_stepsOf_34 : decode cX0_stepsOf 34 = .ok (.aload_n 0, 1) := by decide +kernel
theorem dX0_stepsOf_35 : decode cX0_stepsOf 35 = .ok (.getfield 21, 3) := by decide +kernel
theorem dX0_stepsOf_38 : decode cX0_stepsOf 38 = .ok (.iload_n 1, 1) := by decide +kernel
theorem dX0_stepsOf_39 : decode cX0_stepsOf 39 = .ok (.iaload, 1) := by decide +kernel
theorem dX0_stepsOf_40 : decode cX0_stepsOf 40 = .ok (.iconst 2, 1) := by decide +kernel
theorem dX0_stepsOf_41 : decode cX0_stepsOf 41 = .ok (.iadd, 1) := by decide +kernel
theorem dX0_stepsOf_42 : decode cX0_stepsOf 42 = .ok (.iload_n 2, 1) := by decide +kernel
theorem dX0_stepsOf_43 : decode cX0_stepsOf 43 = .ok (.invokestatic 69, 3) := by decide +kernel
theorem dX0_stepsOf_46 : decode cX0_stepsOf 46 = .ok (.ifCond .eq 7, 3) := by decide +kernel
theorem dX0_stepsOf_49 : decode cX0_stepsOf 49 = .ok (.iconst 1, 1) := by decide +kernel
theorem dX0_stepsOf_50 : decode cX0_stepsOf 50 = .ok (.goto 4, 3) := by decide +kernel
theorem dX0_stepsOf_53 : decode cX0_stepsOf 53 = .ok (.iconst 0, 1) := by decide +kernel
theorem dX0_stepsOf_54 : decode cX0_stepsOf 54 = .ok (.ireturn, 1) := by decide +kernel
theorem dX0_stepsOf_55 : decode cX0_stepsOf 55 = .ok (.iconst 2, 1) := by decide +kernel
theorem dX0_stepsOf_56 : decode cX0_stepsOf 56 = .ok (.ireturn, 1) := by decide +kernel
theorem dX0_stepsOf_57 : decode cX0_stepsOf 57 = .ok (.iconst 0, 1) := by decide +kernel
theorem dX0_stepsOf_58 : decode cX0_stepsOf 58 = .ok (.ireturn, 1) := by decide +kernel
theorem dX0_riseOf_0 : decode cX0_riseOf 0 = .ok (.aload_n 0, 1) := by decide +kernel
theorem dX0_riseOf_1 : decode cX0_riseOf 1 = .ok (.getfield 18, 3) := by decide +kernel
theorem dX0_riseOf_4 : decode cX0_riseOf 4 = .ok (.iload_n 1, 1) := by decide +kernel
theorem dX0_riseOf_5 : decode cX0_riseOf 5 = .ok (.iaload, 1) := by decide +kernel
theorem dX0_riseOf_6 : decode cX0_riseOf 6 = .ok (.tableswitch 79 0 5 #[38, 45, 59, 59, 61, 64], 38) := by decide +kernel
theorem dX0_riseOf_44 : decode cX0_riseOf 44 = .ok (.aload_n 0, 1) := by decide +kernel
theorem dX0_riseOf_45 : decode cX0_riseOf 45 = .ok (.getfield 21, 3) := by decide +kernel
theorem dX0_riseOf_48 : decode cX0_riseOf 48 = .ok (.iload_n 1, 1) := by decide +kernel
theorem dX0_riseOf_49 : decode cX0_riseOf 49 = .ok (.iaload, 1) := by decide +kernel
theorem dX0_riseOf_50 : decode cX0_riseOf 50 = .ok (.ireturn, 1) := by decide +kernel
theorem dX0_riseOf_51 : decode cX0_riseOf 51 = .ok (.aload_n 0, 1) := by decide +kernel
theorem dX0_riseOf_52 : decode cX0_riseOf 52 = .ok (.getfield 21, 3) := by decide +kernel
theorem dX0_riseOf_55 : decode cX0_riseOf 55 = .ok (.iload_n 1, 1) := by decide +kernel
theorem dX0_riseOf_56 : decode cX0_riseOf 56 = .ok (.iaload, 1) := by decide +kernel
theorem dX0_riseOf_57 : decode cX0_riseOf 57 = .ok (.aload_n 0, 1) := by decide +kernel
theorem dX0_riseOf_58 : decode cX0_riseOf 58 = .ok (.getfield 49, 3) := by decide +kernel
theorem dX0_riseOf_61 : decode cX0_riseOf 61 = .ok (.iconst 2, 1) := by decide +kernel
theorem dX0_riseOf_62 : decode cX0_riseOf 62 = .ok (.irem, 1) := by decide +kernel
theorem dX0_riseOf_63 : decode cX0_riseOf 63 = .ok (.iadd, 1) := by decide +kernel
theorem dX0_riseOf_64 : decode cX0_riseOf 64 = .ok (.ireturn, 1) := by decide +kernel
theorem dX0_riseOf_65 : decode cX0_riseOf 65 = .ok (.iconst 1, 1) := by decide +kernel
theorem dX0_riseOf_66 : decode cX0_riseOf 66 = .ok (.ireturn, 1) := by decide +kernel
theorem dX0_riseOf_67 : decode cX0_riseOf 67 = .ok (.bipush 6, 2) := by decide +kernel
theorem dX0_riseOf_69 : decode cX0_riseOf 69 = .ok (.ireturn, 1) := by decide +kernel
theorem dX0_riseOf_70 : decode cX0_riseOf 70 = .ok (.aload_n 0, 1) := by decide +kernel
theorem dX0_riseOf_71 : decode cX0_riseOf 71 = .ok (.getfield 49, 3) := by decide +kernel
theorem dX0_riseOf_74 : decode cX0_riseOf 74 = .ok (.iconst 2, 1) := by decide +kernel
theorem dX0_riseOf_75 : decode cX0_riseOf 75 = .ok (.irem, 1) := by decide +kernel
theorem dX0_riseOf_76 : decode cX0_riseOf 76 = .ok (.ifCond .ne 7, 3) := by decide +kernel
theorem dX0_riseOf_79 : decode cX0_riseOf 79 = .ok (.iconst 2, 1) := by decide +kernel
theorem dX0_riseOf_80 : decode cX0_riseOf 80 = .ok (.goto 4, 3) := by decide +kernel
theorem dX0_riseOf_83 : decode cX0_riseOf 83 = .ok (.iconst 0, 1) := by decide +kernel
theorem dX0_riseOf_84 : decode cX0_riseOf 84 = .ok (.ireturn, 1) := by decide +kernel
theorem dX0_riseOf_85 : decode cX0_riseOf 85 = .ok (.iconst 0, 1) := by decide +kernel
theorem dX0_riseOf_86 : decode cX0_riseOf 86 = .ok (.ireturn, 1) := by decide +kernel
set_option maxRecDepth 20000 in
theorem ggX0_topOf_X0_riseOf : GoodIn wsX0_topOf wsX0_riseOf := goodIn_r _ [7, 8, 9, 10, 11, 12, 13, 14, 15, 16, 17, 18, 19, 20, 21] (by decide +kernel) (by decide +kernel)
set_option maxRecDepth 20000 in
theorem gX0_topOf_X0_riseOf : GoodIn wsX0_topOf (wsV RX0 73 RX0 yX0_riseOf wsX0_riseOf) := goodIn_app (goodIn_of _ (by decide +kernel)) ggX0_topOf_X0_riseOf
theorem dX0_topOf_0 : decode cX0_topOf 0 = .ok (.aload_n 0, 1) := by decide +kernel
theorem dX0_topOf_1 : decode cX0_topOf 1 = .ok (.getfield 9, 3) := by decide +kernel
theorem dX0_topOf_4 : decode cX0_topOf 4 = .ok (.aload_n 0, 1) := by decide +kernel
theorem dX0_topOf_5 : decode cX0_topOf 5 = .ok (.getfield 24, 3) := by decide +kernel
theorem dX0_topOf_8 : decode cX0_topOf 8 = .ok (.iload_n 1, 1) := by decide +kernel
theorem dX0_topOf_9 : decode cX0_topOf 9 = .ok (.iaload, 1) := by decide +kernel
theorem dX0_topOf_10 : decode cX0_topOf 10 = .ok (.iaload, 1) := by decide +kernel
theorem dX0_topOf_11 : decode cX0_topOf 11 = .ok (.aload_n 0, 1) := by decide +kernel
theorem dX0_topOf_12 : decode cX0_topOf 12 = .ok (.iload_n 1, 1) := by decide +kernel
theorem dX0_topOf_13 : decode cX0_topOf 13 = .ok (.invokevirtual 73, 3) := by decide +kernel
theorem dX0_topOf_16 : decode cX0_topOf 16 = .ok (.iadd, 1) := by decide +kernel
theorem dX0_topOf_17 : decode cX0_topOf 17 = .ok (.ireturn, 1) := by decide +kernel
theorem dX0_isInSight_0 : decode cX0_isInSight 0 = .ok (.iload_n 1, 1) := by decide +kernel
theorem dX0_isInSight_1 : decode cX0_isInSight 1 = .ok (.iconst 1, 1) := by decide +kernel
theorem dX0_isInSight_2 : decode cX0_isInSight 2 = .ok (.iadd, 1) := by decide +kernel
theorem dX0_isInSight_3 : decode cX0_isInSight 3 = .ok (.aload_n 0, 1) := by decide +kernel
theorem dX0_isInSight_4 : decode cX0_isInSight 4 = .ok (.getfield 33, 3) := by decide +kernel
theorem dX0_isInSight_7 : decode cX0_isInSight 7 = .ok (.if_icmp .gt 25, 3) := by decide +kernel
theorem dX0_isInSight_10 : decode cX0_isInSight 10 = .ok (.iload_n 2, 1) := by decide +kernel
theorem dX0_isInSight_11 : decode cX0_isInSight 11 = .ok (.ifCond .le 21, 3) := by decide +kernel
theorem dX0_isInSight_14 : decode cX0_isInSight 14 = .ok (.aload_n 0, 1) := by decide +kernel
theorem dX0_isInSight_15 : decode cX0_isInSight 15 = .ok (.getfield 15, 3) := by decide +kernel
theorem dX0_isInSight_18 : decode cX0_isInSight 18 = .ok (.iload_n 1, 1) := by decide +kernel
theorem dX0_isInSight_19 : decode cX0_isInSight 19 = .ok (.iaload, 1) := by decide +kernel
theorem dX0_isInSight_20 : decode cX0_isInSight 20 = .ok (.iload_n 3, 1) := by decide +kernel
theorem dX0_isInSight_21 : decode cX0_isInSight 21 = .ok (.iload_n 2, 1) := by decide +kernel
theorem dX0_isInSight_22 : decode cX0_isInSight 22 = .ok (.invokestatic 56, 3) := by decide +kernel
theorem dX0_isInSight_25 : decode cX0_isInSight 25 = .ok (.if_icmp .ge 7, 3) := by decide +kernel
theorem dX0_isInSight_28 : decode cX0_isInSight 28 = .ok (.iconst 1, 1) := by decide +kernel
theorem dX0_isInSight_29 : decode cX0_isInSight 29 = .ok (.goto 4, 3) := by decide +kernel
theorem dX0_isInSight_32 : decode cX0_isInSight 32 = .ok (.iconst 0, 1) := by decide +kernel
theorem dX0_isInSight_33 : decode cX0_isInSight 33 = .ok (.ireturn, 1) := by decide +kernel
set_option maxRecDepth 20000 in
theorem ggX0_isSeen_X0_isHidden : GoodIn wsX0_isSeen wsX0_isHidden := goodIn_r _ [6, 7, 30, 31, 32, 33, 34, 35, 36, 37, 38, 39, 40] (by decide +kernel) (by decide +kernel)
set_option maxRecDepth 20000 in
theorem gX0_isSeen_X0_isHidden : GoodIn wsX0_isSeen (wsV RX0 77 RX0 yX0_isHidden wsX0_isHidden) := goodIn_app (goodIn_of _ (by decide +kernel)) ggX0_isSeen_X0_isHidden
set_option maxRecDepth 20000 in
theorem ggX0_isSeen_X0_topOf : GoodIn wsX0_isSeen wsX0_topOf := goodIn_r _ [11, 12, 1, 13, 14, 15, 5, 16, 17, 18, 19, 30, 31, 32, 33, 34, 35, 36, 37, 38, 39, 40] (by decide +kernel) (by decide +kernel)
set_option maxRecDepth 20000 in
theorem gX0_isSeen_X0_topOf : GoodIn wsX0_isSeen (wsV RX0 81 RX0 yX0_topOf wsX0_topOf) := goodIn_app (goodIn_of _ (by decide +kernel)) ggX0_isSeen_X0_topOf
set_option maxRecDepth 20000 in
theorem ggX0_isSeen_X0_isInSight : GoodIn wsX0_isSeen wsX0_isInSight := goodIn_r _ [23, 24, 25, 26, 27, 28, 29, 30, 31, 32, 33, 34, 35, 36, 37, 38, 39, 40] (by decide +kernel) (by decide +kernel)
set_option maxRecDepth 20000 in
theorem gX0_isSeen_X0_isInSight : GoodIn wsX0_isSeen (wsV RX0 84 RX0 yX0_isInSight wsX0_isInSight) := goodIn_app (goodIn_of _ (by decide +kernel)) ggX0_isSeen_X0_isInSight
theorem dX0_isSeen_0 : decode cX0_isSeen 0 = .ok (.aload_n 0, 1) := by decide +kernel
theorem dX0_isSeen_1 : decode cX0_isSeen 1 = .ok (.iload_n 1, 1) := by decide +kernel
theorem dX0_isSeen_2 : decode cX0_isSeen 2 = .ok (.invokevirtual 77, 3) := by decide +kernel
theorem dX0_isSeen_5 : decode cX0_isSeen 5 = .ok (.ifCond .ne 26, 3) := by decide +kernel
theorem dX0_isSeen_8 : decode cX0_isSeen 8 = .ok (.aload_n 0, 1) := by decide +kernel
theorem dX0_isSeen_9 : decode cX0_isSeen 9 = .ok (.aload_n 0, 1) := by decide +kernel
theorem dX0_isSeen_10 : decode cX0_isSeen 10 = .ok (.getfield 24, 3) := by decide +kernel
theorem dX0_isSeen_13 : decode cX0_isSeen 13 = .ok (.iload_n 1, 1) := by decide +kernel
theorem dX0_isSeen_14 : decode cX0_isSeen 14 = .ok (.iaload, 1) := by decide +kernel
theorem dX0_isSeen_15 : decode cX0_isSeen 15 = .ok (.aload_n 0, 1) := by decide +kernel
theorem dX0_isSeen_16 : decode cX0_isSeen 16 = .ok (.iload_n 1, 1) := by decide +kernel
theorem dX0_isSeen_17 : decode cX0_isSeen 17 = .ok (.invokevirtual 81, 3) := by decide +kernel
theorem dX0_isSeen_20 : decode cX0_isSeen 20 = .ok (.iload_n 2, 1) := by decide +kernel
theorem dX0_isSeen_21 : decode cX0_isSeen 21 = .ok (.invokevirtual 84, 3) := by decide +kernel
theorem dX0_isSeen_24 : decode cX0_isSeen 24 = .ok (.ifCond .eq 7, 3) := by decide +kernel
theorem dX0_isSeen_27 : decode cX0_isSeen 27 = .ok (.iconst 1, 1) := by decide +kernel
theorem dX0_isSeen_28 : decode cX0_isSeen 28 = .ok (.goto 4, 3) := by decide +kernel
theorem dX0_isSeen_31 : decode cX0_isSeen 31 = .ok (.iconst 0, 1) := by decide +kernel
theorem dX0_isSeen_32 : decode cX0_isSeen 32 = .ok (.ireturn, 1) := by decide +kernel
set_option maxRecDepth 20000 in
theorem ggX0_sightFrom_X0_isSeen : GoodIn wsX0_sightFrom wsX0_isSeen := goodIn_r _ [6, 7, 8, 9, 10, 5, 11, 12, 13, 14, 15, 16, 17, 18, 19, 20, 21, 22, 23, 24, 25, 26, 27, 28, 29, 30, 31, 32, 33, 34, 35, 36, 37, 38, 39, 40, 41, 42, 43, 44, 45] (by decide +kernel) (by decide +kernel)
set_option maxRecDepth 20000 in
theorem gX0_sightFrom_X0_isSeen : GoodIn wsX0_sightFrom (wsV RX0 87 RX0 yX0_isSeen wsX0_isSeen) := goodIn_app (goodIn_of _ (by decide +kernel)) ggX0_sightFrom_X0_isSeen
theorem dX0_sightFrom_0 : decode cX0_sightFrom 0 = .ok (.iconst 0, 1) := by decide +kernel
theorem dX0_sightFrom_1 : decode cX0_sightFrom 1 = .ok (.istore_n 2, 1) := by decide +kernel
theorem dX0_sightFrom_2 : decode cX0_sightFrom 2 = .ok (.iconst 0, 1) := by decide +kernel
theorem dX0_sightFrom_3 : decode cX0_sightFrom 3 = .ok (.istore_n 3, 1) := by decide +kernel
theorem dX0_sightFrom_4 : decode cX0_sightFrom 4 = .ok (.iload_n 3, 1) := by decide +kernel
theorem dX0_sightFrom_5 : decode cX0_sightFrom 5 = .ok (.aload_n 0, 1) := by decide +kernel
theorem dX0_sightFrom_6 : decode cX0_sightFrom 6 = .ok (.getfield 43, 3) := by decide +kernel
theorem dX0_sightFrom_9 : decode cX0_sightFrom 9 = .ok (.if_icmp .ge 24, 3) := by decide +kernel
theorem dX0_sightFrom_12 : decode cX0_sightFrom 12 = .ok (.aload_n 0, 1) := by decide +kernel
theorem dX0_sightFrom_13 : decode cX0_sightFrom 13 = .ok (.iload_n 3, 1) := by decide +kernel
theorem dX0_sightFrom_14 : decode cX0_sightFrom 14 = .ok (.iload_n 1, 1) := by decide +kernel
theorem dX0_sightFrom_15 : decode cX0_sightFrom 15 = .ok (.invokevirtual 87, 3) := by decide +kernel
theorem dX0_sightFrom_18 : decode cX0_sightFrom 18 = .ok (.ifCond .eq 9, 3) := by decide +kernel
theorem dX0_sightFrom_21 : decode cX0_sightFrom 21 = .ok (.iload_n 2, 1) := by decide +kernel
theorem dX0_sightFrom_22 : decode cX0_sightFrom 22 = .ok (.iconst 1, 1) := by decide +kernel
theorem dX0_sightFrom_23 : decode cX0_sightFrom 23 = .ok (.iload_n 3, 1) := by decide +kernel
theorem dX0_sightFrom_24 : decode cX0_sightFrom 24 = .ok (.ishl, 1) := by decide +kernel
theorem dX0_sightFrom_25 : decode cX0_sightFrom 25 = .ok (.ior, 1) := by decide +kernel
theorem dX0_sightFrom_26 : decode cX0_sightFrom 26 = .ok (.istore_n 2, 1) := by decide +kernel
theorem dX0_sightFrom_27 : decode cX0_sightFrom 27 = .ok (.iinc 3 1, 3) := by decide +kernel
theorem dX0_sightFrom_30 : decode cX0_sightFrom 30 = .ok (.goto (-26), 3) := by decide +kernel
theorem dX0_sightFrom_33 : decode cX0_sightFrom 33 = .ok (.iload_n 2, 1) := by decide +kernel
theorem dX0_sightFrom_34 : decode cX0_sightFrom 34 = .ok (.ireturn, 1) := by decide +kernel
theorem dX0_deciderIn_0 : decode cX0_deciderIn 0 = .ok (.bipush (-9), 2) := by decide +kernel
theorem dX0_deciderIn_2 : decode cX0_deciderIn 2 = .ok (.istore_n 2, 1) := by decide +kernel
theorem dX0_deciderIn_3 : decode cX0_deciderIn 3 = .ok (.iconst (-1), 1) := by decide +kernel
theorem dX0_deciderIn_4 : decode cX0_deciderIn 4 = .ok (.istore_n 3, 1) := by decide +kernel
theorem dX0_deciderIn_5 : decode cX0_deciderIn 5 = .ok (.iconst 0, 1) := by decide +kernel
theorem dX0_deciderIn_6 : decode cX0_deciderIn 6 = .ok (.istore 4, 2) := by decide +kernel
theorem dX0_deciderIn_8 : decode cX0_deciderIn 8 = .ok (.iload 4, 2) := by decide +kernel
theorem dX0_deciderIn_10 : decode cX0_deciderIn 10 = .ok (.aload_n 0, 1) := by decide +kernel
theorem dX0_deciderIn_11 : decode cX0_deciderIn 11 = .ok (.getfield 43, 3) := by decide +kernel
theorem dX0_deciderIn_14 : decode cX0_deciderIn 14 = .ok (.if_icmp .ge 78, 3) := by decide +kernel
theorem dX0_deciderIn_17 : decode cX0_deciderIn 17 = .ok (.iload_n 1, 1) := by decide +kernel
theorem dX0_deciderIn_18 : decode cX0_deciderIn 18 = .ok (.iload 4, 2) := by decide +kernel
theorem dX0_deciderIn_20 : decode cX0_deciderIn 20 = .ok (.ishr, 1) := by decide +kernel
theorem dX0_deciderIn_21 : decode cX0_deciderIn 21 = .ok (.iconst 1, 1) := by decide +kernel
theorem dX0_deciderIn_22 : decode cX0_deciderIn 22 = .ok (.iand, 1) := by decide +kernel
theorem dX0_deciderIn_23 : decode cX0_deciderIn 23 = .ok (.iconst 1, 1) := by decide +kernel
theorem dX0_deciderIn_24 : decode cX0_deciderIn 24 = .ok (.if_icmp .ne 22, 3) := by decide +kernel
theorem dX0_deciderIn_27 : decode cX0_deciderIn 27 = .ok (.aload_n 0, 1) := by decide +kernel
theorem dX0_deciderIn_28 : decode cX0_deciderIn 28 = .ok (.getfield 27, 3) := by decide +kernel
theorem dX0_deciderIn_31 : decode cX0_deciderIn 31 = .ok (.aload_n 0, 1) := by decide +kernel
theorem dX0_deciderIn_32 : decode cX0_deciderIn 32 = .ok (.getfield 18, 3) := by decide +kernel
theorem dX0_deciderIn_35 : decode cX0_deciderIn 35 = .ok (.iload 4, 2) := by decide +kernel
theorem dX0_deciderIn_37 : decode cX0_deciderIn 37 = .ok (.iaload, 1) := by decide +kernel
theorem dX0_deciderIn_38 : decode cX0_deciderIn 38 = .ok (.iaload, 1) := by decide +kernel
theorem dX0_deciderIn_39 : decode cX0_deciderIn 39 = .ok (.ifCond .eq 7, 3) := by decide +kernel
theorem dX0_deciderIn_42 : decode cX0_deciderIn 42 = .ok (.iconst 1, 1) := by decide +kernel
theorem dX0_deciderIn_43 : decode cX0_deciderIn 43 = .ok (.goto 4, 3) := by decide +kernel
theorem dX0_deciderIn_46 : decode cX0_deciderIn 46 = .ok (.iconst 0, 1) := by decide +kernel
theorem dX0_deciderIn_47 : decode cX0_deciderIn 47 = .ok (.istore 5, 2) := by decide +kernel
theorem dX0_deciderIn_49 : decode cX0_deciderIn 49 = .ok (.iload 5, 2) := by decide +kernel
theorem dX0_deciderIn_51 : decode cX0_deciderIn 51 = .ok (.ifCond .eq 35, 3) := by decide +kernel
theorem dX0_deciderIn_54 : decode cX0_deciderIn 54 = .ok (.aload_n 0, 1) := by decide +kernel
theorem dX0_deciderIn_55 : decode cX0_deciderIn 55 = .ok (.getfield 30, 3) := by decide +kernel
theorem dX0_deciderIn_58 : decode cX0_deciderIn 58 = .ok (.aload_n 0, 1) := by decide +kernel
theorem dX0_deciderIn_59 : decode cX0_deciderIn 59 = .ok (.getfield 18, 3) := by decide +kernel
theorem dX0_deciderIn_62 : decode cX0_deciderIn 62 = .ok (.iload 4, 2) := by decide +kernel
theorem dX0_deciderIn_64 : decode cX0_deciderIn 64 = .ok (.iaload, 1) := by decide +kernel
theorem dX0_deciderIn_65 : decode cX0_deciderIn 65 = .ok (.iaload, 1) := by decide +kernel
theorem dX0_deciderIn_66 : decode cX0_deciderIn 66 = .ok (.iload_n 3, 1) := by decide +kernel
theorem dX0_deciderIn_67 : decode cX0_deciderIn 67 = .ok (.if_icmp .le 19, 3) := by decide +kernel
theorem dX0_deciderIn_70 : decode cX0_deciderIn 70 = .ok (.aload_n 0, 1) := by decide +kernel
theorem dX0_deciderIn_71 : decode cX0_deciderIn 71 = .ok (.getfield 30, 3) := by decide +kernel
theorem dX0_deciderIn_74 : decode cX0_deciderIn 74 = .ok (.aload_n 0, 1) := by decide +kernel
theorem dX0_deciderIn_75 : decode cX0_deciderIn 75 = .ok (.getfield 18, 3) := by decide +kernel
theorem dX0_deciderIn_78 : decode cX0_deciderIn 78 = .ok (.iload 4, 2) := by decide +kernel
theorem dX0_deciderIn_80 : decode cX0_deciderIn 80 = .ok (.iaload, 1) := by decide +kernel
theorem dX0_deciderIn_81 : decode cX0_deciderIn 81 = .ok (.iaload, 1) := by decide +kernel
theorem dX0_deciderIn_82 : decode cX0_deciderIn 82 = .ok (.istore_n 3, 1) := by decide +kernel
theorem dX0_deciderIn_83 : decode cX0_deciderIn 83 = .ok (.iload 4, 2) := by decide +kernel
theorem dX0_deciderIn_85 : decode cX0_deciderIn 85 = .ok (.istore_n 2, 1) := by decide +kernel
theorem dX0_deciderIn_86 : decode cX0_deciderIn 86 = .ok (.iinc 4 1, 3) := by decide +kernel
theorem dX0_deciderIn_89 : decode cX0_deciderIn 89 = .ok (.goto (-81), 3) := by decide +kernel
theorem dX0_deciderIn_92 : decode cX0_deciderIn 92 = .ok (.iload_n 2, 1) := by decide +kernel
theorem dX0_deciderIn_93 : decode cX0_deciderIn 93 = .ok (.ireturn, 1) := by decide +kernel
set_option maxRecDepth 20000 in
theorem ggX0_verdictIn_X0_deciderIn : GoodIn wsX0_verdictIn wsX0_deciderIn := goodIn_r _ [7, 8, 1, 2, 9, 17, 18, 19, 20, 21, 22, 23, 24, 25, 26, 27] (by decide +kernel) (by decide +kernel)
set_option maxRecDepth 20000 in
theorem gX0_verdictIn_X0_deciderIn : GoodIn wsX0_verdictIn (wsV RX0 90 RX0 yX0_deciderIn wsX0_deciderIn) := goodIn_app (goodIn_of _ (by decide +kernel)) ggX0_verdictIn_X0_deciderIn
set_option maxRecDepth 20000 in
theorem ggX0_verdictIn_X0_hasThing : GoodIn wsX0_verdictIn wsX0_hasThing := goodIn_r _ [13, 8, 14, 15, 16, 17, 18, 19, 20, 21, 22, 23, 24, 25, 26, 27] (by decide +kernel) (by decide +kernel)
set_option maxRecDepth 20000 in
theorem gX0_verdictIn_X0_hasThing : GoodIn wsX0_verdictIn (wsV RX0 93 RX0 yX0_hasThing wsX0_hasThing) := goodIn_app (goodIn_of _ (by decide +kernel)) ggX0_verdictIn_X0_hasThing
theorem dX0_verdictIn_0 : decode cX0_verdictIn 0 = .ok (.aload_n 0, 1) := by decide +kernel
theorem dX0_verdictIn_1 : decode cX0_verdictIn 1 = .ok (.iload_n 1, 1) := by decide +kernel
theorem dX0_verdictIn_2 : decode cX0_verdictIn 2 = .ok (.invokevirtual 90, 3) := by decide +kernel
theorem dX0_verdictIn_5 : decode cX0_verdictIn 5 = .ok (.istore_n 2, 1) := by decide +kernel
theorem dX0_verdictIn_6 : decode cX0_verdictIn 6 = .ok (.aload_n 0, 1) := by decide +kernel
theorem dX0_verdictIn_7 : decode cX0_verdictIn 7 = .ok (.iload_n 2, 1) := by decide +kernel
theorem dX0_verdictIn_8 : decode cX0_verdictIn 8 = .ok (.invokevirtual 93, 3) := by decide +kernel
theorem dX0_verdictIn_11 : decode cX0_verdictIn 11 = .ok (.ifCond .eq 17, 3) := by decide +kernel
theorem dX0_verdictIn_14 : decode cX0_verdictIn 14 = .ok (.aload_n 0, 1) := by decide +kernel
theorem dX0_verdictIn_15 : decode cX0_verdictIn 15 = .ok (.getfield 27, 3) := by decide +kernel
theorem dX0_verdictIn_18 : decode cX0_verdictIn 18 = .ok (.aload_n 0, 1) := by decide +kernel
theorem dX0_verdictIn_19 : decode cX0_verdictIn 19 = .ok (.getfield 18, 3) := by decide +kernel
theorem dX0_verdictIn_22 : decode cX0_verdictIn 22 = .ok (.iload_n 2, 1) := by decide +kernel
theorem dX0_verdictIn_23 : decode cX0_verdictIn 23 = .ok (.iaload, 1) := by decide +kernel
theorem dX0_verdictIn_24 : decode cX0_verdictIn 24 = .ok (.iaload, 1) := by decide +kernel
theorem dX0_verdictIn_25 : decode cX0_verdictIn 25 = .ok (.goto 4, 3) := by decide +kernel
theorem dX0_verdictIn_28 : decode cX0_verdictIn 28 = .ok (.iconst 0, 1) := by decide +kernel
theorem dX0_verdictIn_29 : decode cX0_verdictIn 29 = .ok (.ireturn, 1) := by decide +kernel
set_option maxRecDepth 20000 in
theorem ggX0_verdictFrom_X0_sightFrom : GoodIn wsX0_verdictFrom wsX0_sightFrom := goodIn_r _ [5, 6, 7, 8, 9, 4, 10, 11, 12, 13, 14, 15, 16, 17, 18, 19, 20, 21, 22, 23, 24, 25, 26, 27, 28, 29, 30, 31, 32, 33, 34, 35, 36, 37, 38, 56, 57, 58, 59, 60, 61, 62, 63, 64, 65, 66] (by decide +kernel) (by decide +kernel)
set_option maxRecDepth 20000 in
theorem gX0_verdictFrom_X0_sightFrom : GoodIn wsX0_verdictFrom (wsV RX0 96 RX0 yX0_sightFrom wsX0_sightFrom) := goodIn_app (goodIn_of _ (by decide +kernel)) ggX0_verdictFrom_X0_sightFrom
set_option maxRecDepth 20000 in
theorem ggX0_verdictFrom_X0_verdictIn : GoodIn wsX0_verdictFrom wsX0_verdictIn := goodIn_r _ [42, 43, 26, 44, 45, 46, 4, 47, 6, 48, 49, 50, 51, 52, 53, 54, 55, 56, 57, 58, 59, 60, 61, 62, 63, 64, 65, 66] (by decide +kernel) (by decide +kernel)
set_option maxRecDepth 20000 in
theorem gX0_verdictFrom_X0_verdictIn : GoodIn wsX0_verdictFrom (wsV RX0 99 RX0 yX0_verdictIn wsX0_verdictIn) := goodIn_app (goodIn_of _ (by decide +kernel)) ggX0_verdictFrom_X0_verdictIn
theorem dX0_verdictFrom_0 : decode cX0_verdictFrom 0 = .ok (.aload_n 0, 1) := by decide +kernel
theorem dX0_verdictFrom_1 : decode cX0_verdictFrom 1 = .ok (.aload_n 0, 1) := by decide +kernel
theorem dX0_verdictFrom_2 : decode cX0_verdictFrom 2 = .ok (.iload_n 1, 1) := by decide +kernel
theorem dX0_verdictFrom_3 : decode cX0_verdictFrom 3 = .ok (.invokevirtual 96, 3) := by decide +kernel
theorem dX0_verdictFrom_6 : decode cX0_verdictFrom 6 = .ok (.invokevirtual 99, 3) := by decide +kernel
theorem dX0_verdictFrom_9 : decode cX0_verdictFrom 9 = .ok (.ireturn, 1) := by decide +kernel
set_option maxRecDepth 20000 in
theorem ggX0_branchesWith_X0_sightFrom : GoodIn wsX0_branchesWith wsX0_sightFrom := goodIn_r _ [5, 6, 7, 8, 9, 4, 10, 11, 12, 13, 14, 15, 16, 17, 18, 19, 20, 21, 22, 23, 24, 25, 26, 27, 28, 29, 30, 31, 32, 33, 34, 35, 36, 37, 38, 56, 57, 58, 59, 60, 61, 62, 63, 64, 65, 66] (by decide +kernel) (by decide +kernel)
set_option maxRecDepth 20000 in
theorem gX0_branchesWith_X0_sightFrom : GoodIn wsX0_branchesWith (wsV RX0 96 RX0 yX0_sightFrom wsX0_sightFrom) := goodIn_app (goodIn_of _ (by decide +kernel)) ggX0_branchesWith_X0_sightFrom
set_option maxRecDepth 20000 in
theorem ggX0_branchesWith_X0_verdictIn : GoodIn wsX0_branchesWith wsX0_verdictIn := goodIn_r _ [42, 43, 26, 44, 45, 46, 4, 47, 6, 48, 49, 50, 51, 52, 53, 54, 55, 56, 57, 58, 59, 60, 61, 62, 63, 64, 65, 66] (by decide +kernel) (by decide +kernel)
set_option maxRecDepth 20000 in
theorem gX0_branchesWith_X0_verdictIn : GoodIn wsX0_branchesWith (wsV RX0 99 RX0 yX0_verdictIn wsX0_verdictIn) := goodIn_app (goodIn_of _ (by decide +kernel)) ggX0_branchesWith_X0_verdictIn
theorem dX0_branchesWith_0 : decode cX0_branchesWith 0 = .ok (.iconst 0, 1) := by decide +kernel
theorem dX0_branchesWith_1 : decode cX0_branchesWith 1 = .ok (.istore_n 2, 1) := by decide +kernel
theorem dX0_branchesWith_2 : decode cX0_branchesWith 2 = .ok (.iconst 0, 1) := by decide +kernel
theorem dX0_branchesWith_3 : decode cX0_branchesWith 3 = .ok (.istore_n 3, 1) := by decide +kernel
theorem dX0_branchesWith_4 : decode cX0_branchesWith 4 = .ok (.iload_n 3, 1) := by decide +kernel
theorem dX0_branchesWith_5 : decode cX0_branchesWith 5 = .ok (.bipush 10, 2) := by decide +kernel
theorem dX0_branchesWith_7 : decode cX0_branchesWith 7 = .ok (.if_icmp .ge 28, 3) := by decide +kernel
theorem dX0_branchesWith_10 : decode cX0_branchesWith 10 = .ok (.aload_n 0, 1) := by decide +kernel
theorem dX0_branchesWith_11 : decode cX0_branchesWith 11 = .ok (.aload_n 0, 1) := by decide +kernel
theorem dX0_branchesWith_12 : decode cX0_branchesWith 12 = .ok (.iload_n 3, 1) := by decide +kernel
theorem dX0_branchesWith_13 : decode cX0_branchesWith 13 = .ok (.invokevirtual 96, 3) := by decide +kernel
theorem dX0_branchesWith_16 : decode cX0_branchesWith 16 = .ok (.invokevirtual 99, 3) := by decide +kernel
theorem dX0_branchesWith_19 : decode cX0_branchesWith 19 = .ok (.iload_n 1, 1) := by decide +kernel
theorem dX0_branchesWith_20 : decode cX0_branchesWith 20 = .ok (.if_icmp .ne 9, 3) := by decide +kernel
theorem dX0_branchesWith_23 : decode cX0_branchesWith 23 = .ok (.iload_n 2, 1) := by decide +kernel
theorem dX0_branchesWith_24 : decode cX0_branchesWith 24 = .ok (.iconst 1, 1) := by decide +kernel
theorem dX0_branchesWith_25 : decode cX0_branchesWith 25 = .ok (.iload_n 3, 1) := by decide +kernel
theorem dX0_branchesWith_26 : decode cX0_branchesWith 26 = .ok (.ishl, 1) := by decide +kernel
theorem dX0_branchesWith_27 : decode cX0_branchesWith 27 = .ok (.ior, 1) := by decide +kernel
theorem dX0_branchesWith_28 : decode cX0_branchesWith 28 = .ok (.istore_n 2, 1) := by decide +kernel
theorem dX0_branchesWith_29 : decode cX0_branchesWith 29 = .ok (.iinc 3 1, 3) := by decide +kernel
theorem dX0_branchesWith_32 : decode cX0_branchesWith 32 = .ok (.goto (-28), 3) := by decide +kernel
theorem dX0_branchesWith_35 : decode cX0_branchesWith 35 = .ok (.iload_n 2, 1) := by decide +kernel
theorem dX0_branchesWith_36 : decode cX0_branchesWith 36 = .ok (.ireturn, 1) := by decide +kernel
set_option maxRecDepth 20000 in
theorem ggX0_differsAbove_X0_verdictFrom : GoodIn wsX0_differsAbove wsX0_verdictFrom := goodIn_r _ [5, 6, 7, 8, 4, 9, 10, 11, 12, 13, 14, 15, 16, 17, 18, 19, 20, 21, 22, 23, 24, 25, 26, 27, 28, 29, 30, 31, 32, 33, 34, 35, 36, 37, 38, 39, 40, 41, 42, 43, 44, 45, 46, 47, 48, 49, 50, 51, 52, 53, 54, 55, 56, 57, 58, 59, 60, 61, 62, 63, 64, 65, 66, 67, 68, 69, 70] (by decide +kernel) (by decide +kernel)
set_option maxRecDepth 20000 in
theorem gX0_differsAbove_X0_verdictFrom : GoodIn wsX0_differsAbove (wsV RX0 102 RX0 yX0_verdictFrom wsX0_verdictFrom) := goodIn_app (goodIn_of _ (by decide +kernel)) ggX0_differsAbove_X0_verdictFrom
theorem dX0_differsAbove_0 : decode cX0_differsAbove 0 = .ok (.aload_n 0, 1) := by decide +kernel
theorem dX0_differsAbove_1 : decode cX0_differsAbove 1 = .ok (.iload_n 1, 1) := by decide +kernel
theorem dX0_differsAbove_2 : decode cX0_differsAbove 2 = .ok (.invokevirtual 102, 3) := by decide +kernel
theorem dX0_differsAbove_5 : decode cX0_differsAbove 5 = .ok (.istore_n 2, 1) := by decide +kernel
theorem dX0_differsAbove_6 : decode cX0_differsAbove 6 = .ok (.iload_n 1, 1) := by decide +kernel
theorem dX0_differsAbove_7 : decode cX0_differsAbove 7 = .ok (.iconst 1, 1) := by decide +kernel
theorem dX0_differsAbove_8 : decode cX0_differsAbove 8 = .ok (.iadd, 1) := by decide +kernel
theorem dX0_differsAbove_9 : decode cX0_differsAbove 9 = .ok (.istore_n 3, 1) := by decide +kernel
theorem dX0_differsAbove_10 : decode cX0_differsAbove 10 = .ok (.iload_n 3, 1) := by decide +kernel
theorem dX0_differsAbove_11 : decode cX0_differsAbove 11 = .ok (.bipush 10, 2) := by decide +kernel
theorem dX0_differsAbove_13 : decode cX0_differsAbove 13 = .ok (.if_icmp .ge 20, 3) := by decide +kernel
theorem dX0_differsAbove_16 : decode cX0_differsAbove 16 = .ok (.aload_n 0, 1) := by decide +kernel
theorem dX0_differsAbove_17 : decode cX0_differsAbove 17 = .ok (.iload_n 3, 1) := by decide +kernel
theorem dX0_differsAbove_18 : decode cX0_differsAbove 18 = .ok (.invokevirtual 102, 3) := by decide +kernel
theorem dX0_differsAbove_21 : decode cX0_differsAbove 21 = .ok (.iload_n 2, 1) := by decide +kernel
theorem dX0_differsAbove_22 : decode cX0_differsAbove 22 = .ok (.if_icmp .eq 5, 3) := by decide +kernel
theorem dX0_differsAbove_25 : decode cX0_differsAbove 25 = .ok (.iload_n 3, 1) := by decide +kernel
theorem dX0_differsAbove_26 : decode cX0_differsAbove 26 = .ok (.ireturn, 1) := by decide +kernel
theorem dX0_differsAbove_27 : decode cX0_differsAbove 27 = .ok (.iinc 3 1, 3) := by decide +kernel
theorem dX0_differsAbove_30 : decode cX0_differsAbove 30 = .ok (.goto (-20), 3) := by decide +kernel
theorem dX0_differsAbove_33 : decode cX0_differsAbove 33 = .ok (.bipush (-9), 2) := by decide +kernel
theorem dX0_differsAbove_35 : decode cX0_differsAbove 35 = .ok (.ireturn, 1) := by decide +kernel
theorem dX0_farthestIn_0 : decode cX0_farthestIn 0 = .ok (.bipush (-9), 2) := by decide +kernel
theorem dX0_farthestIn_2 : decode cX0_farthestIn 2 = .ok (.istore_n 2, 1) := by decide +kernel
theorem dX0_farthestIn_3 : decode cX0_farthestIn 3 = .ok (.iconst (-1), 1) := by decide +kernel
theorem dX0_farthestIn_4 : decode cX0_farthestIn 4 = .ok (.istore_n 3, 1) := by decide +kernel
theorem dX0_farthestIn_5 : decode cX0_farthestIn 5 = .ok (.iconst 0, 1) := by decide +kernel
theorem dX0_farthestIn_6 : decode cX0_farthestIn 6 = .ok (.istore 4, 2) := by decide +kernel
theorem dX0_farthestIn_8 : decode cX0_farthestIn 8 = .ok (.iload 4, 2) := by decide +kernel
theorem dX0_farthestIn_10 : decode cX0_farthestIn 10 = .ok (.aload_n 0, 1) := by decide +kernel
theorem dX0_farthestIn_11 : decode cX0_farthestIn 11 = .ok (.getfield 43, 3) := by decide +kernel
theorem dX0_farthestIn_14 : decode cX0_farthestIn 14 = .ok (.if_icmp .ge 41, 3) := by decide +kernel
theorem dX0_farthestIn_17 : decode cX0_farthestIn 17 = .ok (.iload_n 1, 1) := by decide +kernel
theorem dX0_farthestIn_18 : decode cX0_farthestIn 18 = .ok (.iload 4, 2) := by decide +kernel
theorem dX0_farthestIn_20 : decode cX0_farthestIn 20 = .ok (.ishr, 1) := by decide +kernel
theorem dX0_farthestIn_21 : decode cX0_farthestIn 21 = .ok (.iconst 1, 1) := by decide +kernel
theorem dX0_farthestIn_22 : decode cX0_farthestIn 22 = .ok (.iand, 1) := by decide +kernel
theorem dX0_farthestIn_23 : decode cX0_farthestIn 23 = .ok (.iconst 1, 1) := by decide +kernel
theorem dX0_farthestIn_24 : decode cX0_farthestIn 24 = .ok (.if_icmp .ne 25, 3) := by decide +kernel
theorem dX0_farthestIn_27 : decode cX0_farthestIn 27 = .ok (.aload_n 0, 1) := by decide +kernel
theorem dX0_farthestIn_28 : decode cX0_farthestIn 28 = .ok (.getfield 24, 3) := by decide +kernel
theorem dX0_farthestIn_31 : decode cX0_farthestIn 31 = .ok (.iload 4, 2) := by decide +kernel
theorem dX0_farthestIn_33 : decode cX0_farthestIn 33 = .ok (.iaload, 1) := by decide +kernel
theorem dX0_farthestIn_34 : decode cX0_farthestIn 34 = .ok (.iload_n 3, 1) := by decide +kernel
theorem dX0_farthestIn_35 : decode cX0_farthestIn 35 = .ok (.if_icmp .le 14, 3) := by decide +kernel
theorem dX0_farthestIn_38 : decode cX0_farthestIn 38 = .ok (.aload_n 0, 1) := by decide +kernel
theorem dX0_farthestIn_39 : decode cX0_farthestIn 39 = .ok (.getfield 24, 3) := by decide +kernel
theorem dX0_farthestIn_42 : decode cX0_farthestIn 42 = .ok (.iload 4, 2) := by decide +kernel
theorem dX0_farthestIn_44 : decode cX0_farthestIn 44 = .ok (.iaload, 1) := by decide +kernel
theorem dX0_farthestIn_45 : decode cX0_farthestIn 45 = .ok (.istore_n 3, 1) := by decide +kernel
theorem dX0_farthestIn_46 : decode cX0_farthestIn 46 = .ok (.iload 4, 2) := by decide +kernel
theorem dX0_farthestIn_48 : decode cX0_farthestIn 48 = .ok (.istore_n 2, 1) := by decide +kernel
theorem dX0_farthestIn_49 : decode cX0_farthestIn 49 = .ok (.iinc 4 1, 3) := by decide +kernel
theorem dX0_farthestIn_52 : decode cX0_farthestIn 52 = .ok (.goto (-44), 3) := by decide +kernel
theorem dX0_farthestIn_55 : decode cX0_farthestIn 55 = .ok (.iload_n 2, 1) := by decide +kernel
theorem dX0_farthestIn_56 : decode cX0_farthestIn 56 = .ok (.ireturn, 1) := by decide +kernel
set_option maxRecDepth 20000 in
theorem ggX0_blindFrom_X0_isInSight : GoodIn wsX0_blindFrom wsX0_isInSight := goodIn_r _ [6, 7, 8, 9, 10, 11, 12, 13, 14, 15, 16, 17, 18, 19, 20, 21, 22, 23] (by decide +kernel) (by decide +kernel)
set_option maxRecDepth 20000 in
theorem gX0_blindFrom_X0_isInSight : GoodIn wsX0_blindFrom (wsV RX0 84 RX0 yX0_isInSight wsX0_isInSight) := goodIn_app (goodIn_of _ (by decide +kernel)) ggX0_blindFrom_X0_isInSight
theorem dX0_blindFrom_0 : decode cX0_blindFrom 0 = .ok (.iconst 0, 1) := by decide +kernel
theorem dX0_blindFrom_1 : decode cX0_blindFrom 1 = .ok (.istore_n 2, 1) := by decide +kernel
theorem dX0_blindFrom_2 : decode cX0_blindFrom 2 = .ok (.iconst 0, 1) := by decide +kernel
theorem dX0_blindFrom_3 : decode cX0_blindFrom 3 = .ok (.istore_n 3, 1) := by decide +kernel
theorem dX0_blindFrom_4 : decode cX0_blindFrom 4 = .ok (.iload_n 3, 1) := by decide +kernel
theorem dX0_blindFrom_5 : decode cX0_blindFrom 5 = .ok (.bipush 16, 2) := by decide +kernel
theorem dX0_blindFrom_7 : decode cX0_blindFrom 7 = .ok (.if_icmp .ge 32, 3) := by decide +kernel
theorem dX0_blindFrom_10 : decode cX0_blindFrom 10 = .ok (.aload_n 0, 1) := by decide +kernel
theorem dX0_blindFrom_11 : decode cX0_blindFrom 11 = .ok (.iload_n 3, 1) := by decide +kernel
theorem dX0_blindFrom_12 : decode cX0_blindFrom 12 = .ok (.aload_n 0, 1) := by decide +kernel
theorem dX0_blindFrom_13 : decode cX0_blindFrom 13 = .ok (.getfield 9, 3) := by decide +kernel
theorem dX0_blindFrom_16 : decode cX0_blindFrom 16 = .ok (.iload_n 3, 1) := by decide +kernel
theorem dX0_blindFrom_17 : decode cX0_blindFrom 17 = .ok (.iaload, 1) := by decide +kernel
theorem dX0_blindFrom_18 : decode cX0_blindFrom 18 = .ok (.iconst 1, 1) := by decide +kernel
theorem dX0_blindFrom_19 : decode cX0_blindFrom 19 = .ok (.iadd, 1) := by decide +kernel
theorem dX0_blindFrom_20 : decode cX0_blindFrom 20 = .ok (.iload_n 1, 1) := by decide +kernel
theorem dX0_blindFrom_21 : decode cX0_blindFrom 21 = .ok (.invokevirtual 84, 3) := by decide +kernel
theorem dX0_blindFrom_24 : decode cX0_blindFrom 24 = .ok (.ifCond .ne 9, 3) := by decide +kernel
theorem dX0_blindFrom_27 : decode cX0_blindFrom 27 = .ok (.iload_n 2, 1) := by decide +kernel
theorem dX0_blindFrom_28 : decode cX0_blindFrom 28 = .ok (.iconst 1, 1) := by decide +kernel
theorem dX0_blindFrom_29 : decode cX0_blindFrom 29 = .ok (.iload_n 3, 1) := by decide +kernel
theorem dX0_blindFrom_30 : decode cX0_blindFrom 30 = .ok (.ishl, 1) := by decide +kernel
theorem dX0_blindFrom_31 : decode cX0_blindFrom 31 = .ok (.ior, 1) := by decide +kernel
theorem dX0_blindFrom_32 : decode cX0_blindFrom 32 = .ok (.istore_n 2, 1) := by decide +kernel
theorem dX0_blindFrom_33 : decode cX0_blindFrom 33 = .ok (.iinc 3 1, 3) := by decide +kernel
theorem dX0_blindFrom_36 : decode cX0_blindFrom 36 = .ok (.goto (-32), 3) := by decide +kernel
theorem dX0_blindFrom_39 : decode cX0_blindFrom 39 = .ok (.iload_n 2, 1) := by decide +kernel
theorem dX0_blindFrom_40 : decode cX0_blindFrom 40 = .ok (.ireturn, 1) := by decide +kernel
set_option maxRecDepth 20000 in
theorem ggX0_highest_X0_topOf : GoodIn wsX0_highest wsX0_topOf := goodIn_r _ [6, 7, 8, 9, 10, 11, 5, 12, 13, 14, 15, 16, 17, 18, 19, 20, 21, 22, 23, 24, 25, 26] (by decide +kernel) (by decide +kernel)
set_option maxRecDepth 20000 in
theorem gX0_highest_X0_topOf : GoodIn wsX0_highest (wsV RX0 81 RX0 yX0_topOf wsX0_topOf) := goodIn_app (goodIn_of _ (by decide +kernel)) ggX0_highest_X0_topOf
theorem dX0_highest_0 : decode cX0_highest 0 = .ok (.bipush (-9), 2) := by decide +kernel
theorem dX0_highest_2 : decode cX0_highest 2 = .ok (.istore_n 1, 1) := by decide +kernel
theorem dX0_highest_3 : decode cX0_highest 3 = .ok (.iconst (-1), 1) := by decide +kernel
theorem dX0_highest_4 : decode cX0_highest 4 = .ok (.istore_n 2, 1) := by decide +kernel
theorem dX0_highest_5 : decode cX0_highest 5 = .ok (.iconst 0, 1) := by decide +kernel
theorem dX0_highest_6 : decode cX0_highest 6 = .ok (.istore_n 3, 1) := by decide +kernel
theorem dX0_highest_7 : decode cX0_highest 7 = .ok (.iload_n 3, 1) := by decide +kernel
theorem dX0_highest_8 : decode cX0_highest 8 = .ok (.aload_n 0, 1) := by decide +kernel
theorem dX0_highest_9 : decode cX0_highest 9 = .ok (.getfield 43, 3) := by decide +kernel
theorem dX0_highest_12 : decode cX0_highest 12 = .ok (.if_icmp .ge 26, 3) := by decide +kernel
theorem dX0_highest_15 : decode cX0_highest 15 = .ok (.aload_n 0, 1) := by decide +kernel
theorem dX0_highest_16 : decode cX0_highest 16 = .ok (.iload_n 3, 1) := by decide +kernel
theorem dX0_highest_17 : decode cX0_highest 17 = .ok (.invokevirtual 81, 3) := by decide +kernel
theorem dX0_highest_20 : decode cX0_highest 20 = .ok (.iload_n 2, 1) := by decide +kernel
theorem dX0_highest_21 : decode cX0_highest 21 = .ok (.if_icmp .le 11, 3) := by decide +kernel
theorem dX0_highest_24 : decode cX0_highest 24 = .ok (.aload_n 0, 1) := by decide +kernel
theorem dX0_highest_25 : decode cX0_highest 25 = .ok (.iload_n 3, 1) := by decide +kernel
theorem dX0_highest_26 : decode cX0_highest 26 = .ok (.invokevirtual 81, 3) := by decide +kernel
theorem dX0_highest_29 : decode cX0_highest 29 = .ok (.istore_n 2, 1) := by decide +kernel
theorem dX0_highest_30 : decode cX0_highest 30 = .ok (.iload_n 3, 1) := by decide +kernel
theorem dX0_highest_31 : decode cX0_highest 31 = .ok (.istore_n 1, 1) := by decide +kernel
theorem dX0_highest_32 : decode cX0_highest 32 = .ok (.iinc 3 1, 3) := by decide +kernel
theorem dX0_highest_35 : decode cX0_highest 35 = .ok (.goto (-28), 3) := by decide +kernel
theorem dX0_highest_38 : decode cX0_highest 38 = .ok (.iload_n 1, 1) := by decide +kernel
theorem dX0_highest_39 : decode cX0_highest 39 = .ok (.ireturn, 1) := by decide +kernel
theorem dX0_twosInOneCell_0 : decode cX0_twosInOneCell 0 = .ok (.iconst 0, 1) := by decide +kernel
theorem dX0_twosInOneCell_1 : decode cX0_twosInOneCell 1 = .ok (.istore_n 1, 1) := by decide +kernel
theorem dX0_twosInOneCell_2 : decode cX0_twosInOneCell 2 = .ok (.iconst 0, 1) := by decide +kernel
theorem dX0_twosInOneCell_3 : decode cX0_twosInOneCell 3 = .ok (.istore_n 2, 1) := by decide +kernel
theorem dX0_twosInOneCell_4 : decode cX0_twosInOneCell 4 = .ok (.iload_n 2, 1) := by decide +kernel
theorem dX0_twosInOneCell_5 : decode cX0_twosInOneCell 5 = .ok (.aload_n 0, 1) := by decide +kernel
theorem dX0_twosInOneCell_6 : decode cX0_twosInOneCell 6 = .ok (.getfield 43, 3) := by decide +kernel
theorem dX0_twosInOneCell_9 : decode cX0_twosInOneCell 9 = .ok (.if_icmp .ge 50, 3) := by decide +kernel
theorem dX0_twosInOneCell_12 : decode cX0_twosInOneCell 12 = .ok (.iload_n 2, 1) := by decide +kernel
theorem dX0_twosInOneCell_13 : decode cX0_twosInOneCell 13 = .ok (.iconst 1, 1) := by decide +kernel
theorem dX0_twosInOneCell_14 : decode cX0_twosInOneCell 14 = .ok (.iadd, 1) := by decide +kernel
theorem dX0_twosInOneCell_15 : decode cX0_twosInOneCell 15 = .ok (.istore_n 3, 1) := by decide +kernel
theorem dX0_twosInOneCell_16 : decode cX0_twosInOneCell 16 = .ok (.iload_n 3, 1) := by decide +kernel
theorem dX0_twosInOneCell_17 : decode cX0_twosInOneCell 17 = .ok (.aload_n 0, 1) := by decide +kernel
theorem dX0_twosInOneCell_18 : decode cX0_twosInOneCell 18 = .ok (.getfield 43, 3) := by decide +kernel
theorem dX0_twosInOneCell_21 : decode cX0_twosInOneCell 21 = .ok (.if_icmp .ge 32, 3) := by decide +kernel
theorem dX0_twosInOneCell_24 : decode cX0_twosInOneCell 24 = .ok (.iload_n 1, 1) := by decide +kernel
theorem dX0_twosInOneCell_25 : decode cX0_twosInOneCell 25 = .ok (.aload_n 0, 1) := by decide +kernel
theorem dX0_twosInOneCell_26 : decode cX0_twosInOneCell 26 = .ok (.getfield 24, 3) := by decide +kernel
theorem dX0_twosInOneCell_29 : decode cX0_twosInOneCell 29 = .ok (.iload_n 2, 1) := by decide +kernel
theorem dX0_twosInOneCell_30 : decode cX0_twosInOneCell 30 = .ok (.iaload, 1) := by decide +kernel
theorem dX0_twosInOneCell_31 : decode cX0_twosInOneCell 31 = .ok (.aload_n 0, 1) := by decide +kernel
theorem dX0_twosInOneCell_32 : decode cX0_twosInOneCell 32 = .ok (.getfield 24, 3) := by decide +kernel
theorem dX0_twosInOneCell_35 : decode cX0_twosInOneCell 35 = .ok (.iload_n 3, 1) := by decide +kernel
theorem dX0_twosInOneCell_36 : decode cX0_twosInOneCell 36 = .ok (.iaload, 1) := by decide +kernel
theorem dX0_twosInOneCell_37 : decode cX0_twosInOneCell 37 = .ok (.if_icmp .ne 7, 3) := by decide +kernel
theorem dX0_twosInOneCell_40 : decode cX0_twosInOneCell 40 = .ok (.iconst 1, 1) := by decide +kernel
theorem dX0_twosInOneCell_41 : decode cX0_twosInOneCell 41 = .ok (.goto 4, 3) := by decide +kernel
theorem dX0_twosInOneCell_44 : decode cX0_twosInOneCell 44 = .ok (.iconst 0, 1) := by decide +kernel
theorem dX0_twosInOneCell_45 : decode cX0_twosInOneCell 45 = .ok (.iadd, 1) := by decide +kernel
theorem dX0_twosInOneCell_46 : decode cX0_twosInOneCell 46 = .ok (.istore_n 1, 1) := by decide +kernel
theorem dX0_twosInOneCell_47 : decode cX0_twosInOneCell 47 = .ok (.iinc 3 1, 3) := by decide +kernel
theorem dX0_twosInOneCell_50 : decode cX0_twosInOneCell 50 = .ok (.goto (-34), 3) := by decide +kernel
theorem dX0_twosInOneCell_53 : decode cX0_twosInOneCell 53 = .ok (.iinc 2 1, 3) := by decide +kernel
theorem dX0_twosInOneCell_56 : decode cX0_twosInOneCell 56 = .ok (.goto (-52), 3) := by decide +kernel
theorem dX0_twosInOneCell_59 : decode cX0_twosInOneCell 59 = .ok (.iload_n 1, 1) := by decide +kernel
theorem dX0_twosInOneCell_60 : decode cX0_twosInOneCell 60 = .ok (.ireturn, 1) := by decide +kernel
set_option maxRecDepth 20000 in
theorem ggX0_lost_X0_sightFrom : GoodIn wsX0_lost wsX0_sightFrom := goodIn_r _ [6, 1, 7, 8, 9, 5, 10, 11, 12, 13, 14, 15, 16, 17, 18, 19, 20, 21, 22, 23, 24, 25, 26, 27, 28, 29, 30, 31, 32, 33, 34, 35, 36, 37, 38, 39, 40, 41, 42, 43, 44, 45, 46, 47, 48, 49] (by decide +kernel) (by decide +kernel)
set_option maxRecDepth 20000 in
theorem gX0_lost_X0_sightFrom : GoodIn wsX0_lost (wsV RX0 96 RX0 yX0_sightFrom wsX0_sightFrom) := goodIn_app (goodIn_of _ (by decide +kernel)) ggX0_lost_X0_sightFrom
theorem dX0_lost_0 : decode cX0_lost 0 = .ok (.iconst 0, 1) := by decide +kernel
theorem dX0_lost_1 : decode cX0_lost 1 = .ok (.istore_n 1, 1) := by decide +kernel
theorem dX0_lost_2 : decode cX0_lost 2 = .ok (.iconst 0, 1) := by decide +kernel
theorem dX0_lost_3 : decode cX0_lost 3 = .ok (.istore_n 2, 1) := by decide +kernel
theorem dX0_lost_4 : decode cX0_lost 4 = .ok (.iload_n 2, 1) := by decide +kernel
theorem dX0_lost_5 : decode cX0_lost 5 = .ok (.bipush 10, 2) := by decide +kernel
theorem dX0_lost_7 : decode cX0_lost 7 = .ok (.if_icmp .ge 17, 3) := by decide +kernel
theorem dX0_lost_10 : decode cX0_lost 10 = .ok (.iload_n 1, 1) := by decide +kernel
theorem dX0_lost_11 : decode cX0_lost 11 = .ok (.aload_n 0, 1) := by decide +kernel
theorem dX0_lost_12 : decode cX0_lost 12 = .ok (.iload_n 2, 1) := by decide +kernel
theorem dX0_lost_13 : decode cX0_lost 13 = .ok (.invokevirtual 96, 3) := by decide +kernel
theorem dX0_lost_16 : decode cX0_lost 16 = .ok (.ior, 1) := by decide +kernel
theorem dX0_lost_17 : decode cX0_lost 17 = .ok (.istore_n 1, 1) := by decide +kernel
theorem dX0_lost_18 : decode cX0_lost 18 = .ok (.iinc 2 1, 3) := by decide +kernel
theorem dX0_lost_21 : decode cX0_lost 21 = .ok (.goto (-17), 3) := by decide +kernel
theorem dX0_lost_24 : decode cX0_lost 24 = .ok (.iconst 1, 1) := by decide +kernel
theorem dX0_lost_25 : decode cX0_lost 25 = .ok (.aload_n 0, 1) := by decide +kernel
theorem dX0_lost_26 : decode cX0_lost 26 = .ok (.getfield 43, 3) := by decide +kernel
theorem dX0_lost_29 : decode cX0_lost 29 = .ok (.ishl, 1) := by decide +kernel
theorem dX0_lost_30 : decode cX0_lost 30 = .ok (.iconst 1, 1) := by decide +kernel
theorem dX0_lost_31 : decode cX0_lost 31 = .ok (.isub, 1) := by decide +kernel
theorem dX0_lost_32 : decode cX0_lost 32 = .ok (.iload_n 1, 1) := by decide +kernel
theorem dX0_lost_33 : decode cX0_lost 33 = .ok (.iconst (-1), 1) := by decide +kernel
theorem dX0_lost_34 : decode cX0_lost 34 = .ok (.ixor, 1) := by decide +kernel
theorem dX0_lost_35 : decode cX0_lost 35 = .ok (.iand, 1) := by decide +kernel
theorem dX0_lost_36 : decode cX0_lost 36 = .ok (.ireturn, 1) := by decide +kernel
theorem dX0_divides_0 : decode cX0_divides 0 = .ok (.iload_n 0, 1) := by decide +kernel
theorem dX0_divides_1 : decode cX0_divides 1 = .ok (.ifCond .eq 13, 3) := by decide +kernel
theorem dX0_divides_4 : decode cX0_divides 4 = .ok (.iload_n 1, 1) := by decide +kernel
theorem dX0_divides_5 : decode cX0_divides 5 = .ok (.iload_n 0, 1) := by decide +kernel
theorem dX0_divides_6 : decode cX0_divides 6 = .ok (.irem, 1) := by decide +kernel
theorem dX0_divides_7 : decode cX0_divides 7 = .ok (.ifCond .ne 7, 3) := by decide +kernel
theorem dX0_divides_10 : decode cX0_divides 10 = .ok (.iconst 1, 1) := by decide +kernel
theorem dX0_divides_11 : decode cX0_divides 11 = .ok (.goto 4, 3) := by decide +kernel
theorem dX0_divides_14 : decode cX0_divides 14 = .ok (.iconst 0, 1) := by decide +kernel
theorem dX0_divides_15 : decode cX0_divides 15 = .ok (.ireturn, 1) := by decide +kernel
