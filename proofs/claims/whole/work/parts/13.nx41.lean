theorem dX4_turn_19 : decode cX4_turn 19 = .ok (.ireturn, 1) := by decide +kernel
theorem dX4_turn_20 : decode cX4_turn 20 = .ok (.iload_n 3, 1) := by decide +kernel
theorem dX4_turn_21 : decode cX4_turn 21 = .ok (.iconst (-1), 1) := by decide +kernel
theorem dX4_turn_22 : decode cX4_turn 22 = .ok (.iconst 1, 1) := by decide +kernel
theorem dX4_turn_23 : decode cX4_turn 23 = .ok (.invokestatic 42, 3) := by decide +kernel
theorem dX4_turn_26 : decode cX4_turn 26 = .ok (.ifCond .eq 19, 3) := by decide +kernel
theorem dX4_turn_29 : decode cX4_turn 29 = .ok (.aload_n 0, 1) := by decide +kernel
theorem dX4_turn_30 : decode cX4_turn 30 = .ok (.aload_n 0, 1) := by decide +kernel
theorem dX4_turn_31 : decode cX4_turn 31 = .ok (.iload_n 1, 1) := by decide +kernel
theorem dX4_turn_32 : decode cX4_turn 32 = .ok (.iload_n 2, 1) := by decide +kernel
theorem dX4_turn_33 : decode cX4_turn 33 = .ok (.invokevirtual 54, 3) := by decide +kernel
theorem dX4_turn_36 : decode cX4_turn 36 = .ok (.iconst 4, 1) := by decide +kernel
theorem dX4_turn_37 : decode cX4_turn 37 = .ok (.iadd, 1) := by decide +kernel
theorem dX4_turn_38 : decode cX4_turn 38 = .ok (.iload_n 3, 1) := by decide +kernel
theorem dX4_turn_39 : decode cX4_turn 39 = .ok (.invokevirtual 63, 3) := by decide +kernel
theorem dX4_turn_42 : decode cX4_turn 42 = .ok (.goto 8, 3) := by decide +kernel
theorem dX4_turn_45 : decode cX4_turn 45 = .ok (.aload_n 0, 1) := by decide +kernel
theorem dX4_turn_46 : decode cX4_turn 46 = .ok (.iconst 2, 1) := by decide +kernel
theorem dX4_turn_47 : decode cX4_turn 47 = .ok (.invokevirtual 46, 3) := by decide +kernel
theorem dX4_turn_50 : decode cX4_turn 50 = .ok (.ireturn, 1) := by decide +kernel
set_option maxRecDepth 20000 in
theorem ggX4_setShare_X4_isIn : GoodIn wsX4_setShare wsX4_isIn := goodIn_r _ [7] (by decide +kernel) (by decide +kernel)
set_option maxRecDepth 20000 in
theorem gX4_setShare_X4_isIn : GoodIn wsX4_setShare (va_wsS RX4 42 yX4_isIn wsX4_isIn) := goodIn_app (goodIn_of _ (by decide +kernel)) ggX4_setShare_X4_isIn
set_option maxRecDepth 20000 in
theorem ggX4_setShare_X4_fail : GoodIn wsX4_setShare wsX4_fail := goodIn_r _ [11, 1, 12, 13, 14, 15, 16, 17, 18] (by decide +kernel) (by decide +kernel)
set_option maxRecDepth 20000 in
theorem gX4_setShare_X4_fail : GoodIn wsX4_setShare (wsV RX4 46 RX4 yX4_fail wsX4_fail) := goodIn_app (goodIn_of _ (by decide +kernel)) ggX4_setShare_X4_fail
theorem dX4_setShare_0 : decode cX4_setShare 0 = .ok (.aload_n 0, 1) := by decide +kernel
theorem dX4_setShare_1 : decode cX4_setShare 1 = .ok (.iconst 0, 1) := by decide +kernel
theorem dX4_setShare_2 : decode cX4_setShare 2 = .ok (.putfield 38, 3) := by decide +kernel
theorem dX4_setShare_5 : decode cX4_setShare 5 = .ok (.iload_n 1, 1) := by decide +kernel
theorem dX4_setShare_6 : decode cX4_setShare 6 = .ok (.iconst 0, 1) := by decide +kernel
theorem dX4_setShare_7 : decode cX4_setShare 7 = .ok (.aload_n 0, 1) := by decide +kernel
theorem dX4_setShare_8 : decode cX4_setShare 8 = .ok (.getfield 9, 3) := by decide +kernel
theorem dX4_setShare_11 : decode cX4_setShare 11 = .ok (.iconst 1, 1) := by decide +kernel
theorem dX4_setShare_12 : decode cX4_setShare 12 = .ok (.iaload, 1) := by decide +kernel
theorem dX4_setShare_13 : decode cX4_setShare 13 = .ok (.iconst 1, 1) := by decide +kernel
theorem dX4_setShare_14 : decode cX4_setShare 14 = .ok (.isub, 1) := by decide +kernel
theorem dX4_setShare_15 : decode cX4_setShare 15 = .ok (.invokestatic 42, 3) := by decide +kernel
theorem dX4_setShare_18 : decode cX4_setShare 18 = .ok (.ifCond .ne 9, 3) := by decide +kernel
theorem dX4_setShare_21 : decode cX4_setShare 21 = .ok (.aload_n 0, 1) := by decide +kernel
theorem dX4_setShare_22 : decode cX4_setShare 22 = .ok (.iconst 1, 1) := by decide +kernel
theorem dX4_setShare_23 : decode cX4_setShare 23 = .ok (.invokevirtual 46, 3) := by decide +kernel
theorem dX4_setShare_26 : decode cX4_setShare 26 = .ok (.ireturn, 1) := by decide +kernel
theorem dX4_setShare_27 : decode cX4_setShare 27 = .ok (.iload_n 2, 1) := by decide +kernel
theorem dX4_setShare_28 : decode cX4_setShare 28 = .ok (.iconst 0, 1) := by decide +kernel
theorem dX4_setShare_29 : decode cX4_setShare 29 = .ok (.bipush 9, 2) := by decide +kernel
theorem dX4_setShare_31 : decode cX4_setShare 31 = .ok (.invokestatic 42, 3) := by decide +kernel
theorem dX4_setShare_34 : decode cX4_setShare 34 = .ok (.ifCond .ne 9, 3) := by decide +kernel
theorem dX4_setShare_37 : decode cX4_setShare 37 = .ok (.aload_n 0, 1) := by decide +kernel
theorem dX4_setShare_38 : decode cX4_setShare 38 = .ok (.iconst 2, 1) := by decide +kernel
theorem dX4_setShare_39 : decode cX4_setShare 39 = .ok (.invokevirtual 46, 3) := by decide +kernel
theorem dX4_setShare_42 : decode cX4_setShare 42 = .ok (.ireturn, 1) := by decide +kernel
theorem dX4_setShare_43 : decode cX4_setShare 43 = .ok (.aload_n 0, 1) := by decide +kernel
theorem dX4_setShare_44 : decode cX4_setShare 44 = .ok (.getfield 13, 3) := by decide +kernel
theorem dX4_setShare_47 : decode cX4_setShare 47 = .ok (.iload_n 1, 1) := by decide +kernel
theorem dX4_setShare_48 : decode cX4_setShare 48 = .ok (.iaload, 1) := by decide +kernel
theorem dX4_setShare_49 : decode cX4_setShare 49 = .ok (.istore_n 3, 1) := by decide +kernel
theorem dX4_setShare_50 : decode cX4_setShare 50 = .ok (.aload_n 0, 1) := by decide +kernel
theorem dX4_setShare_51 : decode cX4_setShare 51 = .ok (.getfield 13, 3) := by decide +kernel
theorem dX4_setShare_54 : decode cX4_setShare 54 = .ok (.iload_n 1, 1) := by decide +kernel
theorem dX4_setShare_55 : decode cX4_setShare 55 = .ok (.iload_n 2, 1) := by decide +kernel
theorem dX4_setShare_56 : decode cX4_setShare 56 = .ok (.iastore, 1) := by decide +kernel
theorem dX4_setShare_57 : decode cX4_setShare 57 = .ok (.iload_n 3, 1) := by decide +kernel
theorem dX4_setShare_58 : decode cX4_setShare 58 = .ok (.ireturn, 1) := by decide +kernel
set_option maxRecDepth 20000 in
theorem ggX4_setDay_X4_isIn : GoodIn wsX4_setDay wsX4_isIn := goodIn_r _ [11] (by decide +kernel) (by decide +kernel)
set_option maxRecDepth 20000 in
theorem gX4_setDay_X4_isIn : GoodIn wsX4_setDay (va_wsS RX4 42 yX4_isIn wsX4_isIn) := goodIn_app (goodIn_of _ (by decide +kernel)) ggX4_setDay_X4_isIn
set_option maxRecDepth 20000 in
theorem ggX4_setDay_X4_fail : GoodIn wsX4_setDay wsX4_fail := goodIn_r _ [15, 1, 16, 17, 18, 19, 20, 21, 22] (by decide +kernel) (by decide +kernel)
set_option maxRecDepth 20000 in
theorem gX4_setDay_X4_fail : GoodIn wsX4_setDay (wsV RX4 46 RX4 yX4_fail wsX4_fail) := goodIn_app (goodIn_of _ (by decide +kernel)) ggX4_setDay_X4_fail
theorem dX4_setDay_0 : decode cX4_setDay 0 = .ok (.aload_n 0, 1) := by decide +kernel
theorem dX4_setDay_1 : decode cX4_setDay 1 = .ok (.iconst 0, 1) := by decide +kernel
theorem dX4_setDay_2 : decode cX4_setDay 2 = .ok (.putfield 38, 3) := by decide +kernel
theorem dX4_setDay_5 : decode cX4_setDay 5 = .ok (.iload_n 1, 1) := by decide +kernel
theorem dX4_setDay_6 : decode cX4_setDay 6 = .ok (.iconst 0, 1) := by decide +kernel
theorem dX4_setDay_7 : decode cX4_setDay 7 = .ok (.bipush 29, 2) := by decide +kernel
theorem dX4_setDay_9 : decode cX4_setDay 9 = .ok (.invokestatic 42, 3) := by decide +kernel
theorem dX4_setDay_12 : decode cX4_setDay 12 = .ok (.ifCond .ne 9, 3) := by decide +kernel
theorem dX4_setDay_15 : decode cX4_setDay 15 = .ok (.aload_n 0, 1) := by decide +kernel
theorem dX4_setDay_16 : decode cX4_setDay 16 = .ok (.iconst 1, 1) := by decide +kernel
theorem dX4_setDay_17 : decode cX4_setDay 17 = .ok (.invokevirtual 46, 3) := by decide +kernel
theorem dX4_setDay_20 : decode cX4_setDay 20 = .ok (.ireturn, 1) := by decide +kernel
theorem dX4_setDay_21 : decode cX4_setDay 21 = .ok (.iload_n 2, 1) := by decide +kernel
theorem dX4_setDay_22 : decode cX4_setDay 22 = .ok (.iconst 0, 1) := by decide +kernel
theorem dX4_setDay_23 : decode cX4_setDay 23 = .ok (.bipush 60, 2) := by decide +kernel
theorem dX4_setDay_25 : decode cX4_setDay 25 = .ok (.invokestatic 42, 3) := by decide +kernel
theorem dX4_setDay_28 : decode cX4_setDay 28 = .ok (.ifCond .eq 25, 3) := by decide +kernel
theorem dX4_setDay_31 : decode cX4_setDay 31 = .ok (.iload_n 3, 1) := by decide +kernel
theorem dX4_setDay_32 : decode cX4_setDay 32 = .ok (.iconst 0, 1) := by decide +kernel
theorem dX4_setDay_33 : decode cX4_setDay 33 = .ok (.sipush 400, 3) := by decide +kernel
theorem dX4_setDay_36 : decode cX4_setDay 36 = .ok (.invokestatic 42, 3) := by decide +kernel
theorem dX4_setDay_39 : decode cX4_setDay 39 = .ok (.ifCond .eq 14, 3) := by decide +kernel
theorem dX4_setDay_42 : decode cX4_setDay 42 = .ok (.iload 4, 2) := by decide +kernel
theorem dX4_setDay_44 : decode cX4_setDay 44 = .ok (.iconst 0, 1) := by decide +kernel
theorem dX4_setDay_45 : decode cX4_setDay 45 = .ok (.bipush 20, 2) := by decide +kernel
theorem dX4_setDay_47 : decode cX4_setDay 47 = .ok (.invokestatic 42, 3) := by decide +kernel
theorem dX4_setDay_50 : decode cX4_setDay 50 = .ok (.ifCond .ne 9, 3) := by decide +kernel
theorem dX4_setDay_53 : decode cX4_setDay 53 = .ok (.aload_n 0, 1) := by decide +kernel
theorem dX4_setDay_54 : decode cX4_setDay 54 = .ok (.iconst 2, 1) := by decide +kernel
theorem dX4_setDay_55 : decode cX4_setDay 55 = .ok (.invokevirtual 46, 3) := by decide +kernel
theorem dX4_setDay_58 : decode cX4_setDay 58 = .ok (.ireturn, 1) := by decide +kernel
theorem dX4_setDay_59 : decode cX4_setDay 59 = .ok (.aload_n 0, 1) := by decide +kernel
theorem dX4_setDay_60 : decode cX4_setDay 60 = .ok (.getfield 19, 3) := by decide +kernel
theorem dX4_setDay_63 : decode cX4_setDay 63 = .ok (.iconst 3, 1) := by decide +kernel
theorem dX4_setDay_64 : decode cX4_setDay 64 = .ok (.iload_n 1, 1) := by decide +kernel
theorem dX4_setDay_65 : decode cX4_setDay 65 = .ok (.imul, 1) := by decide +kernel
theorem dX4_setDay_66 : decode cX4_setDay 66 = .ok (.iconst 1, 1) := by decide +kernel
theorem dX4_setDay_67 : decode cX4_setDay 67 = .ok (.iadd, 1) := by decide +kernel
theorem dX4_setDay_68 : decode cX4_setDay 68 = .ok (.iaload, 1) := by decide +kernel
theorem dX4_setDay_69 : decode cX4_setDay 69 = .ok (.istore 5, 2) := by decide +kernel
theorem dX4_setDay_71 : decode cX4_setDay 71 = .ok (.iconst 3, 1) := by decide +kernel
theorem dX4_setDay_72 : decode cX4_setDay 72 = .ok (.newarray .int, 2) := by decide +kernel
theorem dX4_setDay_74 : decode cX4_setDay 74 = .ok (.dup, 1) := by decide +kernel
theorem dX4_setDay_75 : decode cX4_setDay 75 = .ok (.iconst 0, 1) := by decide +kernel
theorem dX4_setDay_76 : decode cX4_setDay 76 = .ok (.iload_n 2, 1) := by decide +kernel
theorem dX4_setDay_77 : decode cX4_setDay 77 = .ok (.iastore, 1) := by decide +kernel
theorem dX4_setDay_78 : decode cX4_setDay 78 = .ok (.dup, 1) := by decide +kernel
theorem dX4_setDay_79 : decode cX4_setDay 79 = .ok (.iconst 1, 1) := by decide +kernel
theorem dX4_setDay_80 : decode cX4_setDay 80 = .ok (.iload_n 3, 1) := by decide +kernel
theorem dX4_setDay_81 : decode cX4_setDay 81 = .ok (.iastore, 1) := by decide +kernel
theorem dX4_setDay_82 : decode cX4_setDay 82 = .ok (.dup, 1) := by decide +kernel
theorem dX4_setDay_83 : decode cX4_setDay 83 = .ok (.iconst 2, 1) := by decide +kernel
theorem dX4_setDay_84 : decode cX4_setDay 84 = .ok (.iload 4, 2) := by decide +kernel
theorem dX4_setDay_86 : decode cX4_setDay 86 = .ok (.iastore, 1) := by decide +kernel
theorem dX4_setDay_87 : decode cX4_setDay 87 = .ok (.astore 6, 2) := by decide +kernel
theorem dX4_setDay_89 : decode cX4_setDay 89 = .ok (.aload 6, 2) := by decide +kernel
theorem dX4_setDay_91 : decode cX4_setDay 91 = .ok (.iconst 0, 1) := by decide +kernel
theorem dX4_setDay_92 : decode cX4_setDay 92 = .ok (.aload_n 0, 1) := by decide +kernel
theorem dX4_setDay_93 : decode cX4_setDay 93 = .ok (.getfield 19, 3) := by decide +kernel
theorem dX4_setDay_96 : decode cX4_setDay 96 = .ok (.iconst 3, 1) := by decide +kernel
theorem dX4_setDay_97 : decode cX4_setDay 97 = .ok (.iload_n 1, 1) := by decide +kernel
theorem dX4_setDay_98 : decode cX4_setDay 98 = .ok (.imul, 1) := by decide +kernel
theorem dX4_setDay_99 : decode cX4_setDay 99 = .ok (.iconst 3, 1) := by decide +kernel
theorem dX4_setDay_100 : decode cX4_setDay 100 = .ok (.invokestatic 32, 3) := by decide +kernel
theorem dX4_setDay_103 : decode cX4_setDay 103 = .ok (.iload 5, 2) := by decide +kernel
theorem dX4_setDay_105 : decode cX4_setDay 105 = .ok (.ireturn, 1) := by decide +kernel
set_option maxRecDepth 20000 in
theorem ggX4_sum_X4_many : GoodIn wsX4_sum wsX4_many := goodIn_r _ [6, 7, 8, 9, 10, 11, 12, 13, 14] (by decide +kernel) (by decide +kernel)
set_option maxRecDepth 20000 in
theorem gX4_sum_X4_many : GoodIn wsX4_sum (wsV RX4 69 RX4 yX4_many wsX4_many) := goodIn_app (goodIn_of _ (by decide +kernel)) ggX4_sum_X4_many
theorem dX4_sum_0 : decode cX4_sum 0 = .ok (.iconst 0, 1) := by decide +kernel
theorem dX4_sum_1 : decode cX4_sum 1 = .ok (.istore_n 2, 1) := by decide +kernel
theorem dX4_sum_2 : decode cX4_sum 2 = .ok (.iconst 0, 1) := by decide +kernel
theorem dX4_sum_3 : decode cX4_sum 3 = .ok (.istore_n 3, 1) := by decide +kernel
theorem dX4_sum_4 : decode cX4_sum 4 = .ok (.iload_n 3, 1) := by decide +kernel
theorem dX4_sum_5 : decode cX4_sum 5 = .ok (.aload_n 0, 1) := by decide +kernel
theorem dX4_sum_6 : decode cX4_sum 6 = .ok (.invokevirtual 69, 3) := by decide +kernel
theorem dX4_sum_9 : decode cX4_sum 9 = .ok (.if_icmp .ge 23, 3) := by decide +kernel
theorem dX4_sum_12 : decode cX4_sum 12 = .ok (.iload_n 2, 1) := by decide +kernel
theorem dX4_sum_13 : decode cX4_sum 13 = .ok (.aload_n 0, 1) := by decide +kernel
theorem dX4_sum_14 : decode cX4_sum 14 = .ok (.getfield 16, 3) := by decide +kernel
theorem dX4_sum_17 : decode cX4_sum 17 = .ok (.bipush 12, 2) := by decide +kernel
theorem dX4_sum_19 : decode cX4_sum 19 = .ok (.iload_n 3, 1) := by decide +kernel
theorem dX4_sum_20 : decode cX4_sum 20 = .ok (.imul, 1) := by decide +kernel
theorem dX4_sum_21 : decode cX4_sum 21 = .ok (.iload_n 1, 1) := by decide +kernel
theorem dX4_sum_22 : decode cX4_sum 22 = .ok (.iadd, 1) := by decide +kernel
theorem dX4_sum_23 : decode cX4_sum 23 = .ok (.iaload, 1) := by decide +kernel
theorem dX4_sum_24 : decode cX4_sum 24 = .ok (.iadd, 1) := by decide +kernel
theorem dX4_sum_25 : decode cX4_sum 25 = .ok (.istore_n 2, 1) := by decide +kernel
theorem dX4_sum_26 : decode cX4_sum 26 = .ok (.iinc 3 1, 3) := by decide +kernel
theorem dX4_sum_29 : decode cX4_sum 29 = .ok (.goto (-25), 3) := by decide +kernel
theorem dX4_sum_32 : decode cX4_sum 32 = .ok (.iload_n 2, 1) := by decide +kernel
theorem dX4_sum_33 : decode cX4_sum 33 = .ok (.ireturn, 1) := by decide +kernel
theorem dX4_fallow_0 : decode cX4_fallow 0 = .ok (.iconst 5, 1) := by decide +kernel
theorem dX4_fallow_1 : decode cX4_fallow 1 = .ok (.istore_n 2, 1) := by decide +kernel
theorem dX4_fallow_2 : decode cX4_fallow 2 = .ok (.iload_n 2, 1) := by decide +kernel
theorem dX4_fallow_3 : decode cX4_fallow 3 = .ok (.bipush 9, 2) := by decide +kernel
theorem dX4_fallow_5 : decode cX4_fallow 5 = .ok (.if_icmp .gt 18, 3) := by decide +kernel
theorem dX4_fallow_8 : decode cX4_fallow 8 = .ok (.aload_n 0, 1) := by decide +kernel
theorem dX4_fallow_9 : decode cX4_fallow 9 = .ok (.getfield 16, 3) := by decide +kernel
theorem dX4_fallow_12 : decode cX4_fallow 12 = .ok (.iload_n 1, 1) := by decide +kernel
theorem dX4_fallow_13 : decode cX4_fallow 13 = .ok (.iload_n 2, 1) := by decide +kernel
theorem dX4_fallow_14 : decode cX4_fallow 14 = .ok (.iadd, 1) := by decide +kernel
theorem dX4_fallow_15 : decode cX4_fallow 15 = .ok (.iconst 0, 1) := by decide +kernel
theorem dX4_fallow_16 : decode cX4_fallow 16 = .ok (.iastore, 1) := by decide +kernel
theorem dX4_fallow_17 : decode cX4_fallow 17 = .ok (.iinc 2 1, 3) := by decide +kernel
theorem dX4_fallow_20 : decode cX4_fallow 20 = .ok (.goto (-18), 3) := by decide +kernel
theorem dX4_fallow_23 : decode cX4_fallow 23 = .ok (.return_, 1) := by decide +kernel
set_option maxRecDepth 20000 in
theorem ggX4_plant_X4_isField : GoodIn wsX4_plant wsX4_isField := goodIn_r _ [7, 8, 9, 10, 6, 11, 28, 29, 30, 31, 32, 33, 34] (by decide +kernel) (by decide +kernel)
set_option maxRecDepth 20000 in
theorem gX4_plant_X4_isField : GoodIn wsX4_plant (wsV RX4 50 RX4 yX4_isField wsX4_isField) := goodIn_app (goodIn_of _ (by decide +kernel)) ggX4_plant_X4_isField
set_option maxRecDepth 20000 in
theorem ggX4_plant_X4_fail : GoodIn wsX4_plant wsX4_fail := goodIn_r _ [15, 1, 28, 29, 30, 31, 32, 33, 34] (by decide +kernel) (by decide +kernel)
set_option maxRecDepth 20000 in
theorem gX4_plant_X4_fail : GoodIn wsX4_plant (wsV RX4 46 RX4 yX4_fail wsX4_fail) := goodIn_app (goodIn_of _ (by decide +kernel)) ggX4_plant_X4_fail
set_option maxRecDepth 20000 in
theorem ggX4_plant_X4_isIn : GoodIn wsX4_plant wsX4_isIn := goodIn_r _ [11] (by decide +kernel) (by decide +kernel)
set_option maxRecDepth 20000 in
theorem gX4_plant_X4_isIn : GoodIn wsX4_plant (va_wsS RX4 42 yX4_isIn wsX4_isIn) := goodIn_app (goodIn_of _ (by decide +kernel)) ggX4_plant_X4_isIn
set_option maxRecDepth 20000 in
theorem ggX4_plant_X4_at : GoodIn wsX4_plant wsX4_at := goodIn_r _ [19, 8, 28, 29, 30, 31, 32, 33, 34] (by decide +kernel) (by decide +kernel)
set_option maxRecDepth 20000 in
theorem gX4_plant_X4_at : GoodIn wsX4_plant (wsV RX4 54 RX4 yX4_at wsX4_at) := goodIn_app (goodIn_of _ (by decide +kernel)) ggX4_plant_X4_at
set_option maxRecDepth 20000 in
theorem ggX4_plant_X4_sum : GoodIn wsX4_plant wsX4_sum := goodIn_r _ [23, 2, 24, 25, 26, 6, 27, 8, 28, 29, 30, 31, 32, 33, 34] (by decide +kernel) (by decide +kernel)
set_option maxRecDepth 20000 in
theorem gX4_plant_X4_sum : GoodIn wsX4_plant (wsV RX4 73 RX4 yX4_sum wsX4_sum) := goodIn_app (goodIn_of _ (by decide +kernel)) ggX4_plant_X4_sum
theorem dX4_plant_0 : decode cX4_plant 0 = .ok (.aload_n 0, 1) := by decide +kernel
theorem dX4_plant_1 : decode cX4_plant 1 = .ok (.iconst 0, 1) := by decide +kernel
theorem dX4_plant_2 : decode cX4_plant 2 = .ok (.putfield 38, 3) := by decide +kernel
theorem dX4_plant_5 : decode cX4_plant 5 = .ok (.aload_n 0, 1) := by decide +kernel
theorem dX4_plant_6 : decode cX4_plant 6 = .ok (.iload_n 1, 1) := by decide +kernel
theorem dX4_plant_7 : decode cX4_plant 7 = .ok (.iload_n 2, 1) := by decide +kernel
theorem dX4_plant_8 : decode cX4_plant 8 = .ok (.invokevirtual 50, 3) := by decide +kernel
theorem dX4_plant_11 : decode cX4_plant 11 = .ok (.ifCond .ne 9, 3) := by decide +kernel
theorem dX4_plant_14 : decode cX4_plant 14 = .ok (.aload_n 0, 1) := by decide +kernel
theorem dX4_plant_15 : decode cX4_plant 15 = .ok (.iconst 1, 1) := by decide +kernel
theorem dX4_plant_16 : decode cX4_plant 16 = .ok (.invokevirtual 46, 3) := by decide +kernel
theorem dX4_plant_19 : decode cX4_plant 19 = .ok (.ireturn, 1) := by decide +kernel
theorem dX4_plant_20 : decode cX4_plant 20 = .ok (.iload_n 3, 1) := by decide +kernel
theorem dX4_plant_21 : decode cX4_plant 21 = .ok (.iconst 0, 1) := by decide +kernel
theorem dX4_plant_22 : decode cX4_plant 22 = .ok (.bipush 20, 2) := by decide +kernel
theorem dX4_plant_24 : decode cX4_plant 24 = .ok (.invokestatic 42, 3) := by decide +kernel
theorem dX4_plant_27 : decode cX4_plant 27 = .ok (.ifCond .ne 9, 3) := by decide +kernel
theorem dX4_plant_30 : decode cX4_plant 30 = .ok (.aload_n 0, 1) := by decide +kernel
theorem dX4_plant_31 : decode cX4_plant 31 = .ok (.iconst 2, 1) := by decide +kernel
theorem dX4_plant_32 : decode cX4_plant 32 = .ok (.invokevirtual 46, 3) := by decide +kernel
theorem dX4_plant_35 : decode cX4_plant 35 = .ok (.ireturn, 1) := by decide +kernel
theorem dX4_plant_36 : decode cX4_plant 36 = .ok (.aload_n 0, 1) := by decide +kernel
theorem dX4_plant_37 : decode cX4_plant 37 = .ok (.iload_n 1, 1) := by decide +kernel
theorem dX4_plant_38 : decode cX4_plant 38 = .ok (.iload_n 2, 1) := by decide +kernel
theorem dX4_plant_39 : decode cX4_plant 39 = .ok (.invokevirtual 54, 3) := by decide +kernel
theorem dX4_plant_42 : decode cX4_plant 42 = .ok (.istore 4, 2) := by decide +kernel
theorem dX4_plant_44 : decode cX4_plant 44 = .ok (.aload_n 0, 1) := by decide +kernel
theorem dX4_plant_45 : decode cX4_plant 45 = .ok (.getfield 16, 3) := by decide +kernel
theorem dX4_plant_48 : decode cX4_plant 48 = .ok (.iload 4, 2) := by decide +kernel
theorem dX4_plant_50 : decode cX4_plant 50 = .ok (.iconst 5, 1) := by decide +kernel
theorem dX4_plant_51 : decode cX4_plant 51 = .ok (.iadd, 1) := by decide +kernel
theorem dX4_plant_52 : decode cX4_plant 52 = .ok (.iaload, 1) := by decide +kernel
theorem dX4_plant_53 : decode cX4_plant 53 = .ok (.iconst 1, 1) := by decide +kernel
theorem dX4_plant_54 : decode cX4_plant 54 = .ok (.if_icmp .eq 17, 3) := by decide +kernel
theorem dX4_plant_57 : decode cX4_plant 57 = .ok (.aload_n 0, 1) := by decide +kernel
theorem dX4_plant_58 : decode cX4_plant 58 = .ok (.getfield 16, 3) := by decide +kernel
theorem dX4_plant_61 : decode cX4_plant 61 = .ok (.iload 4, 2) := by decide +kernel
theorem dX4_plant_63 : decode cX4_plant 63 = .ok (.iconst 0, 1) := by decide +kernel
theorem dX4_plant_64 : decode cX4_plant 64 = .ok (.iadd, 1) := by decide +kernel
theorem dX4_plant_65 : decode cX4_plant 65 = .ok (.iaload, 1) := by decide +kernel
theorem dX4_plant_66 : decode cX4_plant 66 = .ok (.bipush 40, 2) := by decide +kernel
theorem dX4_plant_68 : decode cX4_plant 68 = .ok (.if_icmp .le 9, 3) := by decide +kernel
theorem dX4_plant_71 : decode cX4_plant 71 = .ok (.aload_n 0, 1) := by decide +kernel
theorem dX4_plant_72 : decode cX4_plant 72 = .ok (.iconst 3, 1) := by decide +kernel
theorem dX4_plant_73 : decode cX4_plant 73 = .ok (.invokevirtual 46, 3) := by decide +kernel
theorem dX4_plant_76 : decode cX4_plant 76 = .ok (.ireturn, 1) := by decide +kernel
theorem dX4_plant_77 : decode cX4_plant 77 = .ok (.aload_n 0, 1) := by decide +kernel
theorem dX4_plant_78 : decode cX4_plant 78 = .ok (.getfield 16, 3) := by decide +kernel
theorem dX4_plant_81 : decode cX4_plant 81 = .ok (.iload 4, 2) := by decide +kernel
theorem dX4_plant_83 : decode cX4_plant 83 = .ok (.iconst 5, 1) := by decide +kernel
theorem dX4_plant_84 : decode cX4_plant 84 = .ok (.iadd, 1) := by decide +kernel
theorem dX4_plant_85 : decode cX4_plant 85 = .ok (.iconst 1, 1) := by decide +kernel
theorem dX4_plant_86 : decode cX4_plant 86 = .ok (.iastore, 1) := by decide +kernel
theorem dX4_plant_87 : decode cX4_plant 87 = .ok (.aload_n 0, 1) := by decide +kernel
theorem dX4_plant_88 : decode cX4_plant 88 = .ok (.getfield 16, 3) := by decide +kernel
theorem dX4_plant_91 : decode cX4_plant 91 = .ok (.iload 4, 2) := by decide +kernel
theorem dX4_plant_93 : decode cX4_plant 93 = .ok (.bipush 6, 2) := by decide +kernel
theorem dX4_plant_95 : decode cX4_plant 95 = .ok (.iadd, 1) := by decide +kernel
theorem dX4_plant_96 : decode cX4_plant 96 = .ok (.iload_n 3, 1) := by decide +kernel
theorem dX4_plant_97 : decode cX4_plant 97 = .ok (.iastore, 1) := by decide +kernel
theorem dX4_plant_98 : decode cX4_plant 98 = .ok (.aload_n 0, 1) := by decide +kernel
theorem dX4_plant_99 : decode cX4_plant 99 = .ok (.iconst 5, 1) := by decide +kernel
theorem dX4_plant_100 : decode cX4_plant 100 = .ok (.invokevirtual 73, 3) := by decide +kernel
theorem dX4_plant_103 : decode cX4_plant 103 = .ok (.ireturn, 1) := by decide +kernel
set_option maxRecDepth 20000 in
theorem ggX4_reap_X4_isField : GoodIn wsX4_reap wsX4_isField := goodIn_r _ [8, 3, 9, 10, 7, 11, 24, 25, 26, 27, 28, 29, 30] (by decide +kernel) (by decide +kernel)
set_option maxRecDepth 20000 in
theorem gX4_reap_X4_isField : GoodIn wsX4_reap (wsV RX4 50 RX4 yX4_isField wsX4_isField) := goodIn_app (goodIn_of _ (by decide +kernel)) ggX4_reap_X4_isField
set_option maxRecDepth 20000 in
theorem ggX4_reap_X4_fail : GoodIn wsX4_reap wsX4_fail := goodIn_r _ [15, 1, 24, 25, 26, 27, 28, 29, 30] (by decide +kernel) (by decide +kernel)
set_option maxRecDepth 20000 in
theorem gX4_reap_X4_fail : GoodIn wsX4_reap (wsV RX4 46 RX4 yX4_fail wsX4_fail) := goodIn_app (goodIn_of _ (by decide +kernel)) ggX4_reap_X4_fail
set_option maxRecDepth 20000 in
theorem ggX4_reap_X4_at : GoodIn wsX4_reap wsX4_at := goodIn_r _ [19, 3, 24, 25, 26, 27, 28, 29, 30] (by decide +kernel) (by decide +kernel)
set_option maxRecDepth 20000 in
theorem gX4_reap_X4_at : GoodIn wsX4_reap (wsV RX4 54 RX4 yX4_at wsX4_at) := goodIn_app (goodIn_of _ (by decide +kernel)) ggX4_reap_X4_at
set_option maxRecDepth 20000 in
theorem ggX4_reap_X4_fallow : GoodIn wsX4_reap wsX4_fallow := goodIn_r _ [23, 2, 24, 25, 26, 27, 28, 29, 30] (by decide +kernel) (by decide +kernel)
set_option maxRecDepth 20000 in
theorem gX4_reap_X4_fallow : GoodIn wsX4_reap (wsV RX4 76 RX4 yX4_fallow wsX4_fallow) := goodIn_app (goodIn_of _ (by decide +kernel)) ggX4_reap_X4_fallow
theorem dX4_reap_0 : decode cX4_reap 0 = .ok (.aload_n 0, 1) := by decide +kernel
theorem dX4_reap_1 : decode cX4_reap 1 = .ok (.iconst 0, 1) := by decide +kernel
theorem dX4_reap_2 : decode cX4_reap 2 = .ok (.putfield 38, 3) := by decide +kernel
theorem dX4_reap_5 : decode cX4_reap 5 = .ok (.aload_n 0, 1) := by decide +kernel
theorem dX4_reap_6 : decode cX4_reap 6 = .ok (.iload_n 1, 1) := by decide +kernel
theorem dX4_reap_7 : decode cX4_reap 7 = .ok (.iload_n 2, 1) := by decide +kernel
theorem dX4_reap_8 : decode cX4_reap 8 = .ok (.invokevirtual 50, 3) := by decide +kernel
theorem dX4_reap_11 : decode cX4_reap 11 = .ok (.ifCond .ne 9, 3) := by decide +kernel
theorem dX4_reap_14 : decode cX4_reap 14 = .ok (.aload_n 0, 1) := by decide +kernel
theorem dX4_reap_15 : decode cX4_reap 15 = .ok (.iconst 1, 1) := by decide +kernel
theorem dX4_reap_16 : decode cX4_reap 16 = .ok (.invokevirtual 46, 3) := by decide +kernel
theorem dX4_reap_19 : decode cX4_reap 19 = .ok (.ireturn, 1) := by decide +kernel
theorem dX4_reap_20 : decode cX4_reap 20 = .ok (.aload_n 0, 1) := by decide +kernel
theorem dX4_reap_21 : decode cX4_reap 21 = .ok (.iload_n 1, 1) := by decide +kernel
theorem dX4_reap_22 : decode cX4_reap 22 = .ok (.iload_n 2, 1) := by decide +kernel
theorem dX4_reap_23 : decode cX4_reap 23 = .ok (.invokevirtual 54, 3) := by decide +kernel
theorem dX4_reap_26 : decode cX4_reap 26 = .ok (.istore_n 3, 1) := by decide +kernel
theorem dX4_reap_27 : decode cX4_reap 27 = .ok (.aload_n 0, 1) := by decide +kernel
theorem dX4_reap_28 : decode cX4_reap 28 = .ok (.getfield 16, 3) := by decide +kernel
theorem dX4_reap_31 : decode cX4_reap 31 = .ok (.iload_n 3, 1) := by decide +kernel
theorem dX4_reap_32 : decode cX4_reap 32 = .ok (.iconst 5, 1) := by decide +kernel
theorem dX4_reap_33 : decode cX4_reap 33 = .ok (.iadd, 1) := by decide +kernel
theorem dX4_reap_34 : decode cX4_reap 34 = .ok (.iaload, 1) := by decide +kernel
theorem dX4_reap_35 : decode cX4_reap 35 = .ok (.ifCond .eq 17, 3) := by decide +kernel
theorem dX4_reap_38 : decode cX4_reap 38 = .ok (.aload_n 0, 1) := by decide +kernel
theorem dX4_reap_39 : decode cX4_reap 39 = .ok (.getfield 16, 3) := by decide +kernel
theorem dX4_reap_42 : decode cX4_reap 42 = .ok (.iload_n 3, 1) := by decide +kernel
theorem dX4_reap_43 : decode cX4_reap 43 = .ok (.bipush 6, 2) := by decide +kernel
theorem dX4_reap_45 : decode cX4_reap 45 = .ok (.iadd, 1) := by decide +kernel
theorem dX4_reap_46 : decode cX4_reap 46 = .ok (.iaload, 1) := by decide +kernel
theorem dX4_reap_47 : decode cX4_reap 47 = .ok (.bipush 40, 2) := by decide +kernel
theorem dX4_reap_49 : decode cX4_reap 49 = .ok (.if_icmp .ge 9, 3) := by decide +kernel
theorem dX4_reap_52 : decode cX4_reap 52 = .ok (.aload_n 0, 1) := by decide +kernel
theorem dX4_reap_53 : decode cX4_reap 53 = .ok (.iconst 2, 1) := by decide +kernel
theorem dX4_reap_54 : decode cX4_reap 54 = .ok (.invokevirtual 46, 3) := by decide +kernel
theorem dX4_reap_57 : decode cX4_reap 57 = .ok (.ireturn, 1) := by decide +kernel
theorem dX4_reap_58 : decode cX4_reap 58 = .ok (.aload_n 0, 1) := by decide +kernel
theorem dX4_reap_59 : decode cX4_reap 59 = .ok (.getfield 16, 3) := by decide +kernel
theorem dX4_reap_62 : decode cX4_reap 62 = .ok (.iload_n 3, 1) := by decide +kernel
theorem dX4_reap_63 : decode cX4_reap 63 = .ok (.bipush 6, 2) := by decide +kernel
theorem dX4_reap_65 : decode cX4_reap 65 = .ok (.iadd, 1) := by decide +kernel
theorem dX4_reap_66 : decode cX4_reap 66 = .ok (.iaload, 1) := by decide +kernel
theorem dX4_reap_67 : decode cX4_reap 67 = .ok (.aload_n 0, 1) := by decide +kernel
theorem dX4_reap_68 : decode cX4_reap 68 = .ok (.getfield 16, 3) := by decide +kernel
theorem dX4_reap_71 : decode cX4_reap 71 = .ok (.iload_n 3, 1) := by decide +kernel
theorem dX4_reap_72 : decode cX4_reap 72 = .ok (.bipush 7, 2) := by decide +kernel
theorem dX4_reap_74 : decode cX4_reap 74 = .ok (.iadd, 1) := by decide +kernel
theorem dX4_reap_75 : decode cX4_reap 75 = .ok (.iaload, 1) := by decide +kernel
theorem dX4_reap_76 : decode cX4_reap 76 = .ok (.imul, 1) := by decide +kernel
theorem dX4_reap_77 : decode cX4_reap 77 = .ok (.bipush 100, 2) := by decide +kernel
theorem dX4_reap_79 : decode cX4_reap 79 = .ok (.idiv, 1) := by decide +kernel
theorem dX4_reap_80 : decode cX4_reap 80 = .ok (.istore 4, 2) := by decide +kernel
theorem dX4_reap_82 : decode cX4_reap 82 = .ok (.aload_n 0, 1) := by decide +kernel
theorem dX4_reap_83 : decode cX4_reap 83 = .ok (.getfield 16, 3) := by decide +kernel
theorem dX4_reap_86 : decode cX4_reap 86 = .ok (.iload_n 3, 1) := by decide +kernel
theorem dX4_reap_87 : decode cX4_reap 87 = .ok (.iconst 0, 1) := by decide +kernel
theorem dX4_reap_88 : decode cX4_reap 88 = .ok (.iadd, 1) := by decide +kernel
theorem dX4_reap_89 : decode cX4_reap 89 = .ok (.iaload, 1) := by decide +kernel
theorem dX4_reap_90 : decode cX4_reap 90 = .ok (.ifCond .ne 12, 3) := by decide +kernel
theorem dX4_reap_93 : decode cX4_reap 93 = .ok (.iload 4, 2) := by decide +kernel
theorem dX4_reap_95 : decode cX4_reap 95 = .ok (.iload 4, 2) := by decide +kernel
theorem dX4_reap_97 : decode cX4_reap 97 = .ok (.iconst 2, 1) := by decide +kernel
theorem dX4_reap_98 : decode cX4_reap 98 = .ok (.idiv, 1) := by decide +kernel
theorem dX4_reap_99 : decode cX4_reap 99 = .ok (.iadd, 1) := by decide +kernel
theorem dX4_reap_100 : decode cX4_reap 100 = .ok (.istore 4, 2) := by decide +kernel
theorem dX4_reap_102 : decode cX4_reap 102 = .ok (.aload_n 0, 1) := by decide +kernel
theorem dX4_reap_103 : decode cX4_reap 103 = .ok (.iload_n 3, 1) := by decide +kernel
theorem dX4_reap_104 : decode cX4_reap 104 = .ok (.invokevirtual 76, 3) := by decide +kernel
theorem dX4_reap_107 : decode cX4_reap 107 = .ok (.aload_n 0, 1) := by decide +kernel
theorem dX4_reap_108 : decode cX4_reap 108 = .ok (.getfield 9, 3) := by decide +kernel
theorem dX4_reap_111 : decode cX4_reap 111 = .ok (.iconst 4, 1) := by decide +kernel
theorem dX4_reap_112 : decode cX4_reap 112 = .ok (.dup2, 1) := by decide +kernel
theorem dX4_reap_113 : decode cX4_reap 113 = .ok (.iaload, 1) := by decide +kernel
theorem dX4_reap_114 : decode cX4_reap 114 = .ok (.iload 4, 2) := by decide +kernel
theorem dX4_reap_116 : decode cX4_reap 116 = .ok (.iadd, 1) := by decide +kernel
theorem dX4_reap_117 : decode cX4_reap 117 = .ok (.iastore, 1) := by decide +kernel
theorem dX4_reap_118 : decode cX4_reap 118 = .ok (.iload 4, 2) := by decide +kernel
theorem dX4_reap_120 : decode cX4_reap 120 = .ok (.ireturn, 1) := by decide +kernel
set_option maxRecDepth 20000 in
theorem ggX4_come_X4_isField : GoodIn wsX4_come wsX4_isField := goodIn_r _ [7, 2, 8, 9, 6, 10, 15, 16, 17, 18, 19, 20, 21] (by decide +kernel) (by decide +kernel)
set_option maxRecDepth 20000 in
theorem gX4_come_X4_isField : GoodIn wsX4_come (wsV RX4 50 RX4 yX4_isField wsX4_isField) := goodIn_app (goodIn_of _ (by decide +kernel)) ggX4_come_X4_isField
set_option maxRecDepth 20000 in
theorem ggX4_come_X4_at : GoodIn wsX4_come wsX4_at := goodIn_r _ [14, 2, 15, 16, 17, 18, 19, 20, 21] (by decide +kernel) (by decide +kernel)
set_option maxRecDepth 20000 in
theorem gX4_come_X4_at : GoodIn wsX4_come (wsV RX4 54 RX4 yX4_at wsX4_at) := goodIn_app (goodIn_of _ (by decide +kernel)) ggX4_come_X4_at
theorem dX4_come_0 : decode cX4_come 0 = .ok (.aload_n 0, 1) := by decide +kernel
theorem dX4_come_1 : decode cX4_come 1 = .ok (.iload_n 1, 1) := by decide +kernel
theorem dX4_come_2 : decode cX4_come 2 = .ok (.iload_n 2, 1) := by decide +kernel
theorem dX4_come_3 : decode cX4_come 3 = .ok (.invokevirtual 50, 3) := by decide +kernel
theorem dX4_come_6 : decode cX4_come 6 = .ok (.ifCond .eq 23, 3) := by decide +kernel
theorem dX4_come_9 : decode cX4_come 9 = .ok (.aload_n 0, 1) := by decide +kernel
theorem dX4_come_10 : decode cX4_come 10 = .ok (.getfield 16, 3) := by decide +kernel
theorem dX4_come_13 : decode cX4_come 13 = .ok (.aload_n 0, 1) := by decide +kernel
theorem dX4_come_14 : decode cX4_come 14 = .ok (.iload_n 1, 1) := by decide +kernel
theorem dX4_come_15 : decode cX4_come 15 = .ok (.iload_n 2, 1) := by decide +kernel
theorem dX4_come_16 : decode cX4_come 16 = .ok (.invokevirtual 54, 3) := by decide +kernel
theorem dX4_come_19 : decode cX4_come 19 = .ok (.iconst 0, 1) := by decide +kernel
theorem dX4_come_20 : decode cX4_come 20 = .ok (.iadd, 1) := by decide +kernel
theorem dX4_come_21 : decode cX4_come 21 = .ok (.dup2, 1) := by decide +kernel
theorem dX4_come_22 : decode cX4_come 22 = .ok (.iaload, 1) := by decide +kernel
theorem dX4_come_23 : decode cX4_come 23 = .ok (.iload_n 3, 1) := by decide +kernel
theorem dX4_come_24 : decode cX4_come 24 = .ok (.iadd, 1) := by decide +kernel
theorem dX4_come_25 : decode cX4_come 25 = .ok (.iastore, 1) := by decide +kernel
theorem dX4_come_26 : decode cX4_come 26 = .ok (.goto 13, 3) := by decide +kernel
theorem dX4_come_29 : decode cX4_come 29 = .ok (.aload_n 0, 1) := by decide +kernel
theorem dX4_come_30 : decode cX4_come 30 = .ok (.getfield 9, 3) := by decide +kernel
theorem dX4_come_33 : decode cX4_come 33 = .ok (.iconst 3, 1) := by decide +kernel
theorem dX4_come_34 : decode cX4_come 34 = .ok (.dup2, 1) := by decide +kernel
theorem dX4_come_35 : decode cX4_come 35 = .ok (.iaload, 1) := by decide +kernel
theorem dX4_come_36 : decode cX4_come 36 = .ok (.iload_n 3, 1) := by decide +kernel
theorem dX4_come_37 : decode cX4_come 37 = .ok (.iadd, 1) := by decide +kernel
theorem dX4_come_38 : decode cX4_come 38 = .ok (.iastore, 1) := by decide +kernel
theorem dX4_come_39 : decode cX4_come 39 = .ok (.return_, 1) := by decide +kernel
set_option maxRecDepth 20000 in
theorem ggX4_flow_X4_at : GoodIn wsX4_flow wsX4_at := goodIn_r _ [13, 14, 26, 27, 28, 29, 30, 31, 32] (by decide +kernel) (by decide +kernel)
set_option maxRecDepth 20000 in
theorem gX4_flow_X4_at : GoodIn wsX4_flow (wsV RX4 54 RX4 yX4_at wsX4_at) := goodIn_app (goodIn_of _ (by decide +kernel)) ggX4_flow_X4_at
set_option maxRecDepth 20000 in
theorem ggX4_flow_X4_come : GoodIn wsX4_flow wsX4_come := goodIn_r _ [18, 1, 14, 19, 20, 21, 12, 22, 23, 24, 25, 9, 10, 11, 13, 26, 27, 28, 29, 30, 31, 32] (by decide +kernel) (by decide +kernel)
set_option maxRecDepth 20000 in
theorem gX4_flow_X4_come : GoodIn wsX4_flow (wsV RX4 83 RX4 yX4_come wsX4_come) := goodIn_app (goodIn_of _ (by decide +kernel)) ggX4_flow_X4_come
theorem dX4_flow_0 : decode cX4_flow 0 = .ok (.aload_n 0, 1) := by decide +kernel
theorem dX4_flow_1 : decode cX4_flow 1 = .ok (.iload_n 1, 1) := by decide +kernel
theorem dX4_flow_2 : decode cX4_flow 2 = .ok (.iload_n 2, 1) := by decide +kernel
theorem dX4_flow_3 : decode cX4_flow 3 = .ok (.invokevirtual 54, 3) := by decide +kernel
theorem dX4_flow_6 : decode cX4_flow 6 = .ok (.istore_n 3, 1) := by decide +kernel
theorem dX4_flow_7 : decode cX4_flow 7 = .ok (.iconst 0, 1) := by decide +kernel
theorem dX4_flow_8 : decode cX4_flow 8 = .ok (.bipush 40, 2) := by decide +kernel
theorem dX4_flow_10 : decode cX4_flow 10 = .ok (.aload_n 0, 1) := by decide +kernel
theorem dX4_flow_11 : decode cX4_flow 11 = .ok (.getfield 16, 3) := by decide +kernel
theorem dX4_flow_14 : decode cX4_flow 14 = .ok (.iload_n 3, 1) := by decide +kernel
theorem dX4_flow_15 : decode cX4_flow 15 = .ok (.iconst 0, 1) := by decide +kernel
theorem dX4_flow_16 : decode cX4_flow 16 = .ok (.iadd, 1) := by decide +kernel
theorem dX4_flow_17 : decode cX4_flow 17 = .ok (.iaload, 1) := by decide +kernel
theorem dX4_flow_18 : decode cX4_flow 18 = .ok (.aload_n 0, 1) := by decide +kernel
theorem dX4_flow_19 : decode cX4_flow 19 = .ok (.getfield 16, 3) := by decide +kernel
theorem dX4_flow_22 : decode cX4_flow 22 = .ok (.iload_n 3, 1) := by decide +kernel
theorem dX4_flow_23 : decode cX4_flow 23 = .ok (.iconst 3, 1) := by decide +kernel
theorem dX4_flow_24 : decode cX4_flow 24 = .ok (.iadd, 1) := by decide +kernel
theorem dX4_flow_25 : decode cX4_flow 25 = .ok (.iaload, 1) := by decide +kernel
theorem dX4_flow_26 : decode cX4_flow 26 = .ok (.isub, 1) := by decide +kernel
theorem dX4_flow_27 : decode cX4_flow 27 = .ok (.invokestatic 58, 3) := by decide +kernel
theorem dX4_flow_30 : decode cX4_flow 30 = .ok (.invokestatic 80, 3) := by decide +kernel
theorem dX4_flow_33 : decode cX4_flow 33 = .ok (.istore 4, 2) := by decide +kernel
theorem dX4_flow_35 : decode cX4_flow 35 = .ok (.aload_n 0, 1) := by decide +kernel
theorem dX4_flow_36 : decode cX4_flow 36 = .ok (.getfield 16, 3) := by decide +kernel
theorem dX4_flow_39 : decode cX4_flow 39 = .ok (.iload_n 3, 1) := by decide +kernel
theorem dX4_flow_40 : decode cX4_flow 40 = .ok (.iconst 0, 1) := by decide +kernel
theorem dX4_flow_41 : decode cX4_flow 41 = .ok (.iadd, 1) := by decide +kernel
theorem dX4_flow_42 : decode cX4_flow 42 = .ok (.dup2, 1) := by decide +kernel
theorem dX4_flow_43 : decode cX4_flow 43 = .ok (.iaload, 1) := by decide +kernel
theorem dX4_flow_44 : decode cX4_flow 44 = .ok (.iload 4, 2) := by decide +kernel
theorem dX4_flow_46 : decode cX4_flow 46 = .ok (.isub, 1) := by decide +kernel
theorem dX4_flow_47 : decode cX4_flow 47 = .ok (.iastore, 1) := by decide +kernel
theorem dX4_flow_48 : decode cX4_flow 48 = .ok (.aload_n 0, 1) := by decide +kernel
theorem dX4_flow_49 : decode cX4_flow 49 = .ok (.getfield 16, 3) := by decide +kernel
theorem dX4_flow_52 : decode cX4_flow 52 = .ok (.iload_n 3, 1) := by decide +kernel
theorem dX4_flow_53 : decode cX4_flow 53 = .ok (.bipush 10, 2) := by decide +kernel
theorem dX4_flow_55 : decode cX4_flow 55 = .ok (.iadd, 1) := by decide +kernel
theorem dX4_flow_56 : decode cX4_flow 56 = .ok (.iload 4, 2) := by decide +kernel
theorem dX4_flow_58 : decode cX4_flow 58 = .ok (.iastore, 1) := by decide +kernel
theorem dX4_flow_59 : decode cX4_flow 59 = .ok (.aload_n 0, 1) := by decide +kernel
theorem dX4_flow_60 : decode cX4_flow 60 = .ok (.iload_n 1, 1) := by decide +kernel
theorem dX4_flow_61 : decode cX4_flow 61 = .ok (.iconst 1, 1) := by decide +kernel
theorem dX4_flow_62 : decode cX4_flow 62 = .ok (.iadd, 1) := by decide +kernel
theorem dX4_flow_63 : decode cX4_flow 63 = .ok (.iload_n 2, 1) := by decide +kernel
theorem dX4_flow_64 : decode cX4_flow 64 = .ok (.aload_n 0, 1) := by decide +kernel
theorem dX4_flow_65 : decode cX4_flow 65 = .ok (.getfield 16, 3) := by decide +kernel
theorem dX4_flow_68 : decode cX4_flow 68 = .ok (.iload_n 3, 1) := by decide +kernel
theorem dX4_flow_69 : decode cX4_flow 69 = .ok (.iconst 4, 1) := by decide +kernel
theorem dX4_flow_70 : decode cX4_flow 70 = .ok (.iadd, 1) := by decide +kernel
theorem dX4_flow_71 : decode cX4_flow 71 = .ok (.iaload, 1) := by decide +kernel
theorem dX4_flow_72 : decode cX4_flow 72 = .ok (.iadd, 1) := by decide +kernel
