set_option maxRecDepth 20000 in
theorem ggX3_init_X0_init : GoodIn wsX3_init wsX0_init := goodIn_r _ [19, 20, 2, 3, 21, 22, 23, 24, 25, 26, 27, 28, 63, 64, 65] (by decide +kernel) (by decide +kernel)
set_option maxRecDepth 20000 in
theorem gX3_init_X0_init : GoodIn wsX3_init (wsX0_init) := ggX3_init_X0_init
set_option maxRecDepth 20000 in
theorem ggX3_init_X2_init : GoodIn wsX3_init wsX2_init := goodIn_r _ [31, 32, 2, 3, 21, 33, 34, 35, 36, 37, 38, 39, 40, 41, 42, 43, 44, 45, 46, 47, 48, 10, 49, 50, 51, 52, 53, 54, 55, 26, 27, 28, 56, 57, 58, 59, 72, 73, 74, 75, 76, 77, 78, 79, 80, 81, 82, 83, 84, 85, 86, 87, 88, 89] (by decide +kernel) (by decide +kernel)
set_option maxRecDepth 20000 in
theorem gX3_init_X2_init : GoodIn wsX3_init (wsX2_init) := ggX3_init_X2_init
set_option maxRecDepth 20000 in
theorem ggX3_init_X1_init : GoodIn wsX3_init wsX1_init := goodIn_r _ [61, 62, 2, 3] (by decide +kernel) (by decide +kernel)
set_option maxRecDepth 20000 in
theorem gX3_init_X1_init_n30 : GoodIn wsX3_init (wsX1_init) := ggX3_init_X1_init
theorem dX3_init_0 : decode cX3_init 0 = .ok (.aload_n 0, 1) := by decide +kernel
theorem dX3_init_1 : decode cX3_init 1 = .ok (.invokespecial 1, 3) := by decide +kernel
theorem dX3_init_4 : decode cX3_init 4 = .ok (.aload_n 0, 1) := by decide +kernel
theorem dX3_init_5 : decode cX3_init 5 = .ok (.new 7, 3) := by decide +kernel
theorem dX3_init_8 : decode cX3_init 8 = .ok (.dup, 1) := by decide +kernel
theorem dX3_init_9 : decode cX3_init 9 = .ok (.invokespecial 9, 3) := by decide +kernel
theorem dX3_init_12 : decode cX3_init 12 = .ok (.putfield 10, 3) := by decide +kernel
theorem dX3_init_15 : decode cX3_init 15 = .ok (.aload_n 0, 1) := by decide +kernel
theorem dX3_init_16 : decode cX3_init 16 = .ok (.new 16, 3) := by decide +kernel
theorem dX3_init_19 : decode cX3_init 19 = .ok (.dup, 1) := by decide +kernel
theorem dX3_init_20 : decode cX3_init 20 = .ok (.iconst 4, 1) := by decide +kernel
theorem dX3_init_21 : decode cX3_init 21 = .ok (.iconst 4, 1) := by decide +kernel
theorem dX3_init_22 : decode cX3_init 22 = .ok (.invokespecial 18, 3) := by decide +kernel
theorem dX3_init_25 : decode cX3_init 25 = .ok (.putfield 21, 3) := by decide +kernel
theorem dX3_init_28 : decode cX3_init 28 = .ok (.aload_n 0, 1) := by decide +kernel
theorem dX3_init_29 : decode cX3_init 29 = .ok (.new 16, 3) := by decide +kernel
theorem dX3_init_32 : decode cX3_init 32 = .ok (.dup, 1) := by decide +kernel
theorem dX3_init_33 : decode cX3_init 33 = .ok (.iconst 4, 1) := by decide +kernel
theorem dX3_init_34 : decode cX3_init 34 = .ok (.iconst 4, 1) := by decide +kernel
theorem dX3_init_35 : decode cX3_init 35 = .ok (.invokespecial 18, 3) := by decide +kernel
theorem dX3_init_38 : decode cX3_init 38 = .ok (.putfield 25, 3) := by decide +kernel
theorem dX3_init_41 : decode cX3_init 41 = .ok (.aload_n 0, 1) := by decide +kernel
theorem dX3_init_42 : decode cX3_init 42 = .ok (.new 28, 3) := by decide +kernel
theorem dX3_init_45 : decode cX3_init 45 = .ok (.dup, 1) := by decide +kernel
theorem dX3_init_46 : decode cX3_init 46 = .ok (.invokespecial 30, 3) := by decide +kernel
theorem dX3_init_49 : decode cX3_init 49 = .ok (.putfield 31, 3) := by decide +kernel
theorem dX3_init_52 : decode cX3_init 52 = .ok (.return_, 1) := by decide +kernel
set_option maxRecDepth 20000 in
theorem ggX3_lay_X3_isWithin : GoodIn wsX3_lay wsX3_isWithin := goodIn_r _ [9] (by decide +kernel) (by decide +kernel)
set_option maxRecDepth 20000 in
theorem gX3_lay_X3_isWithin : GoodIn wsX3_lay (va_wsS RX3 35 yX3_isWithin wsX3_isWithin) := goodIn_app (goodIn_of _ (by decide +kernel)) ggX3_lay_X3_isWithin
set_option maxRecDepth 20000 in
theorem ggX3_lay_X2_startAnew : GoodIn wsX3_lay wsX2_startAnew := goodIn_r _ [14, 15, 16, 17, 18, 19, 20, 21, 22, 23, 24, 25, 26, 27, 28, 29, 30, 31, 32, 33, 34, 13, 35, 36, 37, 38, 39, 40, 51, 52, 53, 54, 55, 56, 57, 58, 59, 60, 61, 62, 63, 64, 65, 66, 67, 68] (by decide +kernel) (by decide +kernel)
set_option maxRecDepth 20000 in
theorem gX3_lay_X2_startAnew : GoodIn wsX3_lay (wsV RX3 46 RX2 yX2_startAnew wsX2_startAnew) := goodIn_app (goodIn_of _ (by decide +kernel)) ggX3_lay_X2_startAnew
set_option maxRecDepth 20000 in
theorem ggX3_lay_X2_cells : GoodIn wsX3_lay wsX2_cells := goodIn_r _ [44, 15, 16, 51, 52, 53, 54, 55, 56, 57, 58, 59, 60, 61, 62, 63, 64, 65, 66, 67, 68] (by decide +kernel) (by decide +kernel)
set_option maxRecDepth 20000 in
theorem gX3_lay_X2_cells : GoodIn wsX3_lay (wsV RX3 56 RX2 yX2_cells wsX2_cells) := goodIn_app (goodIn_of _ (by decide +kernel)) ggX3_lay_X2_cells
theorem dX3_lay_0 : decode cX3_lay 0 = .ok (.iload_n 1, 1) := by decide +kernel
theorem dX3_lay_1 : decode cX3_lay 1 = .ok (.iconst 2, 1) := by decide +kernel
theorem dX3_lay_2 : decode cX3_lay 2 = .ok (.bipush 8, 2) := by decide +kernel
theorem dX3_lay_4 : decode cX3_lay 4 = .ok (.invokestatic 35, 3) := by decide +kernel
theorem dX3_lay_7 : decode cX3_lay 7 = .ok (.ifCond .eq 13, 3) := by decide +kernel
theorem dX3_lay_10 : decode cX3_lay 10 = .ok (.iload_n 2, 1) := by decide +kernel
theorem dX3_lay_11 : decode cX3_lay 11 = .ok (.iconst 2, 1) := by decide +kernel
theorem dX3_lay_12 : decode cX3_lay 12 = .ok (.bipush 8, 2) := by decide +kernel
theorem dX3_lay_14 : decode cX3_lay 14 = .ok (.invokestatic 35, 3) := by decide +kernel
theorem dX3_lay_17 : decode cX3_lay 17 = .ok (.ifCond .ne 13, 3) := by decide +kernel
theorem dX3_lay_20 : decode cX3_lay 20 = .ok (.new 39, 3) := by decide +kernel
theorem dX3_lay_23 : decode cX3_lay 23 = .ok (.dup, 1) := by decide +kernel
theorem dX3_lay_24 : decode cX3_lay 24 = .ok (.ldc 41, 2) := by decide +kernel
theorem dX3_lay_26 : decode cX3_lay 26 = .ok (.invokespecial 43, 3) := by decide +kernel
theorem dX3_lay_29 : decode cX3_lay 29 = .ok (.athrow, 1) := by decide +kernel
theorem dX3_lay_30 : decode cX3_lay 30 = .ok (.aload_n 0, 1) := by decide +kernel
theorem dX3_lay_31 : decode cX3_lay 31 = .ok (.getfield 21, 3) := by decide +kernel
theorem dX3_lay_34 : decode cX3_lay 34 = .ok (.iload_n 1, 1) := by decide +kernel
theorem dX3_lay_35 : decode cX3_lay 35 = .ok (.iload_n 2, 1) := by decide +kernel
theorem dX3_lay_36 : decode cX3_lay 36 = .ok (.invokevirtual 46, 3) := by decide +kernel
theorem dX3_lay_39 : decode cX3_lay 39 = .ok (.aload_n 0, 1) := by decide +kernel
theorem dX3_lay_40 : decode cX3_lay 40 = .ok (.iconst 0, 1) := by decide +kernel
theorem dX3_lay_41 : decode cX3_lay 41 = .ok (.putfield 49, 3) := by decide +kernel
theorem dX3_lay_44 : decode cX3_lay 44 = .ok (.aload_n 0, 1) := by decide +kernel
theorem dX3_lay_45 : decode cX3_lay 45 = .ok (.iconst 0, 1) := by decide +kernel
theorem dX3_lay_46 : decode cX3_lay 46 = .ok (.putfield 53, 3) := by decide +kernel
theorem dX3_lay_49 : decode cX3_lay 49 = .ok (.aload_n 0, 1) := by decide +kernel
theorem dX3_lay_50 : decode cX3_lay 50 = .ok (.getfield 21, 3) := by decide +kernel
theorem dX3_lay_53 : decode cX3_lay 53 = .ok (.invokevirtual 56, 3) := by decide +kernel
theorem dX3_lay_56 : decode cX3_lay 56 = .ok (.ireturn, 1) := by decide +kernel
set_option maxRecDepth 20000 in
theorem ggX3_setField_X2_hasField : GoodIn wsX3_setField wsX2_hasField := goodIn_r _ [17, 18, 19, 34, 35, 36, 37, 38, 39, 40, 41, 42, 43, 44, 45, 46, 47, 48, 49, 50, 51] (by decide +kernel) (by decide +kernel)
set_option maxRecDepth 20000 in
theorem gX3_setField_X2_hasField : GoodIn wsX3_setField (wsV RX3 60 RX2 yX2_hasField wsX2_hasField) := goodIn_app (goodIn_of _ (by decide +kernel)) ggX3_setField_X2_hasField
set_option maxRecDepth 20000 in
theorem ggX3_setField_X3_isWithin : GoodIn wsX3_setField wsX3_isWithin := goodIn_r _ [23] (by decide +kernel) (by decide +kernel)
set_option maxRecDepth 20000 in
theorem gX3_setField_X3_isWithin : GoodIn wsX3_setField (va_wsS RX3 35 yX3_isWithin wsX3_isWithin) := goodIn_app (goodIn_of _ (by decide +kernel)) ggX3_setField_X3_isWithin
set_option maxRecDepth 20000 in
theorem ggX3_setField_X2_cellOf : GoodIn wsX3_setField wsX2_cellOf := goodIn_r _ [27, 19, 34, 35, 36, 37, 38, 39, 40, 41, 42, 43, 44, 45, 46, 47, 48, 49, 50, 51] (by decide +kernel) (by decide +kernel)
set_option maxRecDepth 20000 in
theorem gX3_setField_X2_cellOf : GoodIn wsX3_setField (wsV RX3 71 RX2 yX2_cellOf wsX2_cellOf) := goodIn_app (goodIn_of _ (by decide +kernel)) ggX3_setField_X2_cellOf
theorem dX3_setField_0 : decode cX3_setField 0 = .ok (.aload_n 0, 1) := by decide +kernel
theorem dX3_setField_1 : decode cX3_setField 1 = .ok (.getfield 21, 3) := by decide +kernel
theorem dX3_setField_4 : decode cX3_setField 4 = .ok (.iload_n 1, 1) := by decide +kernel
theorem dX3_setField_5 : decode cX3_setField 5 = .ok (.iload_n 2, 1) := by decide +kernel
theorem dX3_setField_6 : decode cX3_setField 6 = .ok (.invokevirtual 60, 3) := by decide +kernel
theorem dX3_setField_9 : decode cX3_setField 9 = .ok (.ifCond .ne 13, 3) := by decide +kernel
theorem dX3_setField_12 : decode cX3_setField 12 = .ok (.new 64, 3) := by decide +kernel
theorem dX3_setField_15 : decode cX3_setField 15 = .ok (.dup, 1) := by decide +kernel
theorem dX3_setField_16 : decode cX3_setField 16 = .ok (.ldc 66, 2) := by decide +kernel
theorem dX3_setField_18 : decode cX3_setField 18 = .ok (.invokespecial 68, 3) := by decide +kernel
theorem dX3_setField_21 : decode cX3_setField 21 = .ok (.athrow, 1) := by decide +kernel
theorem dX3_setField_22 : decode cX3_setField 22 = .ok (.iload_n 3, 1) := by decide +kernel
theorem dX3_setField_23 : decode cX3_setField 23 = .ok (.bipush 20, 2) := by decide +kernel
theorem dX3_setField_25 : decode cX3_setField 25 = .ok (.bipush 120, 2) := by decide +kernel
theorem dX3_setField_27 : decode cX3_setField 27 = .ok (.invokestatic 35, 3) := by decide +kernel
theorem dX3_setField_30 : decode cX3_setField 30 = .ok (.ifCond .eq 14, 3) := by decide +kernel
theorem dX3_setField_33 : decode cX3_setField 33 = .ok (.iload 4, 2) := by decide +kernel
theorem dX3_setField_35 : decode cX3_setField 35 = .ok (.iconst 0, 1) := by decide +kernel
theorem dX3_setField_36 : decode cX3_setField 36 = .ok (.bipush 9, 2) := by decide +kernel
theorem dX3_setField_38 : decode cX3_setField 38 = .ok (.invokestatic 35, 3) := by decide +kernel
theorem dX3_setField_41 : decode cX3_setField 41 = .ok (.ifCond .ne 13, 3) := by decide +kernel
theorem dX3_setField_44 : decode cX3_setField 44 = .ok (.new 39, 3) := by decide +kernel
theorem dX3_setField_47 : decode cX3_setField 47 = .ok (.dup, 1) := by decide +kernel
theorem dX3_setField_48 : decode cX3_setField 48 = .ok (.ldc 69, 2) := by decide +kernel
theorem dX3_setField_50 : decode cX3_setField 50 = .ok (.invokespecial 43, 3) := by decide +kernel
theorem dX3_setField_53 : decode cX3_setField 53 = .ok (.athrow, 1) := by decide +kernel
theorem dX3_setField_54 : decode cX3_setField 54 = .ok (.aload_n 0, 1) := by decide +kernel
theorem dX3_setField_55 : decode cX3_setField 55 = .ok (.getfield 21, 3) := by decide +kernel
theorem dX3_setField_58 : decode cX3_setField 58 = .ok (.iload_n 1, 1) := by decide +kernel
theorem dX3_setField_59 : decode cX3_setField 59 = .ok (.iload_n 2, 1) := by decide +kernel
theorem dX3_setField_60 : decode cX3_setField 60 = .ok (.invokevirtual 71, 3) := by decide +kernel
theorem dX3_setField_63 : decode cX3_setField 63 = .ok (.istore 5, 2) := by decide +kernel
theorem dX3_setField_65 : decode cX3_setField 65 = .ok (.aload_n 0, 1) := by decide +kernel
theorem dX3_setField_66 : decode cX3_setField 66 = .ok (.getfield 21, 3) := by decide +kernel
theorem dX3_setField_69 : decode cX3_setField 69 = .ok (.getfield 75, 3) := by decide +kernel
theorem dX3_setField_72 : decode cX3_setField 72 = .ok (.iload 5, 2) := by decide +kernel
theorem dX3_setField_74 : decode cX3_setField 74 = .ok (.iaload, 1) := by decide +kernel
theorem dX3_setField_75 : decode cX3_setField 75 = .ok (.istore 6, 2) := by decide +kernel
theorem dX3_setField_77 : decode cX3_setField 77 = .ok (.aload_n 0, 1) := by decide +kernel
theorem dX3_setField_78 : decode cX3_setField 78 = .ok (.getfield 21, 3) := by decide +kernel
theorem dX3_setField_81 : decode cX3_setField 81 = .ok (.getfield 75, 3) := by decide +kernel
theorem dX3_setField_84 : decode cX3_setField 84 = .ok (.iload 5, 2) := by decide +kernel
theorem dX3_setField_86 : decode cX3_setField 86 = .ok (.iload_n 3, 1) := by decide +kernel
theorem dX3_setField_87 : decode cX3_setField 87 = .ok (.iastore, 1) := by decide +kernel
theorem dX3_setField_88 : decode cX3_setField 88 = .ok (.aload_n 0, 1) := by decide +kernel
theorem dX3_setField_89 : decode cX3_setField 89 = .ok (.getfield 21, 3) := by decide +kernel
theorem dX3_setField_92 : decode cX3_setField 92 = .ok (.getfield 79, 3) := by decide +kernel
theorem dX3_setField_95 : decode cX3_setField 95 = .ok (.iload 5, 2) := by decide +kernel
theorem dX3_setField_97 : decode cX3_setField 97 = .ok (.iload 4, 2) := by decide +kernel
theorem dX3_setField_99 : decode cX3_setField 99 = .ok (.iastore, 1) := by decide +kernel
theorem dX3_setField_100 : decode cX3_setField 100 = .ok (.aload_n 0, 1) := by decide +kernel
theorem dX3_setField_101 : decode cX3_setField 101 = .ok (.getfield 21, 3) := by decide +kernel
theorem dX3_setField_104 : decode cX3_setField 104 = .ok (.getfield 82, 3) := by decide +kernel
theorem dX3_setField_107 : decode cX3_setField 107 = .ok (.iload 5, 2) := by decide +kernel
theorem dX3_setField_109 : decode cX3_setField 109 = .ok (.aload_n 0, 1) := by decide +kernel
theorem dX3_setField_110 : decode cX3_setField 110 = .ok (.getfield 21, 3) := by decide +kernel
theorem dX3_setField_113 : decode cX3_setField 113 = .ok (.getfield 82, 3) := by decide +kernel
theorem dX3_setField_116 : decode cX3_setField 116 = .ok (.iload 5, 2) := by decide +kernel
theorem dX3_setField_118 : decode cX3_setField 118 = .ok (.iaload, 1) := by decide +kernel
theorem dX3_setField_119 : decode cX3_setField 119 = .ok (.iload_n 3, 1) := by decide +kernel
theorem dX3_setField_120 : decode cX3_setField 120 = .ok (.invokestatic 85, 3) := by decide +kernel
theorem dX3_setField_123 : decode cX3_setField 123 = .ok (.iastore, 1) := by decide +kernel
theorem dX3_setField_124 : decode cX3_setField 124 = .ok (.iload 6, 2) := by decide +kernel
theorem dX3_setField_126 : decode cX3_setField 126 = .ok (.ireturn, 1) := by decide +kernel
set_option maxRecDepth 20000 in
theorem ggX3_moveStone_X2_hasField : GoodIn wsX3_moveStone wsX2_hasField := goodIn_r _ [17, 18, 19, 34, 35, 36, 37, 38, 39, 40, 41, 42, 43, 44, 45, 46, 47, 48, 49, 50, 51] (by decide +kernel) (by decide +kernel)
set_option maxRecDepth 20000 in
theorem gX3_moveStone_X2_hasField : GoodIn wsX3_moveStone (wsV RX3 60 RX2 yX2_hasField wsX2_hasField) := goodIn_app (goodIn_of _ (by decide +kernel)) ggX3_moveStone_X2_hasField
set_option maxRecDepth 20000 in
theorem ggX3_moveStone_X2_cellOf : GoodIn wsX3_moveStone wsX2_cellOf := goodIn_r _ [23, 19, 34, 35, 36, 37, 38, 39, 40, 41, 42, 43, 44, 45, 46, 47, 48, 49, 50, 51] (by decide +kernel) (by decide +kernel)
set_option maxRecDepth 20000 in
theorem gX3_moveStone_X2_cellOf : GoodIn wsX3_moveStone (wsV RX3 71 RX2 yX2_cellOf wsX2_cellOf) := goodIn_app (goodIn_of _ (by decide +kernel)) ggX3_moveStone_X2_cellOf
set_option maxRecDepth 20000 in
theorem ggX3_moveStone_X3_isWithin : GoodIn wsX3_moveStone wsX3_isWithin := goodIn_r _ [27] (by decide +kernel) (by decide +kernel)
set_option maxRecDepth 20000 in
theorem gX3_moveStone_X3_isWithin : GoodIn wsX3_moveStone (va_wsS RX3 35 yX3_isWithin wsX3_isWithin) := goodIn_app (goodIn_of _ (by decide +kernel)) ggX3_moveStone_X3_isWithin
theorem dX3_moveStone_0 : decode cX3_moveStone 0 = .ok (.aload_n 0, 1) := by decide +kernel
theorem dX3_moveStone_1 : decode cX3_moveStone 1 = .ok (.getfield 21, 3) := by decide +kernel
theorem dX3_moveStone_4 : decode cX3_moveStone 4 = .ok (.iload_n 1, 1) := by decide +kernel
theorem dX3_moveStone_5 : decode cX3_moveStone 5 = .ok (.iload_n 2, 1) := by decide +kernel
theorem dX3_moveStone_6 : decode cX3_moveStone 6 = .ok (.invokevirtual 60, 3) := by decide +kernel
theorem dX3_moveStone_9 : decode cX3_moveStone 9 = .ok (.ifCond .ne 13, 3) := by decide +kernel
theorem dX3_moveStone_12 : decode cX3_moveStone 12 = .ok (.new 64, 3) := by decide +kernel
theorem dX3_moveStone_15 : decode cX3_moveStone 15 = .ok (.dup, 1) := by decide +kernel
theorem dX3_moveStone_16 : decode cX3_moveStone 16 = .ok (.ldc 66, 2) := by decide +kernel
theorem dX3_moveStone_18 : decode cX3_moveStone 18 = .ok (.invokespecial 68, 3) := by decide +kernel
theorem dX3_moveStone_21 : decode cX3_moveStone 21 = .ok (.athrow, 1) := by decide +kernel
theorem dX3_moveStone_22 : decode cX3_moveStone 22 = .ok (.aload_n 0, 1) := by decide +kernel
theorem dX3_moveStone_23 : decode cX3_moveStone 23 = .ok (.getfield 21, 3) := by decide +kernel
theorem dX3_moveStone_26 : decode cX3_moveStone 26 = .ok (.iload_n 1, 1) := by decide +kernel
theorem dX3_moveStone_27 : decode cX3_moveStone 27 = .ok (.iload_n 2, 1) := by decide +kernel
theorem dX3_moveStone_28 : decode cX3_moveStone 28 = .ok (.invokevirtual 71, 3) := by decide +kernel
theorem dX3_moveStone_31 : decode cX3_moveStone 31 = .ok (.istore 4, 2) := by decide +kernel
theorem dX3_moveStone_33 : decode cX3_moveStone 33 = .ok (.iload_n 3, 1) := by decide +kernel
theorem dX3_moveStone_34 : decode cX3_moveStone 34 = .ok (.iconst 0, 1) := by decide +kernel
theorem dX3_moveStone_35 : decode cX3_moveStone 35 = .ok (.aload_n 0, 1) := by decide +kernel
theorem dX3_moveStone_36 : decode cX3_moveStone 36 = .ok (.getfield 21, 3) := by decide +kernel
theorem dX3_moveStone_39 : decode cX3_moveStone 39 = .ok (.getfield 75, 3) := by decide +kernel
theorem dX3_moveStone_42 : decode cX3_moveStone 42 = .ok (.iload 4, 2) := by decide +kernel
theorem dX3_moveStone_44 : decode cX3_moveStone 44 = .ok (.iaload, 1) := by decide +kernel
theorem dX3_moveStone_45 : decode cX3_moveStone 45 = .ok (.invokestatic 35, 3) := by decide +kernel
theorem dX3_moveStone_48 : decode cX3_moveStone 48 = .ok (.ifCond .ne 13, 3) := by decide +kernel
theorem dX3_moveStone_51 : decode cX3_moveStone 51 = .ok (.new 39, 3) := by decide +kernel
theorem dX3_moveStone_54 : decode cX3_moveStone 54 = .ok (.dup, 1) := by decide +kernel
theorem dX3_moveStone_55 : decode cX3_moveStone 55 = .ok (.ldc 90, 2) := by decide +kernel
theorem dX3_moveStone_57 : decode cX3_moveStone 57 = .ok (.invokespecial 43, 3) := by decide +kernel
theorem dX3_moveStone_60 : decode cX3_moveStone 60 = .ok (.athrow, 1) := by decide +kernel
theorem dX3_moveStone_61 : decode cX3_moveStone 61 = .ok (.iload_n 3, 1) := by decide +kernel
theorem dX3_moveStone_62 : decode cX3_moveStone 62 = .ok (.aload_n 0, 1) := by decide +kernel
theorem dX3_moveStone_63 : decode cX3_moveStone 63 = .ok (.getfield 21, 3) := by decide +kernel
theorem dX3_moveStone_66 : decode cX3_moveStone 66 = .ok (.getfield 82, 3) := by decide +kernel
theorem dX3_moveStone_69 : decode cX3_moveStone 69 = .ok (.iload 4, 2) := by decide +kernel
theorem dX3_moveStone_71 : decode cX3_moveStone 71 = .ok (.iaload, 1) := by decide +kernel
theorem dX3_moveStone_72 : decode cX3_moveStone 72 = .ok (.isub, 1) := by decide +kernel
theorem dX3_moveStone_73 : decode cX3_moveStone 73 = .ok (.istore 5, 2) := by decide +kernel
theorem dX3_moveStone_75 : decode cX3_moveStone 75 = .ok (.aload_n 0, 1) := by decide +kernel
theorem dX3_moveStone_76 : decode cX3_moveStone 76 = .ok (.getfield 21, 3) := by decide +kernel
theorem dX3_moveStone_79 : decode cX3_moveStone 79 = .ok (.getfield 82, 3) := by decide +kernel
theorem dX3_moveStone_82 : decode cX3_moveStone 82 = .ok (.iload 4, 2) := by decide +kernel
theorem dX3_moveStone_84 : decode cX3_moveStone 84 = .ok (.iload_n 3, 1) := by decide +kernel
theorem dX3_moveStone_85 : decode cX3_moveStone 85 = .ok (.iastore, 1) := by decide +kernel
theorem dX3_moveStone_86 : decode cX3_moveStone 86 = .ok (.aload_n 0, 1) := by decide +kernel
theorem dX3_moveStone_87 : decode cX3_moveStone 87 = .ok (.dup, 1) := by decide +kernel
theorem dX3_moveStone_88 : decode cX3_moveStone 88 = .ok (.getfield 53, 3) := by decide +kernel
theorem dX3_moveStone_91 : decode cX3_moveStone 91 = .ok (.iload 5, 2) := by decide +kernel
theorem dX3_moveStone_93 : decode cX3_moveStone 93 = .ok (.invokestatic 92, 3) := by decide +kernel
theorem dX3_moveStone_96 : decode cX3_moveStone 96 = .ok (.iadd, 1) := by decide +kernel
theorem dX3_moveStone_97 : decode cX3_moveStone 97 = .ok (.putfield 53, 3) := by decide +kernel
theorem dX3_moveStone_100 : decode cX3_moveStone 100 = .ok (.iload 5, 2) := by decide +kernel
theorem dX3_moveStone_102 : decode cX3_moveStone 102 = .ok (.ireturn, 1) := by decide +kernel
set_option maxRecDepth 20000 in
theorem ggX3_turn_X2_hasField : GoodIn wsX3_turn wsX2_hasField := goodIn_r _ [11, 12, 13, 28, 29, 30, 31, 32, 33, 34, 35, 36, 37, 38, 39, 40, 41, 42, 43, 44, 45] (by decide +kernel) (by decide +kernel)
set_option maxRecDepth 20000 in
theorem gX3_turn_X2_hasField : GoodIn wsX3_turn (wsV RX3 60 RX2 yX2_hasField wsX2_hasField) := goodIn_app (goodIn_of _ (by decide +kernel)) ggX3_turn_X2_hasField
set_option maxRecDepth 20000 in
theorem ggX3_turn_X3_isWithin : GoodIn wsX3_turn wsX3_isWithin := goodIn_r _ [17] (by decide +kernel) (by decide +kernel)
set_option maxRecDepth 20000 in
theorem gX3_turn_X3_isWithin : GoodIn wsX3_turn (va_wsS RX3 35 yX3_isWithin wsX3_isWithin) := goodIn_app (goodIn_of _ (by decide +kernel)) ggX3_turn_X3_isWithin
set_option maxRecDepth 20000 in
theorem ggX3_turn_X2_cellOf : GoodIn wsX3_turn wsX2_cellOf := goodIn_r _ [21, 13, 28, 29, 30, 31, 32, 33, 34, 35, 36, 37, 38, 39, 40, 41, 42, 43, 44, 45] (by decide +kernel) (by decide +kernel)
set_option maxRecDepth 20000 in
theorem gX3_turn_X2_cellOf : GoodIn wsX3_turn (wsV RX3 71 RX2 yX2_cellOf wsX2_cellOf) := goodIn_app (goodIn_of _ (by decide +kernel)) ggX3_turn_X2_cellOf
theorem dX3_turn_0 : decode cX3_turn 0 = .ok (.aload_n 0, 1) := by decide +kernel
theorem dX3_turn_1 : decode cX3_turn 1 = .ok (.getfield 21, 3) := by decide +kernel
theorem dX3_turn_4 : decode cX3_turn 4 = .ok (.iload_n 1, 1) := by decide +kernel
theorem dX3_turn_5 : decode cX3_turn 5 = .ok (.iload_n 2, 1) := by decide +kernel
theorem dX3_turn_6 : decode cX3_turn 6 = .ok (.invokevirtual 60, 3) := by decide +kernel
theorem dX3_turn_9 : decode cX3_turn 9 = .ok (.ifCond .ne 13, 3) := by decide +kernel
theorem dX3_turn_12 : decode cX3_turn 12 = .ok (.new 64, 3) := by decide +kernel
theorem dX3_turn_15 : decode cX3_turn 15 = .ok (.dup, 1) := by decide +kernel
theorem dX3_turn_16 : decode cX3_turn 16 = .ok (.ldc 66, 2) := by decide +kernel
theorem dX3_turn_18 : decode cX3_turn 18 = .ok (.invokespecial 68, 3) := by decide +kernel
theorem dX3_turn_21 : decode cX3_turn 21 = .ok (.athrow, 1) := by decide +kernel
theorem dX3_turn_22 : decode cX3_turn 22 = .ok (.iload_n 3, 1) := by decide +kernel
theorem dX3_turn_23 : decode cX3_turn 23 = .ok (.iconst (-1), 1) := by decide +kernel
theorem dX3_turn_24 : decode cX3_turn 24 = .ok (.iconst 1, 1) := by decide +kernel
theorem dX3_turn_25 : decode cX3_turn 25 = .ok (.invokestatic 35, 3) := by decide +kernel
theorem dX3_turn_28 : decode cX3_turn 28 = .ok (.ifCond .ne 13, 3) := by decide +kernel
theorem dX3_turn_31 : decode cX3_turn 31 = .ok (.new 39, 3) := by decide +kernel
theorem dX3_turn_34 : decode cX3_turn 34 = .ok (.dup, 1) := by decide +kernel
theorem dX3_turn_35 : decode cX3_turn 35 = .ok (.ldc 96, 2) := by decide +kernel
theorem dX3_turn_37 : decode cX3_turn 37 = .ok (.invokespecial 43, 3) := by decide +kernel
theorem dX3_turn_40 : decode cX3_turn 40 = .ok (.athrow, 1) := by decide +kernel
theorem dX3_turn_41 : decode cX3_turn 41 = .ok (.aload_n 0, 1) := by decide +kernel
theorem dX3_turn_42 : decode cX3_turn 42 = .ok (.getfield 21, 3) := by decide +kernel
theorem dX3_turn_45 : decode cX3_turn 45 = .ok (.iload_n 1, 1) := by decide +kernel
theorem dX3_turn_46 : decode cX3_turn 46 = .ok (.iload_n 2, 1) := by decide +kernel
theorem dX3_turn_47 : decode cX3_turn 47 = .ok (.invokevirtual 71, 3) := by decide +kernel
theorem dX3_turn_50 : decode cX3_turn 50 = .ok (.istore 4, 2) := by decide +kernel
theorem dX3_turn_52 : decode cX3_turn 52 = .ok (.aload_n 0, 1) := by decide +kernel
theorem dX3_turn_53 : decode cX3_turn 53 = .ok (.getfield 21, 3) := by decide +kernel
theorem dX3_turn_56 : decode cX3_turn 56 = .ok (.getfield 98, 3) := by decide +kernel
theorem dX3_turn_59 : decode cX3_turn 59 = .ok (.iload 4, 2) := by decide +kernel
theorem dX3_turn_61 : decode cX3_turn 61 = .ok (.iaload, 1) := by decide +kernel
theorem dX3_turn_62 : decode cX3_turn 62 = .ok (.istore 5, 2) := by decide +kernel
theorem dX3_turn_64 : decode cX3_turn 64 = .ok (.aload_n 0, 1) := by decide +kernel
theorem dX3_turn_65 : decode cX3_turn 65 = .ok (.getfield 21, 3) := by decide +kernel
theorem dX3_turn_68 : decode cX3_turn 68 = .ok (.getfield 98, 3) := by decide +kernel
theorem dX3_turn_71 : decode cX3_turn 71 = .ok (.iload 4, 2) := by decide +kernel
theorem dX3_turn_73 : decode cX3_turn 73 = .ok (.iload_n 3, 1) := by decide +kernel
theorem dX3_turn_74 : decode cX3_turn 74 = .ok (.iastore, 1) := by decide +kernel
theorem dX3_turn_75 : decode cX3_turn 75 = .ok (.iload 5, 2) := by decide +kernel
theorem dX3_turn_77 : decode cX3_turn 77 = .ok (.ireturn, 1) := by decide +kernel
set_option maxRecDepth 20000 in
theorem ggX3_setShare_X2_hasField : GoodIn wsX3_setShare wsX2_hasField := goodIn_r _ [11, 12, 13, 24, 25, 26, 27, 28, 29, 30, 31, 32, 33, 34, 35, 36, 37, 38, 39, 40, 41] (by decide +kernel) (by decide +kernel)
set_option maxRecDepth 20000 in
theorem gX3_setShare_X2_hasField : GoodIn wsX3_setShare (wsV RX3 60 RX2 yX2_hasField wsX2_hasField) := goodIn_app (goodIn_of _ (by decide +kernel)) ggX3_setShare_X2_hasField
set_option maxRecDepth 20000 in
theorem ggX3_setShare_X3_isWithin : GoodIn wsX3_setShare wsX3_isWithin := goodIn_r _ [17] (by decide +kernel) (by decide +kernel)
set_option maxRecDepth 20000 in
theorem gX3_setShare_X3_isWithin : GoodIn wsX3_setShare (va_wsS RX3 35 yX3_isWithin wsX3_isWithin) := goodIn_app (goodIn_of _ (by decide +kernel)) ggX3_setShare_X3_isWithin
theorem dX3_setShare_0 : decode cX3_setShare 0 = .ok (.aload_n 0, 1) := by decide +kernel
theorem dX3_setShare_1 : decode cX3_setShare 1 = .ok (.getfield 21, 3) := by decide +kernel
theorem dX3_setShare_4 : decode cX3_setShare 4 = .ok (.iconst 0, 1) := by decide +kernel
theorem dX3_setShare_5 : decode cX3_setShare 5 = .ok (.iload_n 1, 1) := by decide +kernel
theorem dX3_setShare_6 : decode cX3_setShare 6 = .ok (.invokevirtual 60, 3) := by decide +kernel
theorem dX3_setShare_9 : decode cX3_setShare 9 = .ok (.ifCond .ne 13, 3) := by decide +kernel
theorem dX3_setShare_12 : decode cX3_setShare 12 = .ok (.new 64, 3) := by decide +kernel
theorem dX3_setShare_15 : decode cX3_setShare 15 = .ok (.dup, 1) := by decide +kernel
theorem dX3_setShare_16 : decode cX3_setShare 16 = .ok (.ldc 101, 2) := by decide +kernel
theorem dX3_setShare_18 : decode cX3_setShare 18 = .ok (.invokespecial 68, 3) := by decide +kernel
theorem dX3_setShare_21 : decode cX3_setShare 21 = .ok (.athrow, 1) := by decide +kernel
theorem dX3_setShare_22 : decode cX3_setShare 22 = .ok (.iload_n 2, 1) := by decide +kernel
theorem dX3_setShare_23 : decode cX3_setShare 23 = .ok (.iconst 0, 1) := by decide +kernel
theorem dX3_setShare_24 : decode cX3_setShare 24 = .ok (.bipush 9, 2) := by decide +kernel
theorem dX3_setShare_26 : decode cX3_setShare 26 = .ok (.invokestatic 35, 3) := by decide +kernel
theorem dX3_setShare_29 : decode cX3_setShare 29 = .ok (.ifCond .ne 13, 3) := by decide +kernel
theorem dX3_setShare_32 : decode cX3_setShare 32 = .ok (.new 39, 3) := by decide +kernel
theorem dX3_setShare_35 : decode cX3_setShare 35 = .ok (.dup, 1) := by decide +kernel
theorem dX3_setShare_36 : decode cX3_setShare 36 = .ok (.ldc 103, 2) := by decide +kernel
theorem dX3_setShare_38 : decode cX3_setShare 38 = .ok (.invokespecial 43, 3) := by decide +kernel
theorem dX3_setShare_41 : decode cX3_setShare 41 = .ok (.athrow, 1) := by decide +kernel
theorem dX3_setShare_42 : decode cX3_setShare 42 = .ok (.aload_n 0, 1) := by decide +kernel
theorem dX3_setShare_43 : decode cX3_setShare 43 = .ok (.getfield 21, 3) := by decide +kernel
theorem dX3_setShare_46 : decode cX3_setShare 46 = .ok (.getfield 105, 3) := by decide +kernel
theorem dX3_setShare_49 : decode cX3_setShare 49 = .ok (.iload_n 1, 1) := by decide +kernel
theorem dX3_setShare_50 : decode cX3_setShare 50 = .ok (.iaload, 1) := by decide +kernel
theorem dX3_setShare_51 : decode cX3_setShare 51 = .ok (.istore_n 3, 1) := by decide +kernel
theorem dX3_setShare_52 : decode cX3_setShare 52 = .ok (.aload_n 0, 1) := by decide +kernel
theorem dX3_setShare_53 : decode cX3_setShare 53 = .ok (.getfield 21, 3) := by decide +kernel
theorem dX3_setShare_56 : decode cX3_setShare 56 = .ok (.getfield 105, 3) := by decide +kernel
theorem dX3_setShare_59 : decode cX3_setShare 59 = .ok (.iload_n 1, 1) := by decide +kernel
theorem dX3_setShare_60 : decode cX3_setShare 60 = .ok (.iload_n 2, 1) := by decide +kernel
theorem dX3_setShare_61 : decode cX3_setShare 61 = .ok (.iastore, 1) := by decide +kernel
theorem dX3_setShare_62 : decode cX3_setShare 62 = .ok (.iload_n 3, 1) := by decide +kernel
theorem dX3_setShare_63 : decode cX3_setShare 63 = .ok (.ireturn, 1) := by decide +kernel
set_option maxRecDepth 20000 in
theorem ggX3_setDay_X3_isWithin : GoodIn wsX3_setDay wsX3_isWithin := goodIn_r _ [12] (by decide +kernel) (by decide +kernel)
set_option maxRecDepth 20000 in
theorem gX3_setDay_X3_isWithin : GoodIn wsX3_setDay (va_wsS RX3 35 yX3_isWithin wsX3_isWithin) := goodIn_app (goodIn_of _ (by decide +kernel)) ggX3_setDay_X3_isWithin
theorem dX3_setDay_0 : decode cX3_setDay 0 = .ok (.iload_n 1, 1) := by decide +kernel
theorem dX3_setDay_1 : decode cX3_setDay 1 = .ok (.iconst 0, 1) := by decide +kernel
theorem dX3_setDay_2 : decode cX3_setDay 2 = .ok (.bipush 29, 2) := by decide +kernel
theorem dX3_setDay_4 : decode cX3_setDay 4 = .ok (.invokestatic 35, 3) := by decide +kernel
theorem dX3_setDay_7 : decode cX3_setDay 7 = .ok (.ifCond .ne 13, 3) := by decide +kernel
theorem dX3_setDay_10 : decode cX3_setDay 10 = .ok (.new 64, 3) := by decide +kernel
theorem dX3_setDay_13 : decode cX3_setDay 13 = .ok (.dup, 1) := by decide +kernel
theorem dX3_setDay_14 : decode cX3_setDay 14 = .ok (.ldc 108, 2) := by decide +kernel
theorem dX3_setDay_16 : decode cX3_setDay 16 = .ok (.invokespecial 68, 3) := by decide +kernel
theorem dX3_setDay_19 : decode cX3_setDay 19 = .ok (.athrow, 1) := by decide +kernel
theorem dX3_setDay_20 : decode cX3_setDay 20 = .ok (.iload_n 2, 1) := by decide +kernel
theorem dX3_setDay_21 : decode cX3_setDay 21 = .ok (.iconst 0, 1) := by decide +kernel
theorem dX3_setDay_22 : decode cX3_setDay 22 = .ok (.bipush 60, 2) := by decide +kernel
theorem dX3_setDay_24 : decode cX3_setDay 24 = .ok (.invokestatic 35, 3) := by decide +kernel
theorem dX3_setDay_27 : decode cX3_setDay 27 = .ok (.ifCond .eq 25, 3) := by decide +kernel
theorem dX3_setDay_30 : decode cX3_setDay 30 = .ok (.iload_n 3, 1) := by decide +kernel
theorem dX3_setDay_31 : decode cX3_setDay 31 = .ok (.iconst 0, 1) := by decide +kernel
theorem dX3_setDay_32 : decode cX3_setDay 32 = .ok (.sipush 400, 3) := by decide +kernel
theorem dX3_setDay_35 : decode cX3_setDay 35 = .ok (.invokestatic 35, 3) := by decide +kernel
theorem dX3_setDay_38 : decode cX3_setDay 38 = .ok (.ifCond .eq 14, 3) := by decide +kernel
theorem dX3_setDay_41 : decode cX3_setDay 41 = .ok (.iload 4, 2) := by decide +kernel
theorem dX3_setDay_43 : decode cX3_setDay 43 = .ok (.iconst 0, 1) := by decide +kernel
theorem dX3_setDay_44 : decode cX3_setDay 44 = .ok (.bipush 20, 2) := by decide +kernel
theorem dX3_setDay_46 : decode cX3_setDay 46 = .ok (.invokestatic 35, 3) := by decide +kernel
theorem dX3_setDay_49 : decode cX3_setDay 49 = .ok (.ifCond .ne 13, 3) := by decide +kernel
theorem dX3_setDay_52 : decode cX3_setDay 52 = .ok (.new 39, 3) := by decide +kernel
theorem dX3_setDay_55 : decode cX3_setDay 55 = .ok (.dup, 1) := by decide +kernel
theorem dX3_setDay_56 : decode cX3_setDay 56 = .ok (.ldc 110, 2) := by decide +kernel
theorem dX3_setDay_58 : decode cX3_setDay 58 = .ok (.invokespecial 43, 3) := by decide +kernel
theorem dX3_setDay_61 : decode cX3_setDay 61 = .ok (.athrow, 1) := by decide +kernel
theorem dX3_setDay_62 : decode cX3_setDay 62 = .ok (.aload_n 0, 1) := by decide +kernel
theorem dX3_setDay_63 : decode cX3_setDay 63 = .ok (.getfield 10, 3) := by decide +kernel
theorem dX3_setDay_66 : decode cX3_setDay 66 = .ok (.getfield 112, 3) := by decide +kernel
theorem dX3_setDay_69 : decode cX3_setDay 69 = .ok (.iload_n 1, 1) := by decide +kernel
theorem dX3_setDay_70 : decode cX3_setDay 70 = .ok (.iaload, 1) := by decide +kernel
theorem dX3_setDay_71 : decode cX3_setDay 71 = .ok (.istore 5, 2) := by decide +kernel
theorem dX3_setDay_73 : decode cX3_setDay 73 = .ok (.aload_n 0, 1) := by decide +kernel
theorem dX3_setDay_74 : decode cX3_setDay 74 = .ok (.getfield 10, 3) := by decide +kernel
theorem dX3_setDay_77 : decode cX3_setDay 77 = .ok (.getfield 115, 3) := by decide +kernel
theorem dX3_setDay_80 : decode cX3_setDay 80 = .ok (.iload_n 1, 1) := by decide +kernel
theorem dX3_setDay_81 : decode cX3_setDay 81 = .ok (.iload_n 2, 1) := by decide +kernel
theorem dX3_setDay_82 : decode cX3_setDay 82 = .ok (.iastore, 1) := by decide +kernel
theorem dX3_setDay_83 : decode cX3_setDay 83 = .ok (.aload_n 0, 1) := by decide +kernel
theorem dX3_setDay_84 : decode cX3_setDay 84 = .ok (.getfield 10, 3) := by decide +kernel
theorem dX3_setDay_87 : decode cX3_setDay 87 = .ok (.getfield 112, 3) := by decide +kernel
theorem dX3_setDay_90 : decode cX3_setDay 90 = .ok (.iload_n 1, 1) := by decide +kernel
theorem dX3_setDay_91 : decode cX3_setDay 91 = .ok (.iload_n 3, 1) := by decide +kernel
theorem dX3_setDay_92 : decode cX3_setDay 92 = .ok (.iastore, 1) := by decide +kernel
theorem dX3_setDay_93 : decode cX3_setDay 93 = .ok (.aload_n 0, 1) := by decide +kernel
theorem dX3_setDay_94 : decode cX3_setDay 94 = .ok (.getfield 10, 3) := by decide +kernel
theorem dX3_setDay_97 : decode cX3_setDay 97 = .ok (.getfield 118, 3) := by decide +kernel
theorem dX3_setDay_100 : decode cX3_setDay 100 = .ok (.iload_n 1, 1) := by decide +kernel
theorem dX3_setDay_101 : decode cX3_setDay 101 = .ok (.iload 4, 2) := by decide +kernel
theorem dX3_setDay_103 : decode cX3_setDay 103 = .ok (.iastore, 1) := by decide +kernel
theorem dX3_setDay_104 : decode cX3_setDay 104 = .ok (.iload 5, 2) := by decide +kernel
theorem dX3_setDay_106 : decode cX3_setDay 106 = .ok (.ireturn, 1) := by decide +kernel
set_option maxRecDepth 20000 in
theorem ggX3_plant_X2_hasField : GoodIn wsX3_plant wsX2_hasField := goodIn_r _ [15, 16, 17, 45, 46, 47, 48, 49, 50, 51, 52, 53, 54, 55, 56, 57, 58, 59, 60, 61, 62] (by decide +kernel) (by decide +kernel)
set_option maxRecDepth 20000 in
theorem gX3_plant_X2_hasField : GoodIn wsX3_plant (wsV RX3 60 RX2 yX2_hasField wsX2_hasField) := goodIn_app (goodIn_of _ (by decide +kernel)) ggX3_plant_X2_hasField
set_option maxRecDepth 20000 in
theorem ggX3_plant_X3_isWithin : GoodIn wsX3_plant wsX3_isWithin := goodIn_r _ [21] (by decide +kernel) (by decide +kernel)
set_option maxRecDepth 20000 in
theorem gX3_plant_X3_isWithin : GoodIn wsX3_plant (va_wsS RX3 35 yX3_isWithin wsX3_isWithin) := goodIn_app (goodIn_of _ (by decide +kernel)) ggX3_plant_X3_isWithin
set_option maxRecDepth 20000 in
theorem ggX3_plant_X2_cellOf : GoodIn wsX3_plant wsX2_cellOf := goodIn_r _ [25, 17, 45, 46, 47, 48, 49, 50, 51, 52, 53, 54, 55, 56, 57, 58, 59, 60, 61, 62] (by decide +kernel) (by decide +kernel)
set_option maxRecDepth 20000 in
theorem gX3_plant_X2_cellOf : GoodIn wsX3_plant (wsV RX3 71 RX2 yX2_cellOf wsX2_cellOf) := goodIn_app (goodIn_of _ (by decide +kernel)) ggX3_plant_X2_cellOf
set_option maxRecDepth 20000 in
theorem ggX3_plant_X2_crops : GoodIn wsX3_plant wsX2_crops := goodIn_r _ [29, 30, 31, 32, 33, 14, 34, 35, 36, 37, 38, 16, 17, 45, 46, 47, 48, 49, 50, 51, 52, 53, 54, 55, 56, 57, 58, 59, 60, 61, 62] (by decide +kernel) (by decide +kernel)
set_option maxRecDepth 20000 in
theorem gX3_plant_X2_crops : GoodIn wsX3_plant (wsV RX3 137 RX2 yX2_crops wsX2_crops) := goodIn_app (goodIn_of _ (by decide +kernel)) ggX3_plant_X2_crops
theorem dX3_plant_0 : decode cX3_plant 0 = .ok (.aload_n 0, 1) := by decide +kernel
theorem dX3_plant_1 : decode cX3_plant 1 = .ok (.getfield 21, 3) := by decide +kernel
theorem dX3_plant_4 : decode cX3_plant 4 = .ok (.iload_n 1, 1) := by decide +kernel
theorem dX3_plant_5 : decode cX3_plant 5 = .ok (.iload_n 2, 1) := by decide +kernel
theorem dX3_plant_6 : decode cX3_plant 6 = .ok (.invokevirtual 60, 3) := by decide +kernel
theorem dX3_plant_9 : decode cX3_plant 9 = .ok (.ifCond .ne 13, 3) := by decide +kernel
theorem dX3_plant_12 : decode cX3_plant 12 = .ok (.new 64, 3) := by decide +kernel
theorem dX3_plant_15 : decode cX3_plant 15 = .ok (.dup, 1) := by decide +kernel
theorem dX3_plant_16 : decode cX3_plant 16 = .ok (.ldc 66, 2) := by decide +kernel
theorem dX3_plant_18 : decode cX3_plant 18 = .ok (.invokespecial 68, 3) := by decide +kernel
theorem dX3_plant_21 : decode cX3_plant 21 = .ok (.athrow, 1) := by decide +kernel
theorem dX3_plant_22 : decode cX3_plant 22 = .ok (.iload_n 3, 1) := by decide +kernel
theorem dX3_plant_23 : decode cX3_plant 23 = .ok (.iconst 0, 1) := by decide +kernel
theorem dX3_plant_24 : decode cX3_plant 24 = .ok (.bipush 20, 2) := by decide +kernel
theorem dX3_plant_26 : decode cX3_plant 26 = .ok (.invokestatic 35, 3) := by decide +kernel
theorem dX3_plant_29 : decode cX3_plant 29 = .ok (.ifCond .ne 13, 3) := by decide +kernel
theorem dX3_plant_32 : decode cX3_plant 32 = .ok (.new 39, 3) := by decide +kernel
theorem dX3_plant_35 : decode cX3_plant 35 = .ok (.dup, 1) := by decide +kernel
theorem dX3_plant_36 : decode cX3_plant 36 = .ok (.ldc 121, 2) := by decide +kernel
theorem dX3_plant_38 : decode cX3_plant 38 = .ok (.invokespecial 43, 3) := by decide +kernel
theorem dX3_plant_41 : decode cX3_plant 41 = .ok (.athrow, 1) := by decide +kernel
theorem dX3_plant_42 : decode cX3_plant 42 = .ok (.aload_n 0, 1) := by decide +kernel
theorem dX3_plant_43 : decode cX3_plant 43 = .ok (.getfield 21, 3) := by decide +kernel
theorem dX3_plant_46 : decode cX3_plant 46 = .ok (.iload_n 1, 1) := by decide +kernel
theorem dX3_plant_47 : decode cX3_plant 47 = .ok (.iload_n 2, 1) := by decide +kernel
theorem dX3_plant_48 : decode cX3_plant 48 = .ok (.invokevirtual 71, 3) := by decide +kernel
theorem dX3_plant_51 : decode cX3_plant 51 = .ok (.istore 4, 2) := by decide +kernel
theorem dX3_plant_53 : decode cX3_plant 53 = .ok (.aload_n 0, 1) := by decide +kernel
theorem dX3_plant_54 : decode cX3_plant 54 = .ok (.getfield 21, 3) := by decide +kernel
theorem dX3_plant_57 : decode cX3_plant 57 = .ok (.getfield 123, 3) := by decide +kernel
theorem dX3_plant_60 : decode cX3_plant 60 = .ok (.iload 4, 2) := by decide +kernel
theorem dX3_plant_62 : decode cX3_plant 62 = .ok (.iaload, 1) := by decide +kernel
theorem dX3_plant_63 : decode cX3_plant 63 = .ok (.ifCond .ne 18, 3) := by decide +kernel
theorem dX3_plant_66 : decode cX3_plant 66 = .ok (.aload_n 0, 1) := by decide +kernel
theorem dX3_plant_67 : decode cX3_plant 67 = .ok (.getfield 21, 3) := by decide +kernel
theorem dX3_plant_70 : decode cX3_plant 70 = .ok (.getfield 126, 3) := by decide +kernel
theorem dX3_plant_73 : decode cX3_plant 73 = .ok (.iload 4, 2) := by decide +kernel
theorem dX3_plant_75 : decode cX3_plant 75 = .ok (.iaload, 1) := by decide +kernel
theorem dX3_plant_76 : decode cX3_plant 76 = .ok (.bipush 40, 2) := by decide +kernel
theorem dX3_plant_78 : decode cX3_plant 78 = .ok (.if_icmp .le 13, 3) := by decide +kernel
theorem dX3_plant_81 : decode cX3_plant 81 = .ok (.new 129, 3) := by decide +kernel
theorem dX3_plant_84 : decode cX3_plant 84 = .ok (.dup, 1) := by decide +kernel
theorem dX3_plant_85 : decode cX3_plant 85 = .ok (.ldc 131, 2) := by decide +kernel
theorem dX3_plant_87 : decode cX3_plant 87 = .ok (.invokespecial 133, 3) := by decide +kernel
theorem dX3_plant_90 : decode cX3_plant 90 = .ok (.athrow, 1) := by decide +kernel
theorem dX3_plant_91 : decode cX3_plant 91 = .ok (.aload_n 0, 1) := by decide +kernel
theorem dX3_plant_92 : decode cX3_plant 92 = .ok (.getfield 21, 3) := by decide +kernel
theorem dX3_plant_95 : decode cX3_plant 95 = .ok (.getfield 123, 3) := by decide +kernel
theorem dX3_plant_98 : decode cX3_plant 98 = .ok (.iload 4, 2) := by decide +kernel
theorem dX3_plant_100 : decode cX3_plant 100 = .ok (.iconst 1, 1) := by decide +kernel
theorem dX3_plant_101 : decode cX3_plant 101 = .ok (.iastore, 1) := by decide +kernel
theorem dX3_plant_102 : decode cX3_plant 102 = .ok (.aload_n 0, 1) := by decide +kernel
theorem dX3_plant_103 : decode cX3_plant 103 = .ok (.getfield 21, 3) := by decide +kernel
theorem dX3_plant_106 : decode cX3_plant 106 = .ok (.getfield 134, 3) := by decide +kernel
theorem dX3_plant_109 : decode cX3_plant 109 = .ok (.iload 4, 2) := by decide +kernel
theorem dX3_plant_111 : decode cX3_plant 111 = .ok (.iload_n 3, 1) := by decide +kernel
theorem dX3_plant_112 : decode cX3_plant 112 = .ok (.iastore, 1) := by decide +kernel
theorem dX3_plant_113 : decode cX3_plant 113 = .ok (.aload_n 0, 1) := by decide +kernel
theorem dX3_plant_114 : decode cX3_plant 114 = .ok (.getfield 21, 3) := by decide +kernel
theorem dX3_plant_117 : decode cX3_plant 117 = .ok (.invokevirtual 137, 3) := by decide +kernel
theorem dX3_plant_120 : decode cX3_plant 120 = .ok (.ireturn, 1) := by decide +kernel
set_option maxRecDepth 20000 in
theorem ggX3_reap_X2_hasField : GoodIn wsX3_reap wsX2_hasField := goodIn_r _ [15, 16, 17, 37, 38, 39, 40, 41, 42, 43, 44, 45, 46, 47, 48, 49, 50, 51, 52, 53, 54] (by decide +kernel) (by decide +kernel)
set_option maxRecDepth 20000 in
theorem gX3_reap_X2_hasField : GoodIn wsX3_reap (wsV RX3 60 RX2 yX2_hasField wsX2_hasField) := goodIn_app (goodIn_of _ (by decide +kernel)) ggX3_reap_X2_hasField
set_option maxRecDepth 20000 in
theorem ggX3_reap_X2_cellOf : GoodIn wsX3_reap wsX2_cellOf := goodIn_r _ [21, 17, 37, 38, 39, 40, 41, 42, 43, 44, 45, 46, 47, 48, 49, 50, 51, 52, 53, 54] (by decide +kernel) (by decide +kernel)
set_option maxRecDepth 20000 in
theorem gX3_reap_X2_cellOf : GoodIn wsX3_reap (wsV RX3 71 RX2 yX2_cellOf wsX2_cellOf) := goodIn_app (goodIn_of _ (by decide +kernel)) ggX3_reap_X2_cellOf
set_option maxRecDepth 20000 in
theorem ggX3_reap_X2_clearCrop : GoodIn wsX3_reap wsX2_clearCrop := goodIn_r _ [25, 26, 27, 28, 29, 30, 37, 38, 39, 40, 41, 42, 43, 44, 45, 46, 47, 48, 49, 50, 51, 52, 53, 54] (by decide +kernel) (by decide +kernel)
set_option maxRecDepth 20000 in
theorem gX3_reap_X2_clearCrop : GoodIn wsX3_reap (wsV RX3 145 RX2 yX2_clearCrop wsX2_clearCrop) := goodIn_app (goodIn_of _ (by decide +kernel)) ggX3_reap_X2_clearCrop
theorem dX3_reap_0 : decode cX3_reap 0 = .ok (.aload_n 0, 1) := by decide +kernel
theorem dX3_reap_1 : decode cX3_reap 1 = .ok (.getfield 21, 3) := by decide +kernel
theorem dX3_reap_4 : decode cX3_reap 4 = .ok (.iload_n 1, 1) := by decide +kernel
theorem dX3_reap_5 : decode cX3_reap 5 = .ok (.iload_n 2, 1) := by decide +kernel
theorem dX3_reap_6 : decode cX3_reap 6 = .ok (.invokevirtual 60, 3) := by decide +kernel
theorem dX3_reap_9 : decode cX3_reap 9 = .ok (.ifCond .ne 13, 3) := by decide +kernel
theorem dX3_reap_12 : decode cX3_reap 12 = .ok (.new 64, 3) := by decide +kernel
theorem dX3_reap_15 : decode cX3_reap 15 = .ok (.dup, 1) := by decide +kernel
theorem dX3_reap_16 : decode cX3_reap 16 = .ok (.ldc 66, 2) := by decide +kernel
theorem dX3_reap_18 : decode cX3_reap 18 = .ok (.invokespecial 68, 3) := by decide +kernel
theorem dX3_reap_21 : decode cX3_reap 21 = .ok (.athrow, 1) := by decide +kernel
theorem dX3_reap_22 : decode cX3_reap 22 = .ok (.aload_n 0, 1) := by decide +kernel
theorem dX3_reap_23 : decode cX3_reap 23 = .ok (.getfield 21, 3) := by decide +kernel
theorem dX3_reap_26 : decode cX3_reap 26 = .ok (.iload_n 1, 1) := by decide +kernel
theorem dX3_reap_27 : decode cX3_reap 27 = .ok (.iload_n 2, 1) := by decide +kernel
theorem dX3_reap_28 : decode cX3_reap 28 = .ok (.invokevirtual 71, 3) := by decide +kernel
theorem dX3_reap_31 : decode cX3_reap 31 = .ok (.istore_n 3, 1) := by decide +kernel
theorem dX3_reap_32 : decode cX3_reap 32 = .ok (.aload_n 0, 1) := by decide +kernel
theorem dX3_reap_33 : decode cX3_reap 33 = .ok (.getfield 21, 3) := by decide +kernel
theorem dX3_reap_36 : decode cX3_reap 36 = .ok (.getfield 123, 3) := by decide +kernel
theorem dX3_reap_39 : decode cX3_reap 39 = .ok (.iload_n 3, 1) := by decide +kernel
theorem dX3_reap_40 : decode cX3_reap 40 = .ok (.iaload, 1) := by decide +kernel
theorem dX3_reap_41 : decode cX3_reap 41 = .ok (.ifCond .eq 17, 3) := by decide +kernel
theorem dX3_reap_44 : decode cX3_reap 44 = .ok (.aload_n 0, 1) := by decide +kernel
theorem dX3_reap_45 : decode cX3_reap 45 = .ok (.getfield 21, 3) := by decide +kernel
theorem dX3_reap_48 : decode cX3_reap 48 = .ok (.getfield 134, 3) := by decide +kernel
theorem dX3_reap_51 : decode cX3_reap 51 = .ok (.iload_n 3, 1) := by decide +kernel
theorem dX3_reap_52 : decode cX3_reap 52 = .ok (.iaload, 1) := by decide +kernel
theorem dX3_reap_53 : decode cX3_reap 53 = .ok (.bipush 40, 2) := by decide +kernel
theorem dX3_reap_55 : decode cX3_reap 55 = .ok (.if_icmp .ge 13, 3) := by decide +kernel
theorem dX3_reap_58 : decode cX3_reap 58 = .ok (.new 129, 3) := by decide +kernel
theorem dX3_reap_61 : decode cX3_reap 61 = .ok (.dup, 1) := by decide +kernel
theorem dX3_reap_62 : decode cX3_reap 62 = .ok (.ldc 140, 2) := by decide +kernel
theorem dX3_reap_64 : decode cX3_reap 64 = .ok (.invokespecial 133, 3) := by decide +kernel
theorem dX3_reap_67 : decode cX3_reap 67 = .ok (.athrow, 1) := by decide +kernel
theorem dX3_reap_68 : decode cX3_reap 68 = .ok (.aload_n 0, 1) := by decide +kernel
theorem dX3_reap_69 : decode cX3_reap 69 = .ok (.getfield 21, 3) := by decide +kernel
theorem dX3_reap_72 : decode cX3_reap 72 = .ok (.getfield 134, 3) := by decide +kernel
theorem dX3_reap_75 : decode cX3_reap 75 = .ok (.iload_n 3, 1) := by decide +kernel
theorem dX3_reap_76 : decode cX3_reap 76 = .ok (.iaload, 1) := by decide +kernel
theorem dX3_reap_77 : decode cX3_reap 77 = .ok (.aload_n 0, 1) := by decide +kernel
theorem dX3_reap_78 : decode cX3_reap 78 = .ok (.getfield 21, 3) := by decide +kernel
