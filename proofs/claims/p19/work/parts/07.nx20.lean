set_option maxRecDepth 20000 in
theorem ggX2_init_X2_startAnew : GoodIn wsX2_init wsX2_startAnew := goodIn_r _ [22, 23, 24, 25, 26, 27, 5, 6, 7, 8, 9, 10, 16, 17, 28, 29, 30, 31, 32, 33, 34, 21, 35, 11, 12, 13, 14, 15, 36, 37, 38, 39, 40, 41, 42, 43, 44, 45, 46, 47, 48, 49, 50, 51, 52, 53] (by decide +kernel) (by decide +kernel)
set_option maxRecDepth 20000 in
theorem gX2_init_X2_startAnew : GoodIn wsX2_init (wsV RX2 51 RX2 yX2_startAnew wsX2_startAnew) := goodIn_app (goodIn_of _ (by decide +kernel)) ggX2_init_X2_startAnew
theorem dX2_init_0 : decode cX2_init 0 = .ok (.aload_n 0, 1) := by decide +kernel
theorem dX2_init_1 : decode cX2_init 1 = .ok (.invokespecial 3, 3) := by decide +kernel
theorem dX2_init_4 : decode cX2_init 4 = .ok (.aload_n 0, 1) := by decide +kernel
theorem dX2_init_5 : decode cX2_init 5 = .ok (.bipush 8, 2) := by decide +kernel
theorem dX2_init_7 : decode cX2_init 7 = .ok (.newarray .int, 2) := by decide +kernel
theorem dX2_init_9 : decode cX2_init 9 = .ok (.putfield 9, 3) := by decide +kernel
theorem dX2_init_12 : decode cX2_init 12 = .ok (.aload_n 0, 1) := by decide +kernel
theorem dX2_init_13 : decode cX2_init 13 = .ok (.bipush 64, 2) := by decide +kernel
theorem dX2_init_15 : decode cX2_init 15 = .ok (.newarray .int, 2) := by decide +kernel
theorem dX2_init_17 : decode cX2_init 17 = .ok (.putfield 15, 3) := by decide +kernel
theorem dX2_init_20 : decode cX2_init 20 = .ok (.aload_n 0, 1) := by decide +kernel
theorem dX2_init_21 : decode cX2_init 21 = .ok (.bipush 64, 2) := by decide +kernel
theorem dX2_init_23 : decode cX2_init 23 = .ok (.newarray .int, 2) := by decide +kernel
theorem dX2_init_25 : decode cX2_init 25 = .ok (.putfield 18, 3) := by decide +kernel
theorem dX2_init_28 : decode cX2_init 28 = .ok (.aload_n 0, 1) := by decide +kernel
theorem dX2_init_29 : decode cX2_init 29 = .ok (.bipush 64, 2) := by decide +kernel
theorem dX2_init_31 : decode cX2_init 31 = .ok (.newarray .int, 2) := by decide +kernel
theorem dX2_init_33 : decode cX2_init 33 = .ok (.putfield 21, 3) := by decide +kernel
theorem dX2_init_36 : decode cX2_init 36 = .ok (.aload_n 0, 1) := by decide +kernel
theorem dX2_init_37 : decode cX2_init 37 = .ok (.bipush 64, 2) := by decide +kernel
theorem dX2_init_39 : decode cX2_init 39 = .ok (.newarray .int, 2) := by decide +kernel
theorem dX2_init_41 : decode cX2_init 41 = .ok (.putfield 24, 3) := by decide +kernel
theorem dX2_init_44 : decode cX2_init 44 = .ok (.aload_n 0, 1) := by decide +kernel
theorem dX2_init_45 : decode cX2_init 45 = .ok (.bipush 64, 2) := by decide +kernel
theorem dX2_init_47 : decode cX2_init 47 = .ok (.newarray .int, 2) := by decide +kernel
theorem dX2_init_49 : decode cX2_init 49 = .ok (.putfield 27, 3) := by decide +kernel
theorem dX2_init_52 : decode cX2_init 52 = .ok (.aload_n 0, 1) := by decide +kernel
theorem dX2_init_53 : decode cX2_init 53 = .ok (.bipush 64, 2) := by decide +kernel
theorem dX2_init_55 : decode cX2_init 55 = .ok (.newarray .int, 2) := by decide +kernel
theorem dX2_init_57 : decode cX2_init 57 = .ok (.putfield 30, 3) := by decide +kernel
theorem dX2_init_60 : decode cX2_init 60 = .ok (.aload_n 0, 1) := by decide +kernel
theorem dX2_init_61 : decode cX2_init 61 = .ok (.bipush 64, 2) := by decide +kernel
theorem dX2_init_63 : decode cX2_init 63 = .ok (.newarray .int, 2) := by decide +kernel
theorem dX2_init_65 : decode cX2_init 65 = .ok (.putfield 33, 3) := by decide +kernel
theorem dX2_init_68 : decode cX2_init 68 = .ok (.aload_n 0, 1) := by decide +kernel
theorem dX2_init_69 : decode cX2_init 69 = .ok (.bipush 64, 2) := by decide +kernel
theorem dX2_init_71 : decode cX2_init 71 = .ok (.newarray .int, 2) := by decide +kernel
theorem dX2_init_73 : decode cX2_init 73 = .ok (.putfield 36, 3) := by decide +kernel
theorem dX2_init_76 : decode cX2_init 76 = .ok (.aload_n 0, 1) := by decide +kernel
theorem dX2_init_77 : decode cX2_init 77 = .ok (.bipush 64, 2) := by decide +kernel
theorem dX2_init_79 : decode cX2_init 79 = .ok (.newarray .int, 2) := by decide +kernel
theorem dX2_init_81 : decode cX2_init 81 = .ok (.putfield 39, 3) := by decide +kernel
theorem dX2_init_84 : decode cX2_init 84 = .ok (.aload_n 0, 1) := by decide +kernel
theorem dX2_init_85 : decode cX2_init 85 = .ok (.bipush 64, 2) := by decide +kernel
theorem dX2_init_87 : decode cX2_init 87 = .ok (.newarray .int, 2) := by decide +kernel
theorem dX2_init_89 : decode cX2_init 89 = .ok (.putfield 42, 3) := by decide +kernel
theorem dX2_init_92 : decode cX2_init 92 = .ok (.aload_n 0, 1) := by decide +kernel
theorem dX2_init_93 : decode cX2_init 93 = .ok (.bipush 64, 2) := by decide +kernel
theorem dX2_init_95 : decode cX2_init 95 = .ok (.newarray .int, 2) := by decide +kernel
theorem dX2_init_97 : decode cX2_init 97 = .ok (.putfield 45, 3) := by decide +kernel
theorem dX2_init_100 : decode cX2_init 100 = .ok (.aload_n 0, 1) := by decide +kernel
theorem dX2_init_101 : decode cX2_init 101 = .ok (.bipush 64, 2) := by decide +kernel
theorem dX2_init_103 : decode cX2_init 103 = .ok (.newarray .int, 2) := by decide +kernel
theorem dX2_init_105 : decode cX2_init 105 = .ok (.putfield 48, 3) := by decide +kernel
theorem dX2_init_108 : decode cX2_init 108 = .ok (.aload_n 0, 1) := by decide +kernel
theorem dX2_init_109 : decode cX2_init 109 = .ok (.iload_n 1, 1) := by decide +kernel
theorem dX2_init_110 : decode cX2_init 110 = .ok (.iload_n 2, 1) := by decide +kernel
theorem dX2_init_111 : decode cX2_init 111 = .ok (.invokevirtual 51, 3) := by decide +kernel
theorem dX2_init_114 : decode cX2_init 114 = .ok (.return_, 1) := by decide +kernel
set_option maxRecDepth 20000 in
theorem ggX2_startAnew_J7_fill_53178 : GoodIn wsX2_startAnew wsJ7_fill_53178 := goodIn_r _ [17] (by decide +kernel) (by decide +kernel)
set_option maxRecDepth 20000 in
theorem gX2_startAnew_J7_fill_53178 : GoodIn wsX2_startAnew (va_wsS RX2 71 yJ7_fill_53178 wsJ7_fill_53178) := goodIn_app (goodIn_of _ (by decide +kernel)) ggX2_startAnew_J7_fill_53178
set_option maxRecDepth 20000 in
theorem ggX2_startAnew_X2_clearCrop : GoodIn wsX2_startAnew wsX2_clearCrop := goodIn_r _ [22, 23, 24, 25, 26, 27, 28, 29, 30, 31, 32, 33, 34, 35, 36, 37, 38, 39, 40, 41, 42, 43, 44, 45] (by decide +kernel) (by decide +kernel)
set_option maxRecDepth 20000 in
theorem gX2_startAnew_X2_clearCrop : GoodIn wsX2_startAnew (wsV RX2 77 RX2 yX2_clearCrop wsX2_clearCrop) := goodIn_app (goodIn_of _ (by decide +kernel)) ggX2_startAnew_X2_clearCrop
theorem dX2_startAnew_0 : decode cX2_startAnew 0 = .ok (.aload_n 0, 1) := by decide +kernel
theorem dX2_startAnew_1 : decode cX2_startAnew 1 = .ok (.iload_n 1, 1) := by decide +kernel
theorem dX2_startAnew_2 : decode cX2_startAnew 2 = .ok (.putfield 55, 3) := by decide +kernel
theorem dX2_startAnew_5 : decode cX2_startAnew 5 = .ok (.aload_n 0, 1) := by decide +kernel
theorem dX2_startAnew_6 : decode cX2_startAnew 6 = .ok (.iload_n 2, 1) := by decide +kernel
theorem dX2_startAnew_7 : decode cX2_startAnew 7 = .ok (.putfield 59, 3) := by decide +kernel
theorem dX2_startAnew_10 : decode cX2_startAnew 10 = .ok (.aload_n 0, 1) := by decide +kernel
theorem dX2_startAnew_11 : decode cX2_startAnew 11 = .ok (.iconst 0, 1) := by decide +kernel
theorem dX2_startAnew_12 : decode cX2_startAnew 12 = .ok (.putfield 62, 3) := by decide +kernel
theorem dX2_startAnew_15 : decode cX2_startAnew 15 = .ok (.aload_n 0, 1) := by decide +kernel
theorem dX2_startAnew_16 : decode cX2_startAnew 16 = .ok (.iconst 0, 1) := by decide +kernel
theorem dX2_startAnew_17 : decode cX2_startAnew 17 = .ok (.putfield 65, 3) := by decide +kernel
theorem dX2_startAnew_20 : decode cX2_startAnew 20 = .ok (.aload_n 0, 1) := by decide +kernel
theorem dX2_startAnew_21 : decode cX2_startAnew 21 = .ok (.iconst 0, 1) := by decide +kernel
theorem dX2_startAnew_22 : decode cX2_startAnew 22 = .ok (.putfield 68, 3) := by decide +kernel
theorem dX2_startAnew_25 : decode cX2_startAnew 25 = .ok (.aload_n 0, 1) := by decide +kernel
theorem dX2_startAnew_26 : decode cX2_startAnew 26 = .ok (.getfield 9, 3) := by decide +kernel
theorem dX2_startAnew_29 : decode cX2_startAnew 29 = .ok (.iconst 1, 1) := by decide +kernel
theorem dX2_startAnew_30 : decode cX2_startAnew 30 = .ok (.invokestatic 71, 3) := by decide +kernel
theorem dX2_startAnew_33 : decode cX2_startAnew 33 = .ok (.aload_n 0, 1) := by decide +kernel
theorem dX2_startAnew_34 : decode cX2_startAnew 34 = .ok (.getfield 15, 3) := by decide +kernel
theorem dX2_startAnew_37 : decode cX2_startAnew 37 = .ok (.iconst 0, 1) := by decide +kernel
theorem dX2_startAnew_38 : decode cX2_startAnew 38 = .ok (.invokestatic 71, 3) := by decide +kernel
theorem dX2_startAnew_41 : decode cX2_startAnew 41 = .ok (.aload_n 0, 1) := by decide +kernel
theorem dX2_startAnew_42 : decode cX2_startAnew 42 = .ok (.getfield 18, 3) := by decide +kernel
theorem dX2_startAnew_45 : decode cX2_startAnew 45 = .ok (.bipush 60, 2) := by decide +kernel
theorem dX2_startAnew_47 : decode cX2_startAnew 47 = .ok (.invokestatic 71, 3) := by decide +kernel
theorem dX2_startAnew_50 : decode cX2_startAnew 50 = .ok (.aload_n 0, 1) := by decide +kernel
theorem dX2_startAnew_51 : decode cX2_startAnew 51 = .ok (.getfield 21, 3) := by decide +kernel
theorem dX2_startAnew_54 : decode cX2_startAnew 54 = .ok (.iconst 2, 1) := by decide +kernel
theorem dX2_startAnew_55 : decode cX2_startAnew 55 = .ok (.invokestatic 71, 3) := by decide +kernel
theorem dX2_startAnew_58 : decode cX2_startAnew 58 = .ok (.aload_n 0, 1) := by decide +kernel
theorem dX2_startAnew_59 : decode cX2_startAnew 59 = .ok (.getfield 24, 3) := by decide +kernel
theorem dX2_startAnew_62 : decode cX2_startAnew 62 = .ok (.bipush 30, 2) := by decide +kernel
theorem dX2_startAnew_64 : decode cX2_startAnew 64 = .ok (.invokestatic 71, 3) := by decide +kernel
theorem dX2_startAnew_67 : decode cX2_startAnew 67 = .ok (.aload_n 0, 1) := by decide +kernel
theorem dX2_startAnew_68 : decode cX2_startAnew 68 = .ok (.getfield 27, 3) := by decide +kernel
theorem dX2_startAnew_71 : decode cX2_startAnew 71 = .ok (.iconst 0, 1) := by decide +kernel
theorem dX2_startAnew_72 : decode cX2_startAnew 72 = .ok (.invokestatic 71, 3) := by decide +kernel
theorem dX2_startAnew_75 : decode cX2_startAnew 75 = .ok (.aload_n 0, 1) := by decide +kernel
theorem dX2_startAnew_76 : decode cX2_startAnew 76 = .ok (.getfield 45, 3) := by decide +kernel
theorem dX2_startAnew_79 : decode cX2_startAnew 79 = .ok (.iconst 0, 1) := by decide +kernel
theorem dX2_startAnew_80 : decode cX2_startAnew 80 = .ok (.invokestatic 71, 3) := by decide +kernel
theorem dX2_startAnew_83 : decode cX2_startAnew 83 = .ok (.aload_n 0, 1) := by decide +kernel
theorem dX2_startAnew_84 : decode cX2_startAnew 84 = .ok (.getfield 48, 3) := by decide +kernel
theorem dX2_startAnew_87 : decode cX2_startAnew 87 = .ok (.iconst 0, 1) := by decide +kernel
theorem dX2_startAnew_88 : decode cX2_startAnew 88 = .ok (.invokestatic 71, 3) := by decide +kernel
theorem dX2_startAnew_91 : decode cX2_startAnew 91 = .ok (.iconst 0, 1) := by decide +kernel
theorem dX2_startAnew_92 : decode cX2_startAnew 92 = .ok (.istore_n 3, 1) := by decide +kernel
theorem dX2_startAnew_93 : decode cX2_startAnew 93 = .ok (.iload_n 3, 1) := by decide +kernel
theorem dX2_startAnew_94 : decode cX2_startAnew 94 = .ok (.bipush 64, 2) := by decide +kernel
theorem dX2_startAnew_96 : decode cX2_startAnew 96 = .ok (.if_icmp .ge 14, 3) := by decide +kernel
theorem dX2_startAnew_99 : decode cX2_startAnew 99 = .ok (.aload_n 0, 1) := by decide +kernel
theorem dX2_startAnew_100 : decode cX2_startAnew 100 = .ok (.iload_n 3, 1) := by decide +kernel
theorem dX2_startAnew_101 : decode cX2_startAnew 101 = .ok (.invokevirtual 77, 3) := by decide +kernel
theorem dX2_startAnew_104 : decode cX2_startAnew 104 = .ok (.iinc 3 1, 3) := by decide +kernel
theorem dX2_startAnew_107 : decode cX2_startAnew 107 = .ok (.goto (-14), 3) := by decide +kernel
theorem dX2_startAnew_110 : decode cX2_startAnew 110 = .ok (.return_, 1) := by decide +kernel
set_option maxRecDepth 20000 in
theorem ggX2_copyFrom_X2_copyRow : GoodIn wsX2_copyFrom wsX2_copyRow := goodIn_r _ [26, 7, 8, 9, 10] (by decide +kernel) (by decide +kernel)
set_option maxRecDepth 20000 in
theorem gX2_copyFrom_X2_copyRow : GoodIn wsX2_copyFrom (va_wsS RX2 87 yX2_copyRow wsX2_copyRow) := goodIn_app (goodIn_of _ (by decide +kernel)) ggX2_copyFrom_X2_copyRow
theorem dX2_copyFrom_0 : decode cX2_copyFrom 0 = .ok (.aload_n 0, 1) := by decide +kernel
theorem dX2_copyFrom_1 : decode cX2_copyFrom 1 = .ok (.aload_n 1, 1) := by decide +kernel
theorem dX2_copyFrom_2 : decode cX2_copyFrom 2 = .ok (.getfield 55, 3) := by decide +kernel
theorem dX2_copyFrom_5 : decode cX2_copyFrom 5 = .ok (.putfield 55, 3) := by decide +kernel
theorem dX2_copyFrom_8 : decode cX2_copyFrom 8 = .ok (.aload_n 0, 1) := by decide +kernel
theorem dX2_copyFrom_9 : decode cX2_copyFrom 9 = .ok (.aload_n 1, 1) := by decide +kernel
theorem dX2_copyFrom_10 : decode cX2_copyFrom 10 = .ok (.getfield 59, 3) := by decide +kernel
theorem dX2_copyFrom_13 : decode cX2_copyFrom 13 = .ok (.putfield 59, 3) := by decide +kernel
theorem dX2_copyFrom_16 : decode cX2_copyFrom 16 = .ok (.aload_n 0, 1) := by decide +kernel
theorem dX2_copyFrom_17 : decode cX2_copyFrom 17 = .ok (.aload_n 1, 1) := by decide +kernel
theorem dX2_copyFrom_18 : decode cX2_copyFrom 18 = .ok (.getfield 62, 3) := by decide +kernel
theorem dX2_copyFrom_21 : decode cX2_copyFrom 21 = .ok (.putfield 62, 3) := by decide +kernel
theorem dX2_copyFrom_24 : decode cX2_copyFrom 24 = .ok (.aload_n 0, 1) := by decide +kernel
theorem dX2_copyFrom_25 : decode cX2_copyFrom 25 = .ok (.aload_n 1, 1) := by decide +kernel
theorem dX2_copyFrom_26 : decode cX2_copyFrom 26 = .ok (.getfield 65, 3) := by decide +kernel
theorem dX2_copyFrom_29 : decode cX2_copyFrom 29 = .ok (.putfield 65, 3) := by decide +kernel
theorem dX2_copyFrom_32 : decode cX2_copyFrom 32 = .ok (.aload_n 0, 1) := by decide +kernel
theorem dX2_copyFrom_33 : decode cX2_copyFrom 33 = .ok (.aload_n 1, 1) := by decide +kernel
theorem dX2_copyFrom_34 : decode cX2_copyFrom 34 = .ok (.getfield 68, 3) := by decide +kernel
theorem dX2_copyFrom_37 : decode cX2_copyFrom 37 = .ok (.putfield 68, 3) := by decide +kernel
theorem dX2_copyFrom_40 : decode cX2_copyFrom 40 = .ok (.aload_n 1, 1) := by decide +kernel
theorem dX2_copyFrom_41 : decode cX2_copyFrom 41 = .ok (.getfield 9, 3) := by decide +kernel
theorem dX2_copyFrom_44 : decode cX2_copyFrom 44 = .ok (.iconst 0, 1) := by decide +kernel
theorem dX2_copyFrom_45 : decode cX2_copyFrom 45 = .ok (.aload_n 0, 1) := by decide +kernel
theorem dX2_copyFrom_46 : decode cX2_copyFrom 46 = .ok (.getfield 9, 3) := by decide +kernel
theorem dX2_copyFrom_49 : decode cX2_copyFrom 49 = .ok (.iconst 0, 1) := by decide +kernel
theorem dX2_copyFrom_50 : decode cX2_copyFrom 50 = .ok (.bipush 8, 2) := by decide +kernel
theorem dX2_copyFrom_52 : decode cX2_copyFrom 52 = .ok (.invokestatic 81, 3) := by decide +kernel
theorem dX2_copyFrom_55 : decode cX2_copyFrom 55 = .ok (.aload_n 1, 1) := by decide +kernel
theorem dX2_copyFrom_56 : decode cX2_copyFrom 56 = .ok (.getfield 15, 3) := by decide +kernel
theorem dX2_copyFrom_59 : decode cX2_copyFrom 59 = .ok (.aload_n 0, 1) := by decide +kernel
theorem dX2_copyFrom_60 : decode cX2_copyFrom 60 = .ok (.getfield 15, 3) := by decide +kernel
theorem dX2_copyFrom_63 : decode cX2_copyFrom 63 = .ok (.invokestatic 87, 3) := by decide +kernel
theorem dX2_copyFrom_66 : decode cX2_copyFrom 66 = .ok (.aload_n 1, 1) := by decide +kernel
theorem dX2_copyFrom_67 : decode cX2_copyFrom 67 = .ok (.getfield 18, 3) := by decide +kernel
theorem dX2_copyFrom_70 : decode cX2_copyFrom 70 = .ok (.aload_n 0, 1) := by decide +kernel
theorem dX2_copyFrom_71 : decode cX2_copyFrom 71 = .ok (.getfield 18, 3) := by decide +kernel
theorem dX2_copyFrom_74 : decode cX2_copyFrom 74 = .ok (.invokestatic 87, 3) := by decide +kernel
theorem dX2_copyFrom_77 : decode cX2_copyFrom 77 = .ok (.aload_n 1, 1) := by decide +kernel
theorem dX2_copyFrom_78 : decode cX2_copyFrom 78 = .ok (.getfield 21, 3) := by decide +kernel
theorem dX2_copyFrom_81 : decode cX2_copyFrom 81 = .ok (.aload_n 0, 1) := by decide +kernel
theorem dX2_copyFrom_82 : decode cX2_copyFrom 82 = .ok (.getfield 21, 3) := by decide +kernel
theorem dX2_copyFrom_85 : decode cX2_copyFrom 85 = .ok (.invokestatic 87, 3) := by decide +kernel
theorem dX2_copyFrom_88 : decode cX2_copyFrom 88 = .ok (.aload_n 1, 1) := by decide +kernel
theorem dX2_copyFrom_89 : decode cX2_copyFrom 89 = .ok (.getfield 24, 3) := by decide +kernel
theorem dX2_copyFrom_92 : decode cX2_copyFrom 92 = .ok (.aload_n 0, 1) := by decide +kernel
theorem dX2_copyFrom_93 : decode cX2_copyFrom 93 = .ok (.getfield 24, 3) := by decide +kernel
theorem dX2_copyFrom_96 : decode cX2_copyFrom 96 = .ok (.invokestatic 87, 3) := by decide +kernel
theorem dX2_copyFrom_99 : decode cX2_copyFrom 99 = .ok (.aload_n 1, 1) := by decide +kernel
theorem dX2_copyFrom_100 : decode cX2_copyFrom 100 = .ok (.getfield 27, 3) := by decide +kernel
theorem dX2_copyFrom_103 : decode cX2_copyFrom 103 = .ok (.aload_n 0, 1) := by decide +kernel
theorem dX2_copyFrom_104 : decode cX2_copyFrom 104 = .ok (.getfield 27, 3) := by decide +kernel
theorem dX2_copyFrom_107 : decode cX2_copyFrom 107 = .ok (.invokestatic 87, 3) := by decide +kernel
theorem dX2_copyFrom_110 : decode cX2_copyFrom 110 = .ok (.aload_n 1, 1) := by decide +kernel
theorem dX2_copyFrom_111 : decode cX2_copyFrom 111 = .ok (.getfield 30, 3) := by decide +kernel
theorem dX2_copyFrom_114 : decode cX2_copyFrom 114 = .ok (.aload_n 0, 1) := by decide +kernel
theorem dX2_copyFrom_115 : decode cX2_copyFrom 115 = .ok (.getfield 30, 3) := by decide +kernel
theorem dX2_copyFrom_118 : decode cX2_copyFrom 118 = .ok (.invokestatic 87, 3) := by decide +kernel
theorem dX2_copyFrom_121 : decode cX2_copyFrom 121 = .ok (.aload_n 1, 1) := by decide +kernel
theorem dX2_copyFrom_122 : decode cX2_copyFrom 122 = .ok (.getfield 33, 3) := by decide +kernel
theorem dX2_copyFrom_125 : decode cX2_copyFrom 125 = .ok (.aload_n 0, 1) := by decide +kernel
theorem dX2_copyFrom_126 : decode cX2_copyFrom 126 = .ok (.getfield 33, 3) := by decide +kernel
theorem dX2_copyFrom_129 : decode cX2_copyFrom 129 = .ok (.invokestatic 87, 3) := by decide +kernel
theorem dX2_copyFrom_132 : decode cX2_copyFrom 132 = .ok (.aload_n 1, 1) := by decide +kernel
theorem dX2_copyFrom_133 : decode cX2_copyFrom 133 = .ok (.getfield 36, 3) := by decide +kernel
theorem dX2_copyFrom_136 : decode cX2_copyFrom 136 = .ok (.aload_n 0, 1) := by decide +kernel
theorem dX2_copyFrom_137 : decode cX2_copyFrom 137 = .ok (.getfield 36, 3) := by decide +kernel
theorem dX2_copyFrom_140 : decode cX2_copyFrom 140 = .ok (.invokestatic 87, 3) := by decide +kernel
theorem dX2_copyFrom_143 : decode cX2_copyFrom 143 = .ok (.aload_n 1, 1) := by decide +kernel
theorem dX2_copyFrom_144 : decode cX2_copyFrom 144 = .ok (.getfield 39, 3) := by decide +kernel
theorem dX2_copyFrom_147 : decode cX2_copyFrom 147 = .ok (.aload_n 0, 1) := by decide +kernel
theorem dX2_copyFrom_148 : decode cX2_copyFrom 148 = .ok (.getfield 39, 3) := by decide +kernel
theorem dX2_copyFrom_151 : decode cX2_copyFrom 151 = .ok (.invokestatic 87, 3) := by decide +kernel
theorem dX2_copyFrom_154 : decode cX2_copyFrom 154 = .ok (.aload_n 1, 1) := by decide +kernel
theorem dX2_copyFrom_155 : decode cX2_copyFrom 155 = .ok (.getfield 42, 3) := by decide +kernel
theorem dX2_copyFrom_158 : decode cX2_copyFrom 158 = .ok (.aload_n 0, 1) := by decide +kernel
theorem dX2_copyFrom_159 : decode cX2_copyFrom 159 = .ok (.getfield 42, 3) := by decide +kernel
theorem dX2_copyFrom_162 : decode cX2_copyFrom 162 = .ok (.invokestatic 87, 3) := by decide +kernel
theorem dX2_copyFrom_165 : decode cX2_copyFrom 165 = .ok (.aload_n 1, 1) := by decide +kernel
theorem dX2_copyFrom_166 : decode cX2_copyFrom 166 = .ok (.getfield 45, 3) := by decide +kernel
theorem dX2_copyFrom_169 : decode cX2_copyFrom 169 = .ok (.aload_n 0, 1) := by decide +kernel
theorem dX2_copyFrom_170 : decode cX2_copyFrom 170 = .ok (.getfield 45, 3) := by decide +kernel
theorem dX2_copyFrom_173 : decode cX2_copyFrom 173 = .ok (.invokestatic 87, 3) := by decide +kernel
theorem dX2_copyFrom_176 : decode cX2_copyFrom 176 = .ok (.aload_n 1, 1) := by decide +kernel
theorem dX2_copyFrom_177 : decode cX2_copyFrom 177 = .ok (.getfield 48, 3) := by decide +kernel
theorem dX2_copyFrom_180 : decode cX2_copyFrom 180 = .ok (.aload_n 0, 1) := by decide +kernel
theorem dX2_copyFrom_181 : decode cX2_copyFrom 181 = .ok (.getfield 48, 3) := by decide +kernel
theorem dX2_copyFrom_184 : decode cX2_copyFrom 184 = .ok (.invokestatic 87, 3) := by decide +kernel
theorem dX2_copyFrom_187 : decode cX2_copyFrom 187 = .ok (.return_, 1) := by decide +kernel
theorem dX2_copyRow_0 : decode cX2_copyRow 0 = .ok (.aload_n 0, 1) := by decide +kernel
theorem dX2_copyRow_1 : decode cX2_copyRow 1 = .ok (.iconst 0, 1) := by decide +kernel
theorem dX2_copyRow_2 : decode cX2_copyRow 2 = .ok (.aload_n 1, 1) := by decide +kernel
theorem dX2_copyRow_3 : decode cX2_copyRow 3 = .ok (.iconst 0, 1) := by decide +kernel
theorem dX2_copyRow_4 : decode cX2_copyRow 4 = .ok (.bipush 64, 2) := by decide +kernel
theorem dX2_copyRow_6 : decode cX2_copyRow 6 = .ok (.invokestatic 81, 3) := by decide +kernel
theorem dX2_copyRow_9 : decode cX2_copyRow 9 = .ok (.return_, 1) := by decide +kernel
theorem dX2_cells_0 : decode cX2_cells 0 = .ok (.aload_n 0, 1) := by decide +kernel
theorem dX2_cells_1 : decode cX2_cells 1 = .ok (.getfield 55, 3) := by decide +kernel
theorem dX2_cells_4 : decode cX2_cells 4 = .ok (.aload_n 0, 1) := by decide +kernel
theorem dX2_cells_5 : decode cX2_cells 5 = .ok (.getfield 59, 3) := by decide +kernel
theorem dX2_cells_8 : decode cX2_cells 8 = .ok (.imul, 1) := by decide +kernel
theorem dX2_cells_9 : decode cX2_cells 9 = .ok (.ireturn, 1) := by decide +kernel
theorem dX2_hasField_0 : decode cX2_hasField 0 = .ok (.iload_n 1, 1) := by decide +kernel
theorem dX2_hasField_1 : decode cX2_hasField 1 = .ok (.ifCond .lt 27, 3) := by decide +kernel
theorem dX2_hasField_4 : decode cX2_hasField 4 = .ok (.iload_n 1, 1) := by decide +kernel
theorem dX2_hasField_5 : decode cX2_hasField 5 = .ok (.aload_n 0, 1) := by decide +kernel
theorem dX2_hasField_6 : decode cX2_hasField 6 = .ok (.getfield 55, 3) := by decide +kernel
theorem dX2_hasField_9 : decode cX2_hasField 9 = .ok (.if_icmp .ge 19, 3) := by decide +kernel
theorem dX2_hasField_12 : decode cX2_hasField 12 = .ok (.iload_n 2, 1) := by decide +kernel
theorem dX2_hasField_13 : decode cX2_hasField 13 = .ok (.ifCond .lt 15, 3) := by decide +kernel
theorem dX2_hasField_16 : decode cX2_hasField 16 = .ok (.iload_n 2, 1) := by decide +kernel
theorem dX2_hasField_17 : decode cX2_hasField 17 = .ok (.aload_n 0, 1) := by decide +kernel
theorem dX2_hasField_18 : decode cX2_hasField 18 = .ok (.getfield 59, 3) := by decide +kernel
theorem dX2_hasField_21 : decode cX2_hasField 21 = .ok (.if_icmp .ge 7, 3) := by decide +kernel
theorem dX2_hasField_24 : decode cX2_hasField 24 = .ok (.iconst 1, 1) := by decide +kernel
theorem dX2_hasField_25 : decode cX2_hasField 25 = .ok (.goto 4, 3) := by decide +kernel
theorem dX2_hasField_28 : decode cX2_hasField 28 = .ok (.iconst 0, 1) := by decide +kernel
theorem dX2_hasField_29 : decode cX2_hasField 29 = .ok (.ireturn, 1) := by decide +kernel
theorem dX2_cellOf_0 : decode cX2_cellOf 0 = .ok (.iload_n 1, 1) := by decide +kernel
theorem dX2_cellOf_1 : decode cX2_cellOf 1 = .ok (.aload_n 0, 1) := by decide +kernel
theorem dX2_cellOf_2 : decode cX2_cellOf 2 = .ok (.getfield 59, 3) := by decide +kernel
theorem dX2_cellOf_5 : decode cX2_cellOf 5 = .ok (.imul, 1) := by decide +kernel
theorem dX2_cellOf_6 : decode cX2_cellOf 6 = .ok (.iload_n 2, 1) := by decide +kernel
theorem dX2_cellOf_7 : decode cX2_cellOf 7 = .ok (.iadd, 1) := by decide +kernel
theorem dX2_cellOf_8 : decode cX2_cellOf 8 = .ok (.ireturn, 1) := by decide +kernel
theorem dX2_fieldNumber_0 : decode cX2_fieldNumber 0 = .ok (.iload_n 2, 1) := by decide +kernel
theorem dX2_fieldNumber_1 : decode cX2_fieldNumber 1 = .ok (.tableswitch 136 0 10 #[59, 66, 73, 80, 87, 94, 101, 108, 115, 122, 129], 59) := by decide +kernel
theorem dX2_fieldNumber_60 : decode cX2_fieldNumber 60 = .ok (.aload_n 0, 1) := by decide +kernel
theorem dX2_fieldNumber_61 : decode cX2_fieldNumber 61 = .ok (.getfield 15, 3) := by decide +kernel
theorem dX2_fieldNumber_64 : decode cX2_fieldNumber 64 = .ok (.iload_n 1, 1) := by decide +kernel
theorem dX2_fieldNumber_65 : decode cX2_fieldNumber 65 = .ok (.iaload, 1) := by decide +kernel
theorem dX2_fieldNumber_66 : decode cX2_fieldNumber 66 = .ok (.ireturn, 1) := by decide +kernel
theorem dX2_fieldNumber_67 : decode cX2_fieldNumber 67 = .ok (.aload_n 0, 1) := by decide +kernel
theorem dX2_fieldNumber_68 : decode cX2_fieldNumber 68 = .ok (.getfield 18, 3) := by decide +kernel
theorem dX2_fieldNumber_71 : decode cX2_fieldNumber 71 = .ok (.iload_n 1, 1) := by decide +kernel
theorem dX2_fieldNumber_72 : decode cX2_fieldNumber 72 = .ok (.iaload, 1) := by decide +kernel
theorem dX2_fieldNumber_73 : decode cX2_fieldNumber 73 = .ok (.ireturn, 1) := by decide +kernel
theorem dX2_fieldNumber_74 : decode cX2_fieldNumber 74 = .ok (.aload_n 0, 1) := by decide +kernel
theorem dX2_fieldNumber_75 : decode cX2_fieldNumber 75 = .ok (.getfield 21, 3) := by decide +kernel
theorem dX2_fieldNumber_78 : decode cX2_fieldNumber 78 = .ok (.iload_n 1, 1) := by decide +kernel
theorem dX2_fieldNumber_79 : decode cX2_fieldNumber 79 = .ok (.iaload, 1) := by decide +kernel
theorem dX2_fieldNumber_80 : decode cX2_fieldNumber 80 = .ok (.ireturn, 1) := by decide +kernel
theorem dX2_fieldNumber_81 : decode cX2_fieldNumber 81 = .ok (.aload_n 0, 1) := by decide +kernel
theorem dX2_fieldNumber_82 : decode cX2_fieldNumber 82 = .ok (.getfield 24, 3) := by decide +kernel
theorem dX2_fieldNumber_85 : decode cX2_fieldNumber 85 = .ok (.iload_n 1, 1) := by decide +kernel
theorem dX2_fieldNumber_86 : decode cX2_fieldNumber 86 = .ok (.iaload, 1) := by decide +kernel
theorem dX2_fieldNumber_87 : decode cX2_fieldNumber 87 = .ok (.ireturn, 1) := by decide +kernel
theorem dX2_fieldNumber_88 : decode cX2_fieldNumber 88 = .ok (.aload_n 0, 1) := by decide +kernel
theorem dX2_fieldNumber_89 : decode cX2_fieldNumber 89 = .ok (.getfield 27, 3) := by decide +kernel
theorem dX2_fieldNumber_92 : decode cX2_fieldNumber 92 = .ok (.iload_n 1, 1) := by decide +kernel
theorem dX2_fieldNumber_93 : decode cX2_fieldNumber 93 = .ok (.iaload, 1) := by decide +kernel
theorem dX2_fieldNumber_94 : decode cX2_fieldNumber 94 = .ok (.ireturn, 1) := by decide +kernel
theorem dX2_fieldNumber_95 : decode cX2_fieldNumber 95 = .ok (.aload_n 0, 1) := by decide +kernel
theorem dX2_fieldNumber_96 : decode cX2_fieldNumber 96 = .ok (.getfield 30, 3) := by decide +kernel
theorem dX2_fieldNumber_99 : decode cX2_fieldNumber 99 = .ok (.iload_n 1, 1) := by decide +kernel
theorem dX2_fieldNumber_100 : decode cX2_fieldNumber 100 = .ok (.iaload, 1) := by decide +kernel
theorem dX2_fieldNumber_101 : decode cX2_fieldNumber 101 = .ok (.ireturn, 1) := by decide +kernel
theorem dX2_fieldNumber_102 : decode cX2_fieldNumber 102 = .ok (.aload_n 0, 1) := by decide +kernel
theorem dX2_fieldNumber_103 : decode cX2_fieldNumber 103 = .ok (.getfield 33, 3) := by decide +kernel
theorem dX2_fieldNumber_106 : decode cX2_fieldNumber 106 = .ok (.iload_n 1, 1) := by decide +kernel
theorem dX2_fieldNumber_107 : decode cX2_fieldNumber 107 = .ok (.iaload, 1) := by decide +kernel
theorem dX2_fieldNumber_108 : decode cX2_fieldNumber 108 = .ok (.ireturn, 1) := by decide +kernel
theorem dX2_fieldNumber_109 : decode cX2_fieldNumber 109 = .ok (.aload_n 0, 1) := by decide +kernel
theorem dX2_fieldNumber_110 : decode cX2_fieldNumber 110 = .ok (.getfield 36, 3) := by decide +kernel
theorem dX2_fieldNumber_113 : decode cX2_fieldNumber 113 = .ok (.iload_n 1, 1) := by decide +kernel
theorem dX2_fieldNumber_114 : decode cX2_fieldNumber 114 = .ok (.iaload, 1) := by decide +kernel
theorem dX2_fieldNumber_115 : decode cX2_fieldNumber 115 = .ok (.ireturn, 1) := by decide +kernel
theorem dX2_fieldNumber_116 : decode cX2_fieldNumber 116 = .ok (.aload_n 0, 1) := by decide +kernel
theorem dX2_fieldNumber_117 : decode cX2_fieldNumber 117 = .ok (.getfield 39, 3) := by decide +kernel
theorem dX2_fieldNumber_120 : decode cX2_fieldNumber 120 = .ok (.iload_n 1, 1) := by decide +kernel
theorem dX2_fieldNumber_121 : decode cX2_fieldNumber 121 = .ok (.iaload, 1) := by decide +kernel
theorem dX2_fieldNumber_122 : decode cX2_fieldNumber 122 = .ok (.ireturn, 1) := by decide +kernel
theorem dX2_fieldNumber_123 : decode cX2_fieldNumber 123 = .ok (.aload_n 0, 1) := by decide +kernel
theorem dX2_fieldNumber_124 : decode cX2_fieldNumber 124 = .ok (.getfield 42, 3) := by decide +kernel
theorem dX2_fieldNumber_127 : decode cX2_fieldNumber 127 = .ok (.iload_n 1, 1) := by decide +kernel
theorem dX2_fieldNumber_128 : decode cX2_fieldNumber 128 = .ok (.iaload, 1) := by decide +kernel
theorem dX2_fieldNumber_129 : decode cX2_fieldNumber 129 = .ok (.ireturn, 1) := by decide +kernel
theorem dX2_fieldNumber_130 : decode cX2_fieldNumber 130 = .ok (.aload_n 0, 1) := by decide +kernel
theorem dX2_fieldNumber_131 : decode cX2_fieldNumber 131 = .ok (.getfield 45, 3) := by decide +kernel
theorem dX2_fieldNumber_134 : decode cX2_fieldNumber 134 = .ok (.iload_n 1, 1) := by decide +kernel
theorem dX2_fieldNumber_135 : decode cX2_fieldNumber 135 = .ok (.iaload, 1) := by decide +kernel
theorem dX2_fieldNumber_136 : decode cX2_fieldNumber 136 = .ok (.ireturn, 1) := by decide +kernel
theorem dX2_fieldNumber_137 : decode cX2_fieldNumber 137 = .ok (.aload_n 0, 1) := by decide +kernel
theorem dX2_fieldNumber_138 : decode cX2_fieldNumber 138 = .ok (.getfield 48, 3) := by decide +kernel
theorem dX2_fieldNumber_141 : decode cX2_fieldNumber 141 = .ok (.iload_n 1, 1) := by decide +kernel
theorem dX2_fieldNumber_142 : decode cX2_fieldNumber 142 = .ok (.iaload, 1) := by decide +kernel
theorem dX2_fieldNumber_143 : decode cX2_fieldNumber 143 = .ok (.ireturn, 1) := by decide +kernel
set_option maxRecDepth 20000 in
theorem ggX2_crops_X2_sumOf : GoodIn wsX2_crops wsX2_sumOf := goodIn_r _ [6, 7, 8, 9, 5, 10, 11, 12, 13, 14, 15, 16, 17, 18, 19, 20, 21, 22, 23, 24, 25, 26, 27, 28, 29, 30] (by decide +kernel) (by decide +kernel)
set_option maxRecDepth 20000 in
theorem gX2_crops_X2_sumOf : GoodIn wsX2_crops (wsV RX2 91 RX2 yX2_sumOf wsX2_sumOf) := goodIn_app (goodIn_of _ (by decide +kernel)) ggX2_crops_X2_sumOf
theorem dX2_crops_0 : decode cX2_crops 0 = .ok (.aload_n 0, 1) := by decide +kernel
theorem dX2_crops_1 : decode cX2_crops 1 = .ok (.aload_n 0, 1) := by decide +kernel
theorem dX2_crops_2 : decode cX2_crops 2 = .ok (.getfield 30, 3) := by decide +kernel
theorem dX2_crops_5 : decode cX2_crops 5 = .ok (.invokevirtual 91, 3) := by decide +kernel
theorem dX2_crops_8 : decode cX2_crops 8 = .ok (.ireturn, 1) := by decide +kernel
set_option maxRecDepth 20000 in
theorem ggX2_allHardness_X2_sumOf : GoodIn wsX2_allHardness wsX2_sumOf := goodIn_r _ [6, 7, 8, 9, 5, 10, 11, 12, 13, 14, 15, 16, 17, 18, 19, 20, 21, 22, 23, 24, 25, 26, 27, 28, 29, 30] (by decide +kernel) (by decide +kernel)
set_option maxRecDepth 20000 in
theorem gX2_allHardness_X2_sumOf : GoodIn wsX2_allHardness (wsV RX2 91 RX2 yX2_sumOf wsX2_sumOf) := goodIn_app (goodIn_of _ (by decide +kernel)) ggX2_allHardness_X2_sumOf
theorem dX2_allHardness_0 : decode cX2_allHardness 0 = .ok (.aload_n 0, 1) := by decide +kernel
theorem dX2_allHardness_1 : decode cX2_allHardness 1 = .ok (.aload_n 0, 1) := by decide +kernel
theorem dX2_allHardness_2 : decode cX2_allHardness 2 = .ok (.getfield 36, 3) := by decide +kernel
theorem dX2_allHardness_5 : decode cX2_allHardness 5 = .ok (.invokevirtual 91, 3) := by decide +kernel
theorem dX2_allHardness_8 : decode cX2_allHardness 8 = .ok (.ireturn, 1) := by decide +kernel
set_option maxRecDepth 20000 in
theorem ggX2_allDepths_X2_sumOf : GoodIn wsX2_allDepths wsX2_sumOf := goodIn_r _ [6, 7, 8, 9, 5, 10, 11, 12, 13, 14, 15, 16, 17, 18, 19, 20, 21, 22, 23, 24, 25, 26, 27, 28, 29, 30] (by decide +kernel) (by decide +kernel)
set_option maxRecDepth 20000 in
theorem gX2_allDepths_X2_sumOf : GoodIn wsX2_allDepths (wsV RX2 91 RX2 yX2_sumOf wsX2_sumOf) := goodIn_app (goodIn_of _ (by decide +kernel)) ggX2_allDepths_X2_sumOf
theorem dX2_allDepths_0 : decode cX2_allDepths 0 = .ok (.aload_n 0, 1) := by decide +kernel
theorem dX2_allDepths_1 : decode cX2_allDepths 1 = .ok (.aload_n 0, 1) := by decide +kernel
theorem dX2_allDepths_2 : decode cX2_allDepths 2 = .ok (.getfield 15, 3) := by decide +kernel
theorem dX2_allDepths_5 : decode cX2_allDepths 5 = .ok (.invokevirtual 91, 3) := by decide +kernel
theorem dX2_allDepths_8 : decode cX2_allDepths 8 = .ok (.ireturn, 1) := by decide +kernel
set_option maxRecDepth 20000 in
theorem ggX2_sumOf_X2_cells : GoodIn wsX2_sumOf wsX2_cells := goodIn_r _ [5, 6, 7, 8, 9, 10, 11, 12, 13, 14, 15, 16, 17, 18, 19, 20, 21, 22, 23, 24, 25] (by decide +kernel) (by decide +kernel)
set_option maxRecDepth 20000 in
theorem gX2_sumOf_X2_cells : GoodIn wsX2_sumOf (wsV RX2 95 RX2 yX2_cells wsX2_cells) := goodIn_app (goodIn_of _ (by decide +kernel)) ggX2_sumOf_X2_cells
theorem dX2_sumOf_0 : decode cX2_sumOf 0 = .ok (.iconst 0, 1) := by decide +kernel
theorem dX2_sumOf_1 : decode cX2_sumOf 1 = .ok (.istore_n 2, 1) := by decide +kernel
theorem dX2_sumOf_2 : decode cX2_sumOf 2 = .ok (.iconst 0, 1) := by decide +kernel
theorem dX2_sumOf_3 : decode cX2_sumOf 3 = .ok (.istore_n 3, 1) := by decide +kernel
theorem dX2_sumOf_4 : decode cX2_sumOf 4 = .ok (.iload_n 3, 1) := by decide +kernel
theorem dX2_sumOf_5 : decode cX2_sumOf 5 = .ok (.aload_n 0, 1) := by decide +kernel
theorem dX2_sumOf_6 : decode cX2_sumOf 6 = .ok (.invokevirtual 95, 3) := by decide +kernel
theorem dX2_sumOf_9 : decode cX2_sumOf 9 = .ok (.if_icmp .ge 15, 3) := by decide +kernel
theorem dX2_sumOf_12 : decode cX2_sumOf 12 = .ok (.iload_n 2, 1) := by decide +kernel
theorem dX2_sumOf_13 : decode cX2_sumOf 13 = .ok (.aload_n 1, 1) := by decide +kernel
theorem dX2_sumOf_14 : decode cX2_sumOf 14 = .ok (.iload_n 3, 1) := by decide +kernel
theorem dX2_sumOf_15 : decode cX2_sumOf 15 = .ok (.iaload, 1) := by decide +kernel
theorem dX2_sumOf_16 : decode cX2_sumOf 16 = .ok (.iadd, 1) := by decide +kernel
theorem dX2_sumOf_17 : decode cX2_sumOf 17 = .ok (.istore_n 2, 1) := by decide +kernel
theorem dX2_sumOf_18 : decode cX2_sumOf 18 = .ok (.iinc 3 1, 3) := by decide +kernel
theorem dX2_sumOf_21 : decode cX2_sumOf 21 = .ok (.goto (-17), 3) := by decide +kernel
theorem dX2_sumOf_24 : decode cX2_sumOf 24 = .ok (.iload_n 2, 1) := by decide +kernel
theorem dX2_sumOf_25 : decode cX2_sumOf 25 = .ok (.ireturn, 1) := by decide +kernel
theorem dX2_clearCrop_0 : decode cX2_clearCrop 0 = .ok (.aload_n 0, 1) := by decide +kernel
theorem dX2_clearCrop_1 : decode cX2_clearCrop 1 = .ok (.getfield 30, 3) := by decide +kernel
theorem dX2_clearCrop_4 : decode cX2_clearCrop 4 = .ok (.iload_n 1, 1) := by decide +kernel
theorem dX2_clearCrop_5 : decode cX2_clearCrop 5 = .ok (.iconst 0, 1) := by decide +kernel
theorem dX2_clearCrop_6 : decode cX2_clearCrop 6 = .ok (.iastore, 1) := by decide +kernel
theorem dX2_clearCrop_7 : decode cX2_clearCrop 7 = .ok (.aload_n 0, 1) := by decide +kernel
theorem dX2_clearCrop_8 : decode cX2_clearCrop 8 = .ok (.getfield 33, 3) := by decide +kernel
theorem dX2_clearCrop_11 : decode cX2_clearCrop 11 = .ok (.iload_n 1, 1) := by decide +kernel
theorem dX2_clearCrop_12 : decode cX2_clearCrop 12 = .ok (.iconst 0, 1) := by decide +kernel
theorem dX2_clearCrop_13 : decode cX2_clearCrop 13 = .ok (.iastore, 1) := by decide +kernel
theorem dX2_clearCrop_14 : decode cX2_clearCrop 14 = .ok (.aload_n 0, 1) := by decide +kernel
theorem dX2_clearCrop_15 : decode cX2_clearCrop 15 = .ok (.getfield 36, 3) := by decide +kernel
theorem dX2_clearCrop_18 : decode cX2_clearCrop 18 = .ok (.iload_n 1, 1) := by decide +kernel
theorem dX2_clearCrop_19 : decode cX2_clearCrop 19 = .ok (.iconst 0, 1) := by decide +kernel
theorem dX2_clearCrop_20 : decode cX2_clearCrop 20 = .ok (.iastore, 1) := by decide +kernel
theorem dX2_clearCrop_21 : decode cX2_clearCrop 21 = .ok (.aload_n 0, 1) := by decide +kernel
theorem dX2_clearCrop_22 : decode cX2_clearCrop 22 = .ok (.getfield 39, 3) := by decide +kernel
theorem dX2_clearCrop_25 : decode cX2_clearCrop 25 = .ok (.iload_n 1, 1) := by decide +kernel
theorem dX2_clearCrop_26 : decode cX2_clearCrop 26 = .ok (.iconst 0, 1) := by decide +kernel
theorem dX2_clearCrop_27 : decode cX2_clearCrop 27 = .ok (.iastore, 1) := by decide +kernel
theorem dX2_clearCrop_28 : decode cX2_clearCrop 28 = .ok (.aload_n 0, 1) := by decide +kernel
theorem dX2_clearCrop_29 : decode cX2_clearCrop 29 = .ok (.getfield 42, 3) := by decide +kernel
theorem dX2_clearCrop_32 : decode cX2_clearCrop 32 = .ok (.iload_n 1, 1) := by decide +kernel
theorem dX2_clearCrop_33 : decode cX2_clearCrop 33 = .ok (.iconst 0, 1) := by decide +kernel
theorem dX2_clearCrop_34 : decode cX2_clearCrop 34 = .ok (.iastore, 1) := by decide +kernel
theorem dX2_clearCrop_35 : decode cX2_clearCrop 35 = .ok (.return_, 1) := by decide +kernel
set_option maxRecDepth 20000 in
theorem ggX2_letDaysGoBy_X2_takeRain : GoodIn wsX2_letDaysGoBy wsX2_takeRain := goodIn_r _ [9, 10, 11, 12, 13, 8, 14, 15, 16, 85, 86, 87, 88, 89, 90, 91, 92, 93, 94, 95, 96, 97, 98, 99, 100, 101, 102] (by decide +kernel) (by decide +kernel)
set_option maxRecDepth 20000 in
theorem gX2_letDaysGoBy_X2_takeRain : GoodIn wsX2_letDaysGoBy (wsV RX2 104 RX2 yX2_takeRain wsX2_takeRain) := goodIn_app (goodIn_of _ (by decide +kernel)) ggX2_letDaysGoBy_X2_takeRain
set_option maxRecDepth 20000 in
theorem ggX2_letDaysGoBy_X2_takeSpring : GoodIn wsX2_letDaysGoBy wsX2_takeSpring := goodIn_r _ [20, 16, 21, 10, 85, 86, 87, 88, 89, 90, 91, 92, 93, 94, 95, 96, 97, 98, 99, 100, 101, 102] (by decide +kernel) (by decide +kernel)
set_option maxRecDepth 20000 in
theorem gX2_letDaysGoBy_X2_takeSpring : GoodIn wsX2_letDaysGoBy (wsV RX2 110 RX2 yX2_takeSpring wsX2_takeSpring) := goodIn_app (goodIn_of _ (by decide +kernel)) ggX2_letDaysGoBy_X2_takeSpring
set_option maxRecDepth 20000 in
theorem ggX2_letDaysGoBy_X2_letWaterFlow : GoodIn wsX2_letDaysGoBy wsX2_letWaterFlow := goodIn_r _ [25, 15, 16, 26, 27, 28, 8, 29, 10, 30, 31, 32, 33, 34, 35, 36, 37, 38, 39, 40, 41, 42, 43, 44, 45, 46, 47, 48, 49, 50, 51, 52, 53, 54, 85, 86, 87, 88, 89, 90, 91, 92, 93, 94, 95, 96, 97, 98, 99, 100, 101, 102] (by decide +kernel) (by decide +kernel)
set_option maxRecDepth 20000 in
theorem gX2_letDaysGoBy_X2_letWaterFlow : GoodIn wsX2_letDaysGoBy (wsV RX2 113 RX2 yX2_letWaterFlow wsX2_letWaterFlow) := goodIn_app (goodIn_of _ (by decide +kernel)) ggX2_letDaysGoBy_X2_letWaterFlow
set_option maxRecDepth 20000 in
theorem ggX2_letDaysGoBy_X2_loseWater : GoodIn wsX2_letDaysGoBy wsX2_loseWater := goodIn_r _ [58, 10, 59, 31, 32, 33, 34, 35, 36, 37, 50, 11, 12, 13, 8, 14, 15, 16, 85, 86, 87, 88, 89, 90, 91, 92, 93, 94, 95, 96, 97, 98, 99, 100, 101, 102] (by decide +kernel) (by decide +kernel)
set_option maxRecDepth 20000 in
theorem gX2_letDaysGoBy_X2_loseWater : GoodIn wsX2_letDaysGoBy (wsV RX2 119 RX2 yX2_loseWater wsX2_loseWater) := goodIn_app (goodIn_of _ (by decide +kernel)) ggX2_letDaysGoBy_X2_loseWater
set_option maxRecDepth 20000 in
theorem ggX2_letDaysGoBy_X2_growRice : GoodIn wsX2_letDaysGoBy wsX2_growRice := goodIn_r _ [63, 64, 11, 12, 13, 8, 14, 15, 16, 65, 66, 67, 68, 69, 35, 36, 33, 37, 70, 10, 71, 72, 73, 31, 32, 34, 74, 75, 76, 77, 78, 79, 80, 81, 82, 83, 84, 85, 86, 87, 88, 89, 90, 91, 92, 93, 94, 95, 96, 97, 98, 99, 100, 101, 102] (by decide +kernel) (by decide +kernel)
set_option maxRecDepth 20000 in
theorem gX2_letDaysGoBy_X2_growRice : GoodIn wsX2_letDaysGoBy (wsV RX2 122 RX2 yX2_growRice wsX2_growRice) := goodIn_app (goodIn_of _ (by decide +kernel)) ggX2_letDaysGoBy_X2_growRice
theorem dX2_letDaysGoBy_0 : decode cX2_letDaysGoBy 0 = .ok (.iconst 0, 1) := by decide +kernel
theorem dX2_letDaysGoBy_1 : decode cX2_letDaysGoBy 1 = .ok (.istore_n 3, 1) := by decide +kernel
theorem dX2_letDaysGoBy_2 : decode cX2_letDaysGoBy 2 = .ok (.iload_n 3, 1) := by decide +kernel
theorem dX2_letDaysGoBy_3 : decode cX2_letDaysGoBy 3 = .ok (.iload_n 1, 1) := by decide +kernel
theorem dX2_letDaysGoBy_4 : decode cX2_letDaysGoBy 4 = .ok (.if_icmp .ge 69, 3) := by decide +kernel
theorem dX2_letDaysGoBy_7 : decode cX2_letDaysGoBy 7 = .ok (.aload_n 0, 1) := by decide +kernel
theorem dX2_letDaysGoBy_8 : decode cX2_letDaysGoBy 8 = .ok (.getfield 62, 3) := by decide +kernel
theorem dX2_letDaysGoBy_11 : decode cX2_letDaysGoBy 11 = .ok (.bipush 30, 2) := by decide +kernel
theorem dX2_letDaysGoBy_13 : decode cX2_letDaysGoBy 13 = .ok (.irem, 1) := by decide +kernel
theorem dX2_letDaysGoBy_14 : decode cX2_letDaysGoBy 14 = .ok (.istore 4, 2) := by decide +kernel
theorem dX2_letDaysGoBy_16 : decode cX2_letDaysGoBy 16 = .ok (.aload_n 0, 1) := by decide +kernel
theorem dX2_letDaysGoBy_17 : decode cX2_letDaysGoBy 17 = .ok (.dup, 1) := by decide +kernel
theorem dX2_letDaysGoBy_18 : decode cX2_letDaysGoBy 18 = .ok (.getfield 62, 3) := by decide +kernel
theorem dX2_letDaysGoBy_21 : decode cX2_letDaysGoBy 21 = .ok (.iconst 1, 1) := by decide +kernel
theorem dX2_letDaysGoBy_22 : decode cX2_letDaysGoBy 22 = .ok (.iadd, 1) := by decide +kernel
theorem dX2_letDaysGoBy_23 : decode cX2_letDaysGoBy 23 = .ok (.putfield 62, 3) := by decide +kernel
theorem dX2_letDaysGoBy_26 : decode cX2_letDaysGoBy 26 = .ok (.aload_n 0, 1) := by decide +kernel
theorem dX2_letDaysGoBy_27 : decode cX2_letDaysGoBy 27 = .ok (.aload_n 2, 1) := by decide +kernel
theorem dX2_letDaysGoBy_28 : decode cX2_letDaysGoBy 28 = .ok (.getfield 99, 3) := by decide +kernel
theorem dX2_letDaysGoBy_31 : decode cX2_letDaysGoBy 31 = .ok (.iload 4, 2) := by decide +kernel
theorem dX2_letDaysGoBy_33 : decode cX2_letDaysGoBy 33 = .ok (.iaload, 1) := by decide +kernel
theorem dX2_letDaysGoBy_34 : decode cX2_letDaysGoBy 34 = .ok (.invokevirtual 104, 3) := by decide +kernel
theorem dX2_letDaysGoBy_37 : decode cX2_letDaysGoBy 37 = .ok (.aload_n 0, 1) := by decide +kernel
theorem dX2_letDaysGoBy_38 : decode cX2_letDaysGoBy 38 = .ok (.aload_n 2, 1) := by decide +kernel
theorem dX2_letDaysGoBy_39 : decode cX2_letDaysGoBy 39 = .ok (.getfield 107, 3) := by decide +kernel
theorem dX2_letDaysGoBy_42 : decode cX2_letDaysGoBy 42 = .ok (.iload 4, 2) := by decide +kernel
theorem dX2_letDaysGoBy_44 : decode cX2_letDaysGoBy 44 = .ok (.iaload, 1) := by decide +kernel
theorem dX2_letDaysGoBy_45 : decode cX2_letDaysGoBy 45 = .ok (.invokevirtual 110, 3) := by decide +kernel
theorem dX2_letDaysGoBy_48 : decode cX2_letDaysGoBy 48 = .ok (.aload_n 0, 1) := by decide +kernel
theorem dX2_letDaysGoBy_49 : decode cX2_letDaysGoBy 49 = .ok (.invokevirtual 113, 3) := by decide +kernel
theorem dX2_letDaysGoBy_52 : decode cX2_letDaysGoBy 52 = .ok (.aload_n 0, 1) := by decide +kernel
theorem dX2_letDaysGoBy_53 : decode cX2_letDaysGoBy 53 = .ok (.aload_n 2, 1) := by decide +kernel
theorem dX2_letDaysGoBy_54 : decode cX2_letDaysGoBy 54 = .ok (.getfield 116, 3) := by decide +kernel
theorem dX2_letDaysGoBy_57 : decode cX2_letDaysGoBy 57 = .ok (.iload 4, 2) := by decide +kernel
theorem dX2_letDaysGoBy_59 : decode cX2_letDaysGoBy 59 = .ok (.iaload, 1) := by decide +kernel
theorem dX2_letDaysGoBy_60 : decode cX2_letDaysGoBy 60 = .ok (.invokevirtual 119, 3) := by decide +kernel
theorem dX2_letDaysGoBy_63 : decode cX2_letDaysGoBy 63 = .ok (.aload_n 0, 1) := by decide +kernel
theorem dX2_letDaysGoBy_64 : decode cX2_letDaysGoBy 64 = .ok (.invokevirtual 122, 3) := by decide +kernel
theorem dX2_letDaysGoBy_67 : decode cX2_letDaysGoBy 67 = .ok (.iinc 3 1, 3) := by decide +kernel
theorem dX2_letDaysGoBy_70 : decode cX2_letDaysGoBy 70 = .ok (.goto (-68), 3) := by decide +kernel
theorem dX2_letDaysGoBy_73 : decode cX2_letDaysGoBy 73 = .ok (.return_, 1) := by decide +kernel
set_option maxRecDepth 20000 in
theorem ggX2_takeRain_X2_cells : GoodIn wsX2_takeRain wsX2_cells := goodIn_r _ [6, 7, 8, 9, 10, 11, 12, 13, 14, 15, 16, 17, 18, 19, 20, 21, 22, 23, 24, 25, 26] (by decide +kernel) (by decide +kernel)
set_option maxRecDepth 20000 in
theorem gX2_takeRain_X2_cells : GoodIn wsX2_takeRain (wsV RX2 95 RX2 yX2_cells wsX2_cells) := goodIn_app (goodIn_of _ (by decide +kernel)) ggX2_takeRain_X2_cells
theorem dX2_takeRain_0 : decode cX2_takeRain 0 = .ok (.iconst 0, 1) := by decide +kernel
theorem dX2_takeRain_1 : decode cX2_takeRain 1 = .ok (.istore_n 2, 1) := by decide +kernel
theorem dX2_takeRain_2 : decode cX2_takeRain 2 = .ok (.iload_n 2, 1) := by decide +kernel
theorem dX2_takeRain_3 : decode cX2_takeRain 3 = .ok (.aload_n 0, 1) := by decide +kernel
theorem dX2_takeRain_4 : decode cX2_takeRain 4 = .ok (.invokevirtual 95, 3) := by decide +kernel
theorem dX2_takeRain_7 : decode cX2_takeRain 7 = .ok (.if_icmp .ge 19, 3) := by decide +kernel
theorem dX2_takeRain_10 : decode cX2_takeRain 10 = .ok (.aload_n 0, 1) := by decide +kernel
theorem dX2_takeRain_11 : decode cX2_takeRain 11 = .ok (.getfield 15, 3) := by decide +kernel
theorem dX2_takeRain_14 : decode cX2_takeRain 14 = .ok (.iload_n 2, 1) := by decide +kernel
theorem dX2_takeRain_15 : decode cX2_takeRain 15 = .ok (.dup2, 1) := by decide +kernel
theorem dX2_takeRain_16 : decode cX2_takeRain 16 = .ok (.iaload, 1) := by decide +kernel
theorem dX2_takeRain_17 : decode cX2_takeRain 17 = .ok (.iload_n 1, 1) := by decide +kernel
theorem dX2_takeRain_18 : decode cX2_takeRain 18 = .ok (.iadd, 1) := by decide +kernel
theorem dX2_takeRain_19 : decode cX2_takeRain 19 = .ok (.iastore, 1) := by decide +kernel
theorem dX2_takeRain_20 : decode cX2_takeRain 20 = .ok (.iinc 2 1, 3) := by decide +kernel
theorem dX2_takeRain_23 : decode cX2_takeRain 23 = .ok (.goto (-21), 3) := by decide +kernel
theorem dX2_takeRain_26 : decode cX2_takeRain 26 = .ok (.return_, 1) := by decide +kernel
theorem dX2_takeSpring_0 : decode cX2_takeSpring 0 = .ok (.iconst 0, 1) := by decide +kernel
theorem dX2_takeSpring_1 : decode cX2_takeSpring 1 = .ok (.istore_n 2, 1) := by decide +kernel
theorem dX2_takeSpring_2 : decode cX2_takeSpring 2 = .ok (.iconst 0, 1) := by decide +kernel
theorem dX2_takeSpring_3 : decode cX2_takeSpring 3 = .ok (.istore_n 3, 1) := by decide +kernel
theorem dX2_takeSpring_4 : decode cX2_takeSpring 4 = .ok (.iload_n 3, 1) := by decide +kernel
theorem dX2_takeSpring_5 : decode cX2_takeSpring 5 = .ok (.aload_n 0, 1) := by decide +kernel
theorem dX2_takeSpring_6 : decode cX2_takeSpring 6 = .ok (.getfield 59, 3) := by decide +kernel
theorem dX2_takeSpring_9 : decode cX2_takeSpring 9 = .ok (.if_icmp .ge 18, 3) := by decide +kernel
theorem dX2_takeSpring_12 : decode cX2_takeSpring 12 = .ok (.iload_n 2, 1) := by decide +kernel
theorem dX2_takeSpring_13 : decode cX2_takeSpring 13 = .ok (.aload_n 0, 1) := by decide +kernel
theorem dX2_takeSpring_14 : decode cX2_takeSpring 14 = .ok (.getfield 9, 3) := by decide +kernel
theorem dX2_takeSpring_17 : decode cX2_takeSpring 17 = .ok (.iload_n 3, 1) := by decide +kernel
theorem dX2_takeSpring_18 : decode cX2_takeSpring 18 = .ok (.iaload, 1) := by decide +kernel
theorem dX2_takeSpring_19 : decode cX2_takeSpring 19 = .ok (.iadd, 1) := by decide +kernel
theorem dX2_takeSpring_20 : decode cX2_takeSpring 20 = .ok (.istore_n 2, 1) := by decide +kernel
theorem dX2_takeSpring_21 : decode cX2_takeSpring 21 = .ok (.iinc 3 1, 3) := by decide +kernel
theorem dX2_takeSpring_24 : decode cX2_takeSpring 24 = .ok (.goto (-20), 3) := by decide +kernel
theorem dX2_takeSpring_27 : decode cX2_takeSpring 27 = .ok (.iload_n 2, 1) := by decide +kernel
theorem dX2_takeSpring_28 : decode cX2_takeSpring 28 = .ok (.ifCond .ne 4, 3) := by decide +kernel
theorem dX2_takeSpring_31 : decode cX2_takeSpring 31 = .ok (.return_, 1) := by decide +kernel
theorem dX2_takeSpring_32 : decode cX2_takeSpring 32 = .ok (.iconst 0, 1) := by decide +kernel
theorem dX2_takeSpring_33 : decode cX2_takeSpring 33 = .ok (.istore_n 3, 1) := by decide +kernel
theorem dX2_takeSpring_34 : decode cX2_takeSpring 34 = .ok (.iload_n 3, 1) := by decide +kernel
theorem dX2_takeSpring_35 : decode cX2_takeSpring 35 = .ok (.aload_n 0, 1) := by decide +kernel
theorem dX2_takeSpring_36 : decode cX2_takeSpring 36 = .ok (.getfield 59, 3) := by decide +kernel
theorem dX2_takeSpring_39 : decode cX2_takeSpring 39 = .ok (.if_icmp .ge 28, 3) := by decide +kernel
theorem dX2_takeSpring_42 : decode cX2_takeSpring 42 = .ok (.aload_n 0, 1) := by decide +kernel
theorem dX2_takeSpring_43 : decode cX2_takeSpring 43 = .ok (.getfield 15, 3) := by decide +kernel
theorem dX2_takeSpring_46 : decode cX2_takeSpring 46 = .ok (.iload_n 3, 1) := by decide +kernel
theorem dX2_takeSpring_47 : decode cX2_takeSpring 47 = .ok (.dup2, 1) := by decide +kernel
theorem dX2_takeSpring_48 : decode cX2_takeSpring 48 = .ok (.iaload, 1) := by decide +kernel
theorem dX2_takeSpring_49 : decode cX2_takeSpring 49 = .ok (.iload_n 1, 1) := by decide +kernel
theorem dX2_takeSpring_50 : decode cX2_takeSpring 50 = .ok (.aload_n 0, 1) := by decide +kernel
theorem dX2_takeSpring_51 : decode cX2_takeSpring 51 = .ok (.getfield 9, 3) := by decide +kernel
theorem dX2_takeSpring_54 : decode cX2_takeSpring 54 = .ok (.iload_n 3, 1) := by decide +kernel
theorem dX2_takeSpring_55 : decode cX2_takeSpring 55 = .ok (.iaload, 1) := by decide +kernel
theorem dX2_takeSpring_56 : decode cX2_takeSpring 56 = .ok (.imul, 1) := by decide +kernel
theorem dX2_takeSpring_57 : decode cX2_takeSpring 57 = .ok (.iload_n 2, 1) := by decide +kernel
theorem dX2_takeSpring_58 : decode cX2_takeSpring 58 = .ok (.idiv, 1) := by decide +kernel
theorem dX2_takeSpring_59 : decode cX2_takeSpring 59 = .ok (.iadd, 1) := by decide +kernel
theorem dX2_takeSpring_60 : decode cX2_takeSpring 60 = .ok (.iastore, 1) := by decide +kernel
theorem dX2_takeSpring_61 : decode cX2_takeSpring 61 = .ok (.iinc 3 1, 3) := by decide +kernel
theorem dX2_takeSpring_64 : decode cX2_takeSpring 64 = .ok (.goto (-30), 3) := by decide +kernel
theorem dX2_takeSpring_67 : decode cX2_takeSpring 67 = .ok (.return_, 1) := by decide +kernel
set_option maxRecDepth 20000 in
theorem ggX2_letWaterFlow_X2_letFieldFlow : GoodIn wsX2_letWaterFlow wsX2_letFieldFlow := goodIn_r _ [7, 8, 9, 10, 11, 12, 13, 14, 15, 16, 17, 18, 19, 20, 21, 22, 23, 6, 24, 2, 25, 26, 27, 28, 29, 30, 31, 32, 33, 1, 34, 35, 36, 37, 38, 39, 40, 41, 42, 43, 44, 45, 46, 47, 48, 49, 50, 51] (by decide +kernel) (by decide +kernel)
set_option maxRecDepth 20000 in
theorem gX2_letWaterFlow_X2_letFieldFlow : GoodIn wsX2_letWaterFlow (wsV RX2 125 RX2 yX2_letFieldFlow wsX2_letFieldFlow) := goodIn_app (goodIn_of _ (by decide +kernel)) ggX2_letWaterFlow_X2_letFieldFlow
theorem dX2_letWaterFlow_0 : decode cX2_letWaterFlow 0 = .ok (.iconst 0, 1) := by decide +kernel
theorem dX2_letWaterFlow_1 : decode cX2_letWaterFlow 1 = .ok (.istore_n 1, 1) := by decide +kernel
theorem dX2_letWaterFlow_2 : decode cX2_letWaterFlow 2 = .ok (.iload_n 1, 1) := by decide +kernel
theorem dX2_letWaterFlow_3 : decode cX2_letWaterFlow 3 = .ok (.aload_n 0, 1) := by decide +kernel
theorem dX2_letWaterFlow_4 : decode cX2_letWaterFlow 4 = .ok (.getfield 55, 3) := by decide +kernel
