theorem dX2_letWaterFlow_7 : decode cX2_letWaterFlow 7 = .ok (.if_icmp .ge 31, 3) := by decide +kernel
theorem dX2_letWaterFlow_10 : decode cX2_letWaterFlow 10 = .ok (.iconst 0, 1) := by decide +kernel
theorem dX2_letWaterFlow_11 : decode cX2_letWaterFlow 11 = .ok (.istore_n 2, 1) := by decide +kernel
theorem dX2_letWaterFlow_12 : decode cX2_letWaterFlow 12 = .ok (.iload_n 2, 1) := by decide +kernel
theorem dX2_letWaterFlow_13 : decode cX2_letWaterFlow 13 = .ok (.aload_n 0, 1) := by decide +kernel
theorem dX2_letWaterFlow_14 : decode cX2_letWaterFlow 14 = .ok (.getfield 59, 3) := by decide +kernel
theorem dX2_letWaterFlow_17 : decode cX2_letWaterFlow 17 = .ok (.if_icmp .ge 15, 3) := by decide +kernel
theorem dX2_letWaterFlow_20 : decode cX2_letWaterFlow 20 = .ok (.aload_n 0, 1) := by decide +kernel
theorem dX2_letWaterFlow_21 : decode cX2_letWaterFlow 21 = .ok (.iload_n 1, 1) := by decide +kernel
theorem dX2_letWaterFlow_22 : decode cX2_letWaterFlow 22 = .ok (.iload_n 2, 1) := by decide +kernel
theorem dX2_letWaterFlow_23 : decode cX2_letWaterFlow 23 = .ok (.invokevirtual 125, 3) := by decide +kernel
theorem dX2_letWaterFlow_26 : decode cX2_letWaterFlow 26 = .ok (.iinc 2 1, 3) := by decide +kernel
theorem dX2_letWaterFlow_29 : decode cX2_letWaterFlow 29 = .ok (.goto (-17), 3) := by decide +kernel
theorem dX2_letWaterFlow_32 : decode cX2_letWaterFlow 32 = .ok (.iinc 1 1, 3) := by decide +kernel
theorem dX2_letWaterFlow_35 : decode cX2_letWaterFlow 35 = .ok (.goto (-33), 3) := by decide +kernel
theorem dX2_letWaterFlow_38 : decode cX2_letWaterFlow 38 = .ok (.return_, 1) := by decide +kernel
set_option maxRecDepth 20000 in
theorem ggX2_letFieldFlow_X2_cellOf : GoodIn wsX2_letFieldFlow wsX2_cellOf := goodIn_r _ [18, 19, 30, 31, 32, 33, 34, 35, 36, 37, 38, 39, 40, 41, 42, 43, 44, 45, 46, 47] (by decide +kernel) (by decide +kernel)
set_option maxRecDepth 20000 in
theorem gX2_letFieldFlow_X2_cellOf : GoodIn wsX2_letFieldFlow (wsV RX2 128 RX2 yX2_cellOf wsX2_cellOf) := goodIn_app (goodIn_of _ (by decide +kernel)) ggX2_letFieldFlow_X2_cellOf
set_option maxRecDepth 20000 in
theorem ggX2_letFieldFlow_X2_bringWater : GoodIn wsX2_letFieldFlow wsX2_bringWater := goodIn_r _ [23, 1, 24, 25, 26, 27, 17, 28, 29, 19, 14, 15, 16, 18, 30, 31, 32, 33, 34, 35, 36, 37, 38, 39, 40, 41, 42, 43, 44, 45, 46, 47] (by decide +kernel) (by decide +kernel)
set_option maxRecDepth 20000 in
theorem gX2_letFieldFlow_X2_bringWater : GoodIn wsX2_letFieldFlow (wsV RX2 140 RX2 yX2_bringWater wsX2_bringWater) := goodIn_app (goodIn_of _ (by decide +kernel)) ggX2_letFieldFlow_X2_bringWater
theorem dX2_letFieldFlow_0 : decode cX2_letFieldFlow 0 = .ok (.aload_n 0, 1) := by decide +kernel
theorem dX2_letFieldFlow_1 : decode cX2_letFieldFlow 1 = .ok (.iload_n 1, 1) := by decide +kernel
theorem dX2_letFieldFlow_2 : decode cX2_letFieldFlow 2 = .ok (.iload_n 2, 1) := by decide +kernel
theorem dX2_letFieldFlow_3 : decode cX2_letFieldFlow 3 = .ok (.invokevirtual 128, 3) := by decide +kernel
theorem dX2_letFieldFlow_6 : decode cX2_letFieldFlow 6 = .ok (.istore_n 3, 1) := by decide +kernel
theorem dX2_letFieldFlow_7 : decode cX2_letFieldFlow 7 = .ok (.aload_n 0, 1) := by decide +kernel
theorem dX2_letFieldFlow_8 : decode cX2_letFieldFlow 8 = .ok (.getfield 15, 3) := by decide +kernel
theorem dX2_letFieldFlow_11 : decode cX2_letFieldFlow 11 = .ok (.iload_n 3, 1) := by decide +kernel
theorem dX2_letFieldFlow_12 : decode cX2_letFieldFlow 12 = .ok (.iaload, 1) := by decide +kernel
theorem dX2_letFieldFlow_13 : decode cX2_letFieldFlow 13 = .ok (.aload_n 0, 1) := by decide +kernel
theorem dX2_letFieldFlow_14 : decode cX2_letFieldFlow 14 = .ok (.getfield 24, 3) := by decide +kernel
theorem dX2_letFieldFlow_17 : decode cX2_letFieldFlow 17 = .ok (.iload_n 3, 1) := by decide +kernel
theorem dX2_letFieldFlow_18 : decode cX2_letFieldFlow 18 = .ok (.iaload, 1) := by decide +kernel
theorem dX2_letFieldFlow_19 : decode cX2_letFieldFlow 19 = .ok (.isub, 1) := by decide +kernel
theorem dX2_letFieldFlow_20 : decode cX2_letFieldFlow 20 = .ok (.iconst 0, 1) := by decide +kernel
theorem dX2_letFieldFlow_21 : decode cX2_letFieldFlow 21 = .ok (.invokestatic 132, 3) := by decide +kernel
theorem dX2_letFieldFlow_24 : decode cX2_letFieldFlow 24 = .ok (.bipush 40, 2) := by decide +kernel
theorem dX2_letFieldFlow_26 : decode cX2_letFieldFlow 26 = .ok (.invokestatic 137, 3) := by decide +kernel
theorem dX2_letFieldFlow_29 : decode cX2_letFieldFlow 29 = .ok (.istore 4, 2) := by decide +kernel
theorem dX2_letFieldFlow_31 : decode cX2_letFieldFlow 31 = .ok (.aload_n 0, 1) := by decide +kernel
theorem dX2_letFieldFlow_32 : decode cX2_letFieldFlow 32 = .ok (.getfield 45, 3) := by decide +kernel
theorem dX2_letFieldFlow_35 : decode cX2_letFieldFlow 35 = .ok (.iload_n 3, 1) := by decide +kernel
theorem dX2_letFieldFlow_36 : decode cX2_letFieldFlow 36 = .ok (.iload 4, 2) := by decide +kernel
theorem dX2_letFieldFlow_38 : decode cX2_letFieldFlow 38 = .ok (.iastore, 1) := by decide +kernel
theorem dX2_letFieldFlow_39 : decode cX2_letFieldFlow 39 = .ok (.aload_n 0, 1) := by decide +kernel
theorem dX2_letFieldFlow_40 : decode cX2_letFieldFlow 40 = .ok (.getfield 15, 3) := by decide +kernel
theorem dX2_letFieldFlow_43 : decode cX2_letFieldFlow 43 = .ok (.iload_n 3, 1) := by decide +kernel
theorem dX2_letFieldFlow_44 : decode cX2_letFieldFlow 44 = .ok (.dup2, 1) := by decide +kernel
theorem dX2_letFieldFlow_45 : decode cX2_letFieldFlow 45 = .ok (.iaload, 1) := by decide +kernel
theorem dX2_letFieldFlow_46 : decode cX2_letFieldFlow 46 = .ok (.iload 4, 2) := by decide +kernel
theorem dX2_letFieldFlow_48 : decode cX2_letFieldFlow 48 = .ok (.isub, 1) := by decide +kernel
theorem dX2_letFieldFlow_49 : decode cX2_letFieldFlow 49 = .ok (.iastore, 1) := by decide +kernel
theorem dX2_letFieldFlow_50 : decode cX2_letFieldFlow 50 = .ok (.aload_n 0, 1) := by decide +kernel
theorem dX2_letFieldFlow_51 : decode cX2_letFieldFlow 51 = .ok (.iload_n 1, 1) := by decide +kernel
theorem dX2_letFieldFlow_52 : decode cX2_letFieldFlow 52 = .ok (.iconst 1, 1) := by decide +kernel
theorem dX2_letFieldFlow_53 : decode cX2_letFieldFlow 53 = .ok (.iadd, 1) := by decide +kernel
theorem dX2_letFieldFlow_54 : decode cX2_letFieldFlow 54 = .ok (.iload_n 2, 1) := by decide +kernel
theorem dX2_letFieldFlow_55 : decode cX2_letFieldFlow 55 = .ok (.aload_n 0, 1) := by decide +kernel
theorem dX2_letFieldFlow_56 : decode cX2_letFieldFlow 56 = .ok (.getfield 27, 3) := by decide +kernel
theorem dX2_letFieldFlow_59 : decode cX2_letFieldFlow 59 = .ok (.iload_n 3, 1) := by decide +kernel
theorem dX2_letFieldFlow_60 : decode cX2_letFieldFlow 60 = .ok (.iaload, 1) := by decide +kernel
theorem dX2_letFieldFlow_61 : decode cX2_letFieldFlow 61 = .ok (.iadd, 1) := by decide +kernel
theorem dX2_letFieldFlow_62 : decode cX2_letFieldFlow 62 = .ok (.iload 4, 2) := by decide +kernel
theorem dX2_letFieldFlow_64 : decode cX2_letFieldFlow 64 = .ok (.invokevirtual 140, 3) := by decide +kernel
theorem dX2_letFieldFlow_67 : decode cX2_letFieldFlow 67 = .ok (.aload_n 0, 1) := by decide +kernel
theorem dX2_letFieldFlow_68 : decode cX2_letFieldFlow 68 = .ok (.getfield 15, 3) := by decide +kernel
theorem dX2_letFieldFlow_71 : decode cX2_letFieldFlow 71 = .ok (.iload_n 3, 1) := by decide +kernel
theorem dX2_letFieldFlow_72 : decode cX2_letFieldFlow 72 = .ok (.iaload, 1) := by decide +kernel
theorem dX2_letFieldFlow_73 : decode cX2_letFieldFlow 73 = .ok (.aload_n 0, 1) := by decide +kernel
theorem dX2_letFieldFlow_74 : decode cX2_letFieldFlow 74 = .ok (.getfield 18, 3) := by decide +kernel
theorem dX2_letFieldFlow_77 : decode cX2_letFieldFlow 77 = .ok (.iload_n 3, 1) := by decide +kernel
theorem dX2_letFieldFlow_78 : decode cX2_letFieldFlow 78 = .ok (.iaload, 1) := by decide +kernel
theorem dX2_letFieldFlow_79 : decode cX2_letFieldFlow 79 = .ok (.isub, 1) := by decide +kernel
theorem dX2_letFieldFlow_80 : decode cX2_letFieldFlow 80 = .ok (.iconst 0, 1) := by decide +kernel
theorem dX2_letFieldFlow_81 : decode cX2_letFieldFlow 81 = .ok (.invokestatic 132, 3) := by decide +kernel
theorem dX2_letFieldFlow_84 : decode cX2_letFieldFlow 84 = .ok (.istore 5, 2) := by decide +kernel
theorem dX2_letFieldFlow_86 : decode cX2_letFieldFlow 86 = .ok (.aload_n 0, 1) := by decide +kernel
theorem dX2_letFieldFlow_87 : decode cX2_letFieldFlow 87 = .ok (.getfield 48, 3) := by decide +kernel
theorem dX2_letFieldFlow_90 : decode cX2_letFieldFlow 90 = .ok (.iload_n 3, 1) := by decide +kernel
theorem dX2_letFieldFlow_91 : decode cX2_letFieldFlow 91 = .ok (.iload 5, 2) := by decide +kernel
theorem dX2_letFieldFlow_93 : decode cX2_letFieldFlow 93 = .ok (.iastore, 1) := by decide +kernel
theorem dX2_letFieldFlow_94 : decode cX2_letFieldFlow 94 = .ok (.aload_n 0, 1) := by decide +kernel
theorem dX2_letFieldFlow_95 : decode cX2_letFieldFlow 95 = .ok (.getfield 15, 3) := by decide +kernel
theorem dX2_letFieldFlow_98 : decode cX2_letFieldFlow 98 = .ok (.iload_n 3, 1) := by decide +kernel
theorem dX2_letFieldFlow_99 : decode cX2_letFieldFlow 99 = .ok (.dup2, 1) := by decide +kernel
theorem dX2_letFieldFlow_100 : decode cX2_letFieldFlow 100 = .ok (.iaload, 1) := by decide +kernel
theorem dX2_letFieldFlow_101 : decode cX2_letFieldFlow 101 = .ok (.iload 5, 2) := by decide +kernel
theorem dX2_letFieldFlow_103 : decode cX2_letFieldFlow 103 = .ok (.isub, 1) := by decide +kernel
theorem dX2_letFieldFlow_104 : decode cX2_letFieldFlow 104 = .ok (.iastore, 1) := by decide +kernel
theorem dX2_letFieldFlow_105 : decode cX2_letFieldFlow 105 = .ok (.aload_n 0, 1) := by decide +kernel
theorem dX2_letFieldFlow_106 : decode cX2_letFieldFlow 106 = .ok (.iload_n 1, 1) := by decide +kernel
theorem dX2_letFieldFlow_107 : decode cX2_letFieldFlow 107 = .ok (.iload_n 2, 1) := by decide +kernel
theorem dX2_letFieldFlow_108 : decode cX2_letFieldFlow 108 = .ok (.iconst 1, 1) := by decide +kernel
theorem dX2_letFieldFlow_109 : decode cX2_letFieldFlow 109 = .ok (.isub, 1) := by decide +kernel
theorem dX2_letFieldFlow_110 : decode cX2_letFieldFlow 110 = .ok (.iload 5, 2) := by decide +kernel
theorem dX2_letFieldFlow_112 : decode cX2_letFieldFlow 112 = .ok (.iconst 2, 1) := by decide +kernel
theorem dX2_letFieldFlow_113 : decode cX2_letFieldFlow 113 = .ok (.idiv, 1) := by decide +kernel
theorem dX2_letFieldFlow_114 : decode cX2_letFieldFlow 114 = .ok (.invokevirtual 140, 3) := by decide +kernel
theorem dX2_letFieldFlow_117 : decode cX2_letFieldFlow 117 = .ok (.aload_n 0, 1) := by decide +kernel
theorem dX2_letFieldFlow_118 : decode cX2_letFieldFlow 118 = .ok (.iload_n 1, 1) := by decide +kernel
theorem dX2_letFieldFlow_119 : decode cX2_letFieldFlow 119 = .ok (.iload_n 2, 1) := by decide +kernel
theorem dX2_letFieldFlow_120 : decode cX2_letFieldFlow 120 = .ok (.iconst 1, 1) := by decide +kernel
theorem dX2_letFieldFlow_121 : decode cX2_letFieldFlow 121 = .ok (.iadd, 1) := by decide +kernel
theorem dX2_letFieldFlow_122 : decode cX2_letFieldFlow 122 = .ok (.iload 5, 2) := by decide +kernel
theorem dX2_letFieldFlow_124 : decode cX2_letFieldFlow 124 = .ok (.iload 5, 2) := by decide +kernel
theorem dX2_letFieldFlow_126 : decode cX2_letFieldFlow 126 = .ok (.iconst 2, 1) := by decide +kernel
theorem dX2_letFieldFlow_127 : decode cX2_letFieldFlow 127 = .ok (.idiv, 1) := by decide +kernel
theorem dX2_letFieldFlow_128 : decode cX2_letFieldFlow 128 = .ok (.isub, 1) := by decide +kernel
theorem dX2_letFieldFlow_129 : decode cX2_letFieldFlow 129 = .ok (.invokevirtual 140, 3) := by decide +kernel
theorem dX2_letFieldFlow_132 : decode cX2_letFieldFlow 132 = .ok (.return_, 1) := by decide +kernel
set_option maxRecDepth 20000 in
theorem ggX2_bringWater_X2_hasField : GoodIn wsX2_bringWater wsX2_hasField := goodIn_r _ [7, 8, 9, 14, 15, 16, 17, 18, 19, 20, 21, 22, 23, 24, 25, 26, 27, 28, 29, 30, 31] (by decide +kernel) (by decide +kernel)
set_option maxRecDepth 20000 in
theorem gX2_bringWater_X2_hasField : GoodIn wsX2_bringWater (wsV RX2 144 RX2 yX2_hasField wsX2_hasField) := goodIn_app (goodIn_of _ (by decide +kernel)) ggX2_bringWater_X2_hasField
set_option maxRecDepth 20000 in
theorem ggX2_bringWater_X2_cellOf : GoodIn wsX2_bringWater wsX2_cellOf := goodIn_r _ [13, 9, 14, 15, 16, 17, 18, 19, 20, 21, 22, 23, 24, 25, 26, 27, 28, 29, 30, 31] (by decide +kernel) (by decide +kernel)
set_option maxRecDepth 20000 in
theorem gX2_bringWater_X2_cellOf : GoodIn wsX2_bringWater (wsV RX2 128 RX2 yX2_cellOf wsX2_cellOf) := goodIn_app (goodIn_of _ (by decide +kernel)) ggX2_bringWater_X2_cellOf
theorem dX2_bringWater_0 : decode cX2_bringWater 0 = .ok (.aload_n 0, 1) := by decide +kernel
theorem dX2_bringWater_1 : decode cX2_bringWater 1 = .ok (.iload_n 1, 1) := by decide +kernel
theorem dX2_bringWater_2 : decode cX2_bringWater 2 = .ok (.iload_n 2, 1) := by decide +kernel
theorem dX2_bringWater_3 : decode cX2_bringWater 3 = .ok (.invokevirtual 144, 3) := by decide +kernel
theorem dX2_bringWater_6 : decode cX2_bringWater 6 = .ok (.ifCond .eq 21, 3) := by decide +kernel
theorem dX2_bringWater_9 : decode cX2_bringWater 9 = .ok (.aload_n 0, 1) := by decide +kernel
theorem dX2_bringWater_10 : decode cX2_bringWater 10 = .ok (.getfield 15, 3) := by decide +kernel
theorem dX2_bringWater_13 : decode cX2_bringWater 13 = .ok (.aload_n 0, 1) := by decide +kernel
theorem dX2_bringWater_14 : decode cX2_bringWater 14 = .ok (.iload_n 1, 1) := by decide +kernel
theorem dX2_bringWater_15 : decode cX2_bringWater 15 = .ok (.iload_n 2, 1) := by decide +kernel
theorem dX2_bringWater_16 : decode cX2_bringWater 16 = .ok (.invokevirtual 128, 3) := by decide +kernel
theorem dX2_bringWater_19 : decode cX2_bringWater 19 = .ok (.dup2, 1) := by decide +kernel
theorem dX2_bringWater_20 : decode cX2_bringWater 20 = .ok (.iaload, 1) := by decide +kernel
theorem dX2_bringWater_21 : decode cX2_bringWater 21 = .ok (.iload_n 3, 1) := by decide +kernel
theorem dX2_bringWater_22 : decode cX2_bringWater 22 = .ok (.iadd, 1) := by decide +kernel
theorem dX2_bringWater_23 : decode cX2_bringWater 23 = .ok (.iastore, 1) := by decide +kernel
theorem dX2_bringWater_24 : decode cX2_bringWater 24 = .ok (.goto 13, 3) := by decide +kernel
theorem dX2_bringWater_27 : decode cX2_bringWater 27 = .ok (.aload_n 0, 1) := by decide +kernel
theorem dX2_bringWater_28 : decode cX2_bringWater 28 = .ok (.dup, 1) := by decide +kernel
theorem dX2_bringWater_29 : decode cX2_bringWater 29 = .ok (.getfield 65, 3) := by decide +kernel
theorem dX2_bringWater_32 : decode cX2_bringWater 32 = .ok (.iload_n 3, 1) := by decide +kernel
theorem dX2_bringWater_33 : decode cX2_bringWater 33 = .ok (.iadd, 1) := by decide +kernel
theorem dX2_bringWater_34 : decode cX2_bringWater 34 = .ok (.putfield 65, 3) := by decide +kernel
theorem dX2_bringWater_37 : decode cX2_bringWater 37 = .ok (.return_, 1) := by decide +kernel
set_option maxRecDepth 20000 in
theorem ggX2_loseWater_X2_cells : GoodIn wsX2_loseWater wsX2_cells := goodIn_r _ [15, 16, 17, 18, 19, 20, 21, 22, 23, 24, 25, 26, 27, 28, 29, 30, 31, 32, 33, 34, 35] (by decide +kernel) (by decide +kernel)
set_option maxRecDepth 20000 in
theorem gX2_loseWater_X2_cells : GoodIn wsX2_loseWater (wsV RX2 95 RX2 yX2_cells wsX2_cells) := goodIn_app (goodIn_of _ (by decide +kernel)) ggX2_loseWater_X2_cells
theorem dX2_loseWater_0 : decode cX2_loseWater 0 = .ok (.iconst 0, 1) := by decide +kernel
theorem dX2_loseWater_1 : decode cX2_loseWater 1 = .ok (.istore_n 2, 1) := by decide +kernel
theorem dX2_loseWater_2 : decode cX2_loseWater 2 = .ok (.iload_n 2, 1) := by decide +kernel
theorem dX2_loseWater_3 : decode cX2_loseWater 3 = .ok (.aload_n 0, 1) := by decide +kernel
theorem dX2_loseWater_4 : decode cX2_loseWater 4 = .ok (.invokevirtual 95, 3) := by decide +kernel
theorem dX2_loseWater_7 : decode cX2_loseWater 7 = .ok (.if_icmp .ge 59, 3) := by decide +kernel
theorem dX2_loseWater_10 : decode cX2_loseWater 10 = .ok (.aload_n 0, 1) := by decide +kernel
theorem dX2_loseWater_11 : decode cX2_loseWater 11 = .ok (.getfield 15, 3) := by decide +kernel
theorem dX2_loseWater_14 : decode cX2_loseWater 14 = .ok (.iload_n 2, 1) := by decide +kernel
theorem dX2_loseWater_15 : decode cX2_loseWater 15 = .ok (.iaload, 1) := by decide +kernel
theorem dX2_loseWater_16 : decode cX2_loseWater 16 = .ok (.aload_n 0, 1) := by decide +kernel
theorem dX2_loseWater_17 : decode cX2_loseWater 17 = .ok (.getfield 21, 3) := by decide +kernel
theorem dX2_loseWater_20 : decode cX2_loseWater 20 = .ok (.iload_n 2, 1) := by decide +kernel
theorem dX2_loseWater_21 : decode cX2_loseWater 21 = .ok (.iaload, 1) := by decide +kernel
theorem dX2_loseWater_22 : decode cX2_loseWater 22 = .ok (.isub, 1) := by decide +kernel
theorem dX2_loseWater_23 : decode cX2_loseWater 23 = .ok (.iload_n 1, 1) := by decide +kernel
theorem dX2_loseWater_24 : decode cX2_loseWater 24 = .ok (.isub, 1) := by decide +kernel
theorem dX2_loseWater_25 : decode cX2_loseWater 25 = .ok (.iconst 0, 1) := by decide +kernel
theorem dX2_loseWater_26 : decode cX2_loseWater 26 = .ok (.invokestatic 132, 3) := by decide +kernel
theorem dX2_loseWater_29 : decode cX2_loseWater 29 = .ok (.istore_n 3, 1) := by decide +kernel
theorem dX2_loseWater_30 : decode cX2_loseWater 30 = .ok (.aload_n 0, 1) := by decide +kernel
theorem dX2_loseWater_31 : decode cX2_loseWater 31 = .ok (.getfield 15, 3) := by decide +kernel
theorem dX2_loseWater_34 : decode cX2_loseWater 34 = .ok (.iload_n 2, 1) := by decide +kernel
theorem dX2_loseWater_35 : decode cX2_loseWater 35 = .ok (.iload_n 3, 1) := by decide +kernel
theorem dX2_loseWater_36 : decode cX2_loseWater 36 = .ok (.sipush 200, 3) := by decide +kernel
theorem dX2_loseWater_39 : decode cX2_loseWater 39 = .ok (.invokestatic 137, 3) := by decide +kernel
theorem dX2_loseWater_42 : decode cX2_loseWater 42 = .ok (.iastore, 1) := by decide +kernel
theorem dX2_loseWater_43 : decode cX2_loseWater 43 = .ok (.aload_n 0, 1) := by decide +kernel
theorem dX2_loseWater_44 : decode cX2_loseWater 44 = .ok (.dup, 1) := by decide +kernel
theorem dX2_loseWater_45 : decode cX2_loseWater 45 = .ok (.getfield 65, 3) := by decide +kernel
theorem dX2_loseWater_48 : decode cX2_loseWater 48 = .ok (.iload_n 3, 1) := by decide +kernel
theorem dX2_loseWater_49 : decode cX2_loseWater 49 = .ok (.aload_n 0, 1) := by decide +kernel
theorem dX2_loseWater_50 : decode cX2_loseWater 50 = .ok (.getfield 15, 3) := by decide +kernel
theorem dX2_loseWater_53 : decode cX2_loseWater 53 = .ok (.iload_n 2, 1) := by decide +kernel
theorem dX2_loseWater_54 : decode cX2_loseWater 54 = .ok (.iaload, 1) := by decide +kernel
theorem dX2_loseWater_55 : decode cX2_loseWater 55 = .ok (.isub, 1) := by decide +kernel
theorem dX2_loseWater_56 : decode cX2_loseWater 56 = .ok (.iadd, 1) := by decide +kernel
theorem dX2_loseWater_57 : decode cX2_loseWater 57 = .ok (.putfield 65, 3) := by decide +kernel
theorem dX2_loseWater_60 : decode cX2_loseWater 60 = .ok (.iinc 2 1, 3) := by decide +kernel
theorem dX2_loseWater_63 : decode cX2_loseWater 63 = .ok (.goto (-61), 3) := by decide +kernel
theorem dX2_loseWater_66 : decode cX2_loseWater 66 = .ok (.return_, 1) := by decide +kernel
set_option maxRecDepth 20000 in
theorem ggX2_growRice_X2_cells : GoodIn wsX2_growRice wsX2_cells := goodIn_r _ [6, 7, 8, 37, 38, 39, 40, 41, 42, 43, 44, 45, 46, 47, 48, 49, 50, 51, 52, 53, 54] (by decide +kernel) (by decide +kernel)
set_option maxRecDepth 20000 in
theorem gX2_growRice_X2_cells : GoodIn wsX2_growRice (wsV RX2 95 RX2 yX2_cells wsX2_cells) := goodIn_app (goodIn_of _ (by decide +kernel)) ggX2_growRice_X2_cells
set_option maxRecDepth 20000 in
theorem ggX2_growRice_X2_growCrop : GoodIn wsX2_growRice wsX2_growCrop := goodIn_r _ [12, 13, 14, 15, 16, 17, 18, 19, 20, 21, 22, 23, 24, 25, 26, 27, 28, 5, 29, 1, 30, 31, 32, 33, 34, 35, 36, 37, 38, 39, 40, 41, 42, 43, 44, 45, 46, 47, 48, 49, 50, 51, 52, 53, 54] (by decide +kernel) (by decide +kernel)
set_option maxRecDepth 20000 in
theorem gX2_growRice_X2_growCrop : GoodIn wsX2_growRice (wsV RX2 148 RX2 yX2_growCrop wsX2_growCrop) := goodIn_app (goodIn_of _ (by decide +kernel)) ggX2_growRice_X2_growCrop
theorem dX2_growRice_0 : decode cX2_growRice 0 = .ok (.iconst 0, 1) := by decide +kernel
theorem dX2_growRice_1 : decode cX2_growRice 1 = .ok (.istore_n 1, 1) := by decide +kernel
theorem dX2_growRice_2 : decode cX2_growRice 2 = .ok (.iload_n 1, 1) := by decide +kernel
theorem dX2_growRice_3 : decode cX2_growRice 3 = .ok (.aload_n 0, 1) := by decide +kernel
theorem dX2_growRice_4 : decode cX2_growRice 4 = .ok (.invokevirtual 95, 3) := by decide +kernel
theorem dX2_growRice_7 : decode cX2_growRice 7 = .ok (.if_icmp .ge 23, 3) := by decide +kernel
theorem dX2_growRice_10 : decode cX2_growRice 10 = .ok (.aload_n 0, 1) := by decide +kernel
theorem dX2_growRice_11 : decode cX2_growRice 11 = .ok (.getfield 30, 3) := by decide +kernel
theorem dX2_growRice_14 : decode cX2_growRice 14 = .ok (.iload_n 1, 1) := by decide +kernel
theorem dX2_growRice_15 : decode cX2_growRice 15 = .ok (.iaload, 1) := by decide +kernel
theorem dX2_growRice_16 : decode cX2_growRice 16 = .ok (.ifCond .eq 8, 3) := by decide +kernel
theorem dX2_growRice_19 : decode cX2_growRice 19 = .ok (.aload_n 0, 1) := by decide +kernel
theorem dX2_growRice_20 : decode cX2_growRice 20 = .ok (.iload_n 1, 1) := by decide +kernel
theorem dX2_growRice_21 : decode cX2_growRice 21 = .ok (.invokevirtual 148, 3) := by decide +kernel
theorem dX2_growRice_24 : decode cX2_growRice 24 = .ok (.iinc 1 1, 3) := by decide +kernel
theorem dX2_growRice_27 : decode cX2_growRice 27 = .ok (.goto (-25), 3) := by decide +kernel
theorem dX2_growRice_30 : decode cX2_growRice 30 = .ok (.return_, 1) := by decide +kernel
set_option maxRecDepth 20000 in
theorem ggX2_growCrop_X2_clearCrop : GoodIn wsX2_growCrop wsX2_clearCrop := goodIn_r _ [18, 19, 1, 10, 6, 8, 27, 28, 29, 30, 31, 32, 33, 34, 35, 36, 37, 38, 39, 40, 41, 42, 43, 44] (by decide +kernel) (by decide +kernel)
set_option maxRecDepth 20000 in
theorem gX2_growCrop_X2_clearCrop : GoodIn wsX2_growCrop (wsV RX2 77 RX2 yX2_clearCrop wsX2_clearCrop) := goodIn_app (goodIn_of _ (by decide +kernel)) ggX2_growCrop_X2_clearCrop
set_option maxRecDepth 20000 in
theorem ggX2_growCrop_X2_hardening : GoodIn wsX2_growCrop wsX2_hardening := goodIn_r _ [23, 6, 8, 7, 24, 25, 26, 27, 28, 29, 30, 31, 32, 33, 34, 35, 36, 37, 38, 39, 40, 41, 42, 43, 44] (by decide +kernel) (by decide +kernel)
set_option maxRecDepth 20000 in
theorem gX2_growCrop_X2_hardening : GoodIn wsX2_growCrop (wsV RX2 151 RX2 yX2_hardening wsX2_hardening) := goodIn_app (goodIn_of _ (by decide +kernel)) ggX2_growCrop_X2_hardening
theorem dX2_growCrop_0 : decode cX2_growCrop 0 = .ok (.aload_n 0, 1) := by decide +kernel
theorem dX2_growCrop_1 : decode cX2_growCrop 1 = .ok (.getfield 33, 3) := by decide +kernel
theorem dX2_growCrop_4 : decode cX2_growCrop 4 = .ok (.iload_n 1, 1) := by decide +kernel
theorem dX2_growCrop_5 : decode cX2_growCrop 5 = .ok (.dup2, 1) := by decide +kernel
theorem dX2_growCrop_6 : decode cX2_growCrop 6 = .ok (.iaload, 1) := by decide +kernel
theorem dX2_growCrop_7 : decode cX2_growCrop 7 = .ok (.iconst 1, 1) := by decide +kernel
theorem dX2_growCrop_8 : decode cX2_growCrop 8 = .ok (.iadd, 1) := by decide +kernel
theorem dX2_growCrop_9 : decode cX2_growCrop 9 = .ok (.iastore, 1) := by decide +kernel
theorem dX2_growCrop_10 : decode cX2_growCrop 10 = .ok (.iconst 5, 1) := by decide +kernel
theorem dX2_growCrop_11 : decode cX2_growCrop 11 = .ok (.aload_n 0, 1) := by decide +kernel
theorem dX2_growCrop_12 : decode cX2_growCrop 12 = .ok (.getfield 33, 3) := by decide +kernel
theorem dX2_growCrop_15 : decode cX2_growCrop 15 = .ok (.iload_n 1, 1) := by decide +kernel
theorem dX2_growCrop_16 : decode cX2_growCrop 16 = .ok (.iaload, 1) := by decide +kernel
theorem dX2_growCrop_17 : decode cX2_growCrop 17 = .ok (.iconst 2, 1) := by decide +kernel
theorem dX2_growCrop_18 : decode cX2_growCrop 18 = .ok (.imul, 1) := by decide +kernel
theorem dX2_growCrop_19 : decode cX2_growCrop 19 = .ok (.iconst 3, 1) := by decide +kernel
theorem dX2_growCrop_20 : decode cX2_growCrop 20 = .ok (.idiv, 1) := by decide +kernel
theorem dX2_growCrop_21 : decode cX2_growCrop 21 = .ok (.iadd, 1) := by decide +kernel
theorem dX2_growCrop_22 : decode cX2_growCrop 22 = .ok (.bipush 45, 2) := by decide +kernel
theorem dX2_growCrop_24 : decode cX2_growCrop 24 = .ok (.invokestatic 137, 3) := by decide +kernel
theorem dX2_growCrop_27 : decode cX2_growCrop 27 = .ok (.istore_n 2, 1) := by decide +kernel
theorem dX2_growCrop_28 : decode cX2_growCrop 28 = .ok (.aload_n 0, 1) := by decide +kernel
theorem dX2_growCrop_29 : decode cX2_growCrop 29 = .ok (.getfield 39, 3) := by decide +kernel
theorem dX2_growCrop_32 : decode cX2_growCrop 32 = .ok (.iload_n 1, 1) := by decide +kernel
theorem dX2_growCrop_33 : decode cX2_growCrop 33 = .ok (.aload_n 0, 1) := by decide +kernel
theorem dX2_growCrop_34 : decode cX2_growCrop 34 = .ok (.getfield 15, 3) := by decide +kernel
theorem dX2_growCrop_37 : decode cX2_growCrop 37 = .ok (.iload_n 1, 1) := by decide +kernel
theorem dX2_growCrop_38 : decode cX2_growCrop 38 = .ok (.iaload, 1) := by decide +kernel
theorem dX2_growCrop_39 : decode cX2_growCrop 39 = .ok (.iload_n 2, 1) := by decide +kernel
theorem dX2_growCrop_40 : decode cX2_growCrop 40 = .ok (.if_icmp .le 14, 3) := by decide +kernel
theorem dX2_growCrop_43 : decode cX2_growCrop 43 = .ok (.aload_n 0, 1) := by decide +kernel
theorem dX2_growCrop_44 : decode cX2_growCrop 44 = .ok (.getfield 39, 3) := by decide +kernel
theorem dX2_growCrop_47 : decode cX2_growCrop 47 = .ok (.iload_n 1, 1) := by decide +kernel
theorem dX2_growCrop_48 : decode cX2_growCrop 48 = .ok (.iaload, 1) := by decide +kernel
theorem dX2_growCrop_49 : decode cX2_growCrop 49 = .ok (.iconst 1, 1) := by decide +kernel
theorem dX2_growCrop_50 : decode cX2_growCrop 50 = .ok (.iadd, 1) := by decide +kernel
theorem dX2_growCrop_51 : decode cX2_growCrop 51 = .ok (.goto 4, 3) := by decide +kernel
theorem dX2_growCrop_54 : decode cX2_growCrop 54 = .ok (.iconst 0, 1) := by decide +kernel
theorem dX2_growCrop_55 : decode cX2_growCrop 55 = .ok (.iastore, 1) := by decide +kernel
theorem dX2_growCrop_56 : decode cX2_growCrop 56 = .ok (.aload_n 0, 1) := by decide +kernel
theorem dX2_growCrop_57 : decode cX2_growCrop 57 = .ok (.getfield 42, 3) := by decide +kernel
theorem dX2_growCrop_60 : decode cX2_growCrop 60 = .ok (.iload_n 1, 1) := by decide +kernel
theorem dX2_growCrop_61 : decode cX2_growCrop 61 = .ok (.aload_n 0, 1) := by decide +kernel
theorem dX2_growCrop_62 : decode cX2_growCrop 62 = .ok (.getfield 15, 3) := by decide +kernel
theorem dX2_growCrop_65 : decode cX2_growCrop 65 = .ok (.iload_n 1, 1) := by decide +kernel
theorem dX2_growCrop_66 : decode cX2_growCrop 66 = .ok (.iaload, 1) := by decide +kernel
theorem dX2_growCrop_67 : decode cX2_growCrop 67 = .ok (.ifCond .ne 14, 3) := by decide +kernel
theorem dX2_growCrop_70 : decode cX2_growCrop 70 = .ok (.aload_n 0, 1) := by decide +kernel
theorem dX2_growCrop_71 : decode cX2_growCrop 71 = .ok (.getfield 42, 3) := by decide +kernel
theorem dX2_growCrop_74 : decode cX2_growCrop 74 = .ok (.iload_n 1, 1) := by decide +kernel
theorem dX2_growCrop_75 : decode cX2_growCrop 75 = .ok (.iaload, 1) := by decide +kernel
theorem dX2_growCrop_76 : decode cX2_growCrop 76 = .ok (.iconst 1, 1) := by decide +kernel
theorem dX2_growCrop_77 : decode cX2_growCrop 77 = .ok (.iadd, 1) := by decide +kernel
theorem dX2_growCrop_78 : decode cX2_growCrop 78 = .ok (.goto 4, 3) := by decide +kernel
theorem dX2_growCrop_81 : decode cX2_growCrop 81 = .ok (.iconst 0, 1) := by decide +kernel
theorem dX2_growCrop_82 : decode cX2_growCrop 82 = .ok (.iastore, 1) := by decide +kernel
theorem dX2_growCrop_83 : decode cX2_growCrop 83 = .ok (.aload_n 0, 1) := by decide +kernel
theorem dX2_growCrop_84 : decode cX2_growCrop 84 = .ok (.getfield 39, 3) := by decide +kernel
theorem dX2_growCrop_87 : decode cX2_growCrop 87 = .ok (.iload_n 1, 1) := by decide +kernel
theorem dX2_growCrop_88 : decode cX2_growCrop 88 = .ok (.iaload, 1) := by decide +kernel
theorem dX2_growCrop_89 : decode cX2_growCrop 89 = .ok (.iconst 4, 1) := by decide +kernel
theorem dX2_growCrop_90 : decode cX2_growCrop 90 = .ok (.if_icmp .ge 13, 3) := by decide +kernel
theorem dX2_growCrop_93 : decode cX2_growCrop 93 = .ok (.aload_n 0, 1) := by decide +kernel
theorem dX2_growCrop_94 : decode cX2_growCrop 94 = .ok (.getfield 42, 3) := by decide +kernel
theorem dX2_growCrop_97 : decode cX2_growCrop 97 = .ok (.iload_n 1, 1) := by decide +kernel
theorem dX2_growCrop_98 : decode cX2_growCrop 98 = .ok (.iaload, 1) := by decide +kernel
theorem dX2_growCrop_99 : decode cX2_growCrop 99 = .ok (.iconst 5, 1) := by decide +kernel
theorem dX2_growCrop_100 : decode cX2_growCrop 100 = .ok (.if_icmp .lt 21, 3) := by decide +kernel
theorem dX2_growCrop_103 : decode cX2_growCrop 103 = .ok (.aload_n 0, 1) := by decide +kernel
theorem dX2_growCrop_104 : decode cX2_growCrop 104 = .ok (.iload_n 1, 1) := by decide +kernel
theorem dX2_growCrop_105 : decode cX2_growCrop 105 = .ok (.invokevirtual 77, 3) := by decide +kernel
theorem dX2_growCrop_108 : decode cX2_growCrop 108 = .ok (.aload_n 0, 1) := by decide +kernel
theorem dX2_growCrop_109 : decode cX2_growCrop 109 = .ok (.dup, 1) := by decide +kernel
theorem dX2_growCrop_110 : decode cX2_growCrop 110 = .ok (.getfield 68, 3) := by decide +kernel
theorem dX2_growCrop_113 : decode cX2_growCrop 113 = .ok (.iconst 1, 1) := by decide +kernel
theorem dX2_growCrop_114 : decode cX2_growCrop 114 = .ok (.iadd, 1) := by decide +kernel
theorem dX2_growCrop_115 : decode cX2_growCrop 115 = .ok (.putfield 68, 3) := by decide +kernel
theorem dX2_growCrop_118 : decode cX2_growCrop 118 = .ok (.goto 32, 3) := by decide +kernel
theorem dX2_growCrop_121 : decode cX2_growCrop 121 = .ok (.aload_n 0, 1) := by decide +kernel
theorem dX2_growCrop_122 : decode cX2_growCrop 122 = .ok (.getfield 36, 3) := by decide +kernel
theorem dX2_growCrop_125 : decode cX2_growCrop 125 = .ok (.iload_n 1, 1) := by decide +kernel
theorem dX2_growCrop_126 : decode cX2_growCrop 126 = .ok (.iaload, 1) := by decide +kernel
theorem dX2_growCrop_127 : decode cX2_growCrop 127 = .ok (.aload_n 0, 1) := by decide +kernel
theorem dX2_growCrop_128 : decode cX2_growCrop 128 = .ok (.iload_n 1, 1) := by decide +kernel
theorem dX2_growCrop_129 : decode cX2_growCrop 129 = .ok (.invokevirtual 151, 3) := by decide +kernel
theorem dX2_growCrop_132 : decode cX2_growCrop 132 = .ok (.iadd, 1) := by decide +kernel
theorem dX2_growCrop_133 : decode cX2_growCrop 133 = .ok (.istore_n 3, 1) := by decide +kernel
theorem dX2_growCrop_134 : decode cX2_growCrop 134 = .ok (.aload_n 0, 1) := by decide +kernel
theorem dX2_growCrop_135 : decode cX2_growCrop 135 = .ok (.getfield 36, 3) := by decide +kernel
theorem dX2_growCrop_138 : decode cX2_growCrop 138 = .ok (.iload_n 1, 1) := by decide +kernel
theorem dX2_growCrop_139 : decode cX2_growCrop 139 = .ok (.iload_n 3, 1) := by decide +kernel
theorem dX2_growCrop_140 : decode cX2_growCrop 140 = .ok (.iconst 0, 1) := by decide +kernel
theorem dX2_growCrop_141 : decode cX2_growCrop 141 = .ok (.invokestatic 132, 3) := by decide +kernel
theorem dX2_growCrop_144 : decode cX2_growCrop 144 = .ok (.bipush 100, 2) := by decide +kernel
theorem dX2_growCrop_146 : decode cX2_growCrop 146 = .ok (.invokestatic 137, 3) := by decide +kernel
theorem dX2_growCrop_149 : decode cX2_growCrop 149 = .ok (.iastore, 1) := by decide +kernel
theorem dX2_growCrop_150 : decode cX2_growCrop 150 = .ok (.return_, 1) := by decide +kernel
set_option maxRecDepth 20000 in
theorem ggX2_hardening_X3_isWithin : GoodIn wsX2_hardening wsX3_isWithin := goodIn_r _ [6] (by decide +kernel) (by decide +kernel)
set_option maxRecDepth 20000 in
theorem gX2_hardening_X3_isWithin_n155 : GoodIn wsX2_hardening (wsX3_isWithin) := ggX2_hardening_X3_isWithin
theorem dX2_hardening_0 : decode cX2_hardening 0 = .ok (.aload_n 0, 1) := by decide +kernel
theorem dX2_hardening_1 : decode cX2_hardening 1 = .ok (.getfield 39, 3) := by decide +kernel
theorem dX2_hardening_4 : decode cX2_hardening 4 = .ok (.iload_n 1, 1) := by decide +kernel
theorem dX2_hardening_5 : decode cX2_hardening 5 = .ok (.iaload, 1) := by decide +kernel
theorem dX2_hardening_6 : decode cX2_hardening 6 = .ok (.ifCond .gt 12, 3) := by decide +kernel
theorem dX2_hardening_9 : decode cX2_hardening 9 = .ok (.aload_n 0, 1) := by decide +kernel
theorem dX2_hardening_10 : decode cX2_hardening 10 = .ok (.getfield 42, 3) := by decide +kernel
theorem dX2_hardening_13 : decode cX2_hardening 13 = .ok (.iload_n 1, 1) := by decide +kernel
theorem dX2_hardening_14 : decode cX2_hardening 14 = .ok (.iaload, 1) := by decide +kernel
theorem dX2_hardening_15 : decode cX2_hardening 15 = .ok (.ifCond .le 6, 3) := by decide +kernel
theorem dX2_hardening_18 : decode cX2_hardening 18 = .ok (.bipush (-3), 2) := by decide +kernel
theorem dX2_hardening_20 : decode cX2_hardening 20 = .ok (.ireturn, 1) := by decide +kernel
theorem dX2_hardening_21 : decode cX2_hardening 21 = .ok (.aload_n 0, 1) := by decide +kernel
theorem dX2_hardening_22 : decode cX2_hardening 22 = .ok (.getfield 15, 3) := by decide +kernel
theorem dX2_hardening_25 : decode cX2_hardening 25 = .ok (.iload_n 1, 1) := by decide +kernel
theorem dX2_hardening_26 : decode cX2_hardening 26 = .ok (.iaload, 1) := by decide +kernel
theorem dX2_hardening_27 : decode cX2_hardening 27 = .ok (.iconst 5, 1) := by decide +kernel
theorem dX2_hardening_28 : decode cX2_hardening 28 = .ok (.bipush 25, 2) := by decide +kernel
theorem dX2_hardening_30 : decode cX2_hardening 30 = .ok (.invokestatic 155, 3) := by decide +kernel
theorem dX2_hardening_33 : decode cX2_hardening 33 = .ok (.ifCond .eq 7, 3) := by decide +kernel
theorem dX2_hardening_36 : decode cX2_hardening 36 = .ok (.iconst 2, 1) := by decide +kernel
theorem dX2_hardening_37 : decode cX2_hardening 37 = .ok (.goto 4, 3) := by decide +kernel
theorem dX2_hardening_40 : decode cX2_hardening 40 = .ok (.iconst 1, 1) := by decide +kernel
theorem dX2_hardening_41 : decode cX2_hardening 41 = .ok (.ireturn, 1) := by decide +kernel
