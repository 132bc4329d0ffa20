set_option maxRecDepth 20000 in
theorem ggX4_init_X4_clear : GoodIn wsX4_init wsX4_clear := goodIn_r _ [15, 5, 6, 4, 7, 16, 17, 18, 19, 20, 21, 22, 23, 24, 25, 26] (by decide +kernel) (by decide +kernel)
set_option maxRecDepth 20000 in
theorem gX4_init_X4_clear : GoodIn wsX4_init (wsV RX4 28 RX4 yX4_clear wsX4_clear) := goodIn_app (goodIn_of _ (by decide +kernel)) ggX4_init_X4_clear
theorem dX4_init_0 : decode cX4_init 0 = .ok (.aload_n 0, 1) := by decide +kernel
theorem dX4_init_1 : decode cX4_init 1 = .ok (.invokespecial 1, 3) := by decide +kernel
theorem dX4_init_4 : decode cX4_init 4 = .ok (.aload_n 0, 1) := by decide +kernel
theorem dX4_init_5 : decode cX4_init 5 = .ok (.bipush 7, 2) := by decide +kernel
theorem dX4_init_7 : decode cX4_init 7 = .ok (.newarray .int, 2) := by decide +kernel
theorem dX4_init_9 : decode cX4_init 9 = .ok (.putfield 9, 3) := by decide +kernel
theorem dX4_init_12 : decode cX4_init 12 = .ok (.aload_n 0, 1) := by decide +kernel
theorem dX4_init_13 : decode cX4_init 13 = .ok (.bipush 8, 2) := by decide +kernel
theorem dX4_init_15 : decode cX4_init 15 = .ok (.newarray .int, 2) := by decide +kernel
theorem dX4_init_17 : decode cX4_init 17 = .ok (.putfield 13, 3) := by decide +kernel
theorem dX4_init_20 : decode cX4_init 20 = .ok (.aload_n 0, 1) := by decide +kernel
theorem dX4_init_21 : decode cX4_init 21 = .ok (.sipush 768, 3) := by decide +kernel
theorem dX4_init_24 : decode cX4_init 24 = .ok (.newarray .int, 2) := by decide +kernel
theorem dX4_init_26 : decode cX4_init 26 = .ok (.putfield 16, 3) := by decide +kernel
theorem dX4_init_29 : decode cX4_init 29 = .ok (.aload_n 0, 1) := by decide +kernel
theorem dX4_init_30 : decode cX4_init 30 = .ok (.bipush 90, 2) := by decide +kernel
theorem dX4_init_32 : decode cX4_init 32 = .ok (.newarray .int, 2) := by decide +kernel
theorem dX4_init_34 : decode cX4_init 34 = .ok (.putfield 19, 3) := by decide +kernel
theorem dX4_init_37 : decode cX4_init 37 = .ok (.aload_n 0, 1) := by decide +kernel
theorem dX4_init_38 : decode cX4_init 38 = .ok (.bipush 7, 2) := by decide +kernel
theorem dX4_init_40 : decode cX4_init 40 = .ok (.newarray .int, 2) := by decide +kernel
theorem dX4_init_42 : decode cX4_init 42 = .ok (.putfield 22, 3) := by decide +kernel
theorem dX4_init_45 : decode cX4_init 45 = .ok (.aload_n 0, 1) := by decide +kernel
theorem dX4_init_46 : decode cX4_init 46 = .ok (.sipush 768, 3) := by decide +kernel
theorem dX4_init_49 : decode cX4_init 49 = .ok (.newarray .int, 2) := by decide +kernel
theorem dX4_init_51 : decode cX4_init 51 = .ok (.putfield 25, 3) := by decide +kernel
theorem dX4_init_54 : decode cX4_init 54 = .ok (.iconst 0, 1) := by decide +kernel
theorem dX4_init_55 : decode cX4_init 55 = .ok (.istore_n 1, 1) := by decide +kernel
theorem dX4_init_56 : decode cX4_init 56 = .ok (.iload_n 1, 1) := by decide +kernel
theorem dX4_init_57 : decode cX4_init 57 = .ok (.bipush 30, 2) := by decide +kernel
theorem dX4_init_59 : decode cX4_init 59 = .ok (.if_icmp .ge 32, 3) := by decide +kernel
theorem dX4_init_62 : decode cX4_init 62 = .ok (.aload_n 0, 1) := by decide +kernel
theorem dX4_init_63 : decode cX4_init 63 = .ok (.getfield 19, 3) := by decide +kernel
theorem dX4_init_66 : decode cX4_init 66 = .ok (.iconst 3, 1) := by decide +kernel
theorem dX4_init_67 : decode cX4_init 67 = .ok (.iload_n 1, 1) := by decide +kernel
theorem dX4_init_68 : decode cX4_init 68 = .ok (.imul, 1) := by decide +kernel
theorem dX4_init_69 : decode cX4_init 69 = .ok (.iconst 1, 1) := by decide +kernel
theorem dX4_init_70 : decode cX4_init 70 = .ok (.iadd, 1) := by decide +kernel
theorem dX4_init_71 : decode cX4_init 71 = .ok (.bipush 60, 2) := by decide +kernel
theorem dX4_init_73 : decode cX4_init 73 = .ok (.iastore, 1) := by decide +kernel
theorem dX4_init_74 : decode cX4_init 74 = .ok (.aload_n 0, 1) := by decide +kernel
theorem dX4_init_75 : decode cX4_init 75 = .ok (.getfield 19, 3) := by decide +kernel
theorem dX4_init_78 : decode cX4_init 78 = .ok (.iconst 3, 1) := by decide +kernel
theorem dX4_init_79 : decode cX4_init 79 = .ok (.iload_n 1, 1) := by decide +kernel
theorem dX4_init_80 : decode cX4_init 80 = .ok (.imul, 1) := by decide +kernel
theorem dX4_init_81 : decode cX4_init 81 = .ok (.iconst 2, 1) := by decide +kernel
theorem dX4_init_82 : decode cX4_init 82 = .ok (.iadd, 1) := by decide +kernel
theorem dX4_init_83 : decode cX4_init 83 = .ok (.iconst 3, 1) := by decide +kernel
theorem dX4_init_84 : decode cX4_init 84 = .ok (.iastore, 1) := by decide +kernel
theorem dX4_init_85 : decode cX4_init 85 = .ok (.iinc 1 1, 3) := by decide +kernel
theorem dX4_init_88 : decode cX4_init 88 = .ok (.goto (-32), 3) := by decide +kernel
theorem dX4_init_91 : decode cX4_init 91 = .ok (.aload_n 0, 1) := by decide +kernel
theorem dX4_init_92 : decode cX4_init 92 = .ok (.iconst 4, 1) := by decide +kernel
theorem dX4_init_93 : decode cX4_init 93 = .ok (.iconst 4, 1) := by decide +kernel
theorem dX4_init_94 : decode cX4_init 94 = .ok (.invokevirtual 28, 3) := by decide +kernel
theorem dX4_init_97 : decode cX4_init 97 = .ok (.return_, 1) := by decide +kernel
theorem dX4_clear_0 : decode cX4_clear 0 = .ok (.iconst 0, 1) := by decide +kernel
theorem dX4_clear_1 : decode cX4_clear 1 = .ok (.istore_n 3, 1) := by decide +kernel
theorem dX4_clear_2 : decode cX4_clear 2 = .ok (.iload_n 3, 1) := by decide +kernel
theorem dX4_clear_3 : decode cX4_clear 3 = .ok (.bipush 7, 2) := by decide +kernel
theorem dX4_clear_5 : decode cX4_clear 5 = .ok (.if_icmp .ge 16, 3) := by decide +kernel
theorem dX4_clear_8 : decode cX4_clear 8 = .ok (.aload_n 0, 1) := by decide +kernel
theorem dX4_clear_9 : decode cX4_clear 9 = .ok (.getfield 9, 3) := by decide +kernel
theorem dX4_clear_12 : decode cX4_clear 12 = .ok (.iload_n 3, 1) := by decide +kernel
theorem dX4_clear_13 : decode cX4_clear 13 = .ok (.iconst 0, 1) := by decide +kernel
theorem dX4_clear_14 : decode cX4_clear 14 = .ok (.iastore, 1) := by decide +kernel
theorem dX4_clear_15 : decode cX4_clear 15 = .ok (.iinc 3 1, 3) := by decide +kernel
theorem dX4_clear_18 : decode cX4_clear 18 = .ok (.goto (-16), 3) := by decide +kernel
theorem dX4_clear_21 : decode cX4_clear 21 = .ok (.aload_n 0, 1) := by decide +kernel
theorem dX4_clear_22 : decode cX4_clear 22 = .ok (.getfield 9, 3) := by decide +kernel
theorem dX4_clear_25 : decode cX4_clear 25 = .ok (.iconst 0, 1) := by decide +kernel
theorem dX4_clear_26 : decode cX4_clear 26 = .ok (.iload_n 1, 1) := by decide +kernel
theorem dX4_clear_27 : decode cX4_clear 27 = .ok (.iastore, 1) := by decide +kernel
theorem dX4_clear_28 : decode cX4_clear 28 = .ok (.aload_n 0, 1) := by decide +kernel
theorem dX4_clear_29 : decode cX4_clear 29 = .ok (.getfield 9, 3) := by decide +kernel
theorem dX4_clear_32 : decode cX4_clear 32 = .ok (.iconst 1, 1) := by decide +kernel
theorem dX4_clear_33 : decode cX4_clear 33 = .ok (.iload_n 2, 1) := by decide +kernel
theorem dX4_clear_34 : decode cX4_clear 34 = .ok (.iastore, 1) := by decide +kernel
theorem dX4_clear_35 : decode cX4_clear 35 = .ok (.iconst 0, 1) := by decide +kernel
theorem dX4_clear_36 : decode cX4_clear 36 = .ok (.istore_n 3, 1) := by decide +kernel
theorem dX4_clear_37 : decode cX4_clear 37 = .ok (.iload_n 3, 1) := by decide +kernel
theorem dX4_clear_38 : decode cX4_clear 38 = .ok (.bipush 8, 2) := by decide +kernel
theorem dX4_clear_40 : decode cX4_clear 40 = .ok (.if_icmp .ge 16, 3) := by decide +kernel
theorem dX4_clear_43 : decode cX4_clear 43 = .ok (.aload_n 0, 1) := by decide +kernel
theorem dX4_clear_44 : decode cX4_clear 44 = .ok (.getfield 13, 3) := by decide +kernel
theorem dX4_clear_47 : decode cX4_clear 47 = .ok (.iload_n 3, 1) := by decide +kernel
theorem dX4_clear_48 : decode cX4_clear 48 = .ok (.iconst 1, 1) := by decide +kernel
theorem dX4_clear_49 : decode cX4_clear 49 = .ok (.iastore, 1) := by decide +kernel
theorem dX4_clear_50 : decode cX4_clear 50 = .ok (.iinc 3 1, 3) := by decide +kernel
theorem dX4_clear_53 : decode cX4_clear 53 = .ok (.goto (-16), 3) := by decide +kernel
theorem dX4_clear_56 : decode cX4_clear 56 = .ok (.bipush 12, 2) := by decide +kernel
theorem dX4_clear_58 : decode cX4_clear 58 = .ok (.newarray .int, 2) := by decide +kernel
theorem dX4_clear_60 : decode cX4_clear 60 = .ok (.dup, 1) := by decide +kernel
theorem dX4_clear_61 : decode cX4_clear 61 = .ok (.iconst 0, 1) := by decide +kernel
theorem dX4_clear_62 : decode cX4_clear 62 = .ok (.iconst 0, 1) := by decide +kernel
theorem dX4_clear_63 : decode cX4_clear 63 = .ok (.iastore, 1) := by decide +kernel
theorem dX4_clear_64 : decode cX4_clear 64 = .ok (.dup, 1) := by decide +kernel
theorem dX4_clear_65 : decode cX4_clear 65 = .ok (.iconst 1, 1) := by decide +kernel
theorem dX4_clear_66 : decode cX4_clear 66 = .ok (.bipush 60, 2) := by decide +kernel
theorem dX4_clear_68 : decode cX4_clear 68 = .ok (.iastore, 1) := by decide +kernel
theorem dX4_clear_69 : decode cX4_clear 69 = .ok (.dup, 1) := by decide +kernel
theorem dX4_clear_70 : decode cX4_clear 70 = .ok (.iconst 2, 1) := by decide +kernel
theorem dX4_clear_71 : decode cX4_clear 71 = .ok (.iconst 2, 1) := by decide +kernel
theorem dX4_clear_72 : decode cX4_clear 72 = .ok (.iastore, 1) := by decide +kernel
theorem dX4_clear_73 : decode cX4_clear 73 = .ok (.dup, 1) := by decide +kernel
theorem dX4_clear_74 : decode cX4_clear 74 = .ok (.iconst 3, 1) := by decide +kernel
theorem dX4_clear_75 : decode cX4_clear 75 = .ok (.bipush 30, 2) := by decide +kernel
theorem dX4_clear_77 : decode cX4_clear 77 = .ok (.iastore, 1) := by decide +kernel
theorem dX4_clear_78 : decode cX4_clear 78 = .ok (.dup, 1) := by decide +kernel
theorem dX4_clear_79 : decode cX4_clear 79 = .ok (.iconst 4, 1) := by decide +kernel
theorem dX4_clear_80 : decode cX4_clear 80 = .ok (.iconst 0, 1) := by decide +kernel
theorem dX4_clear_81 : decode cX4_clear 81 = .ok (.iastore, 1) := by decide +kernel
theorem dX4_clear_82 : decode cX4_clear 82 = .ok (.dup, 1) := by decide +kernel
theorem dX4_clear_83 : decode cX4_clear 83 = .ok (.iconst 5, 1) := by decide +kernel
theorem dX4_clear_84 : decode cX4_clear 84 = .ok (.iconst 0, 1) := by decide +kernel
theorem dX4_clear_85 : decode cX4_clear 85 = .ok (.iastore, 1) := by decide +kernel
theorem dX4_clear_86 : decode cX4_clear 86 = .ok (.dup, 1) := by decide +kernel
theorem dX4_clear_87 : decode cX4_clear 87 = .ok (.bipush 6, 2) := by decide +kernel
theorem dX4_clear_89 : decode cX4_clear 89 = .ok (.iconst 0, 1) := by decide +kernel
theorem dX4_clear_90 : decode cX4_clear 90 = .ok (.iastore, 1) := by decide +kernel
theorem dX4_clear_91 : decode cX4_clear 91 = .ok (.dup, 1) := by decide +kernel
theorem dX4_clear_92 : decode cX4_clear 92 = .ok (.bipush 7, 2) := by decide +kernel
theorem dX4_clear_94 : decode cX4_clear 94 = .ok (.iconst 0, 1) := by decide +kernel
theorem dX4_clear_95 : decode cX4_clear 95 = .ok (.iastore, 1) := by decide +kernel
theorem dX4_clear_96 : decode cX4_clear 96 = .ok (.dup, 1) := by decide +kernel
theorem dX4_clear_97 : decode cX4_clear 97 = .ok (.bipush 8, 2) := by decide +kernel
theorem dX4_clear_99 : decode cX4_clear 99 = .ok (.iconst 0, 1) := by decide +kernel
theorem dX4_clear_100 : decode cX4_clear 100 = .ok (.iastore, 1) := by decide +kernel
theorem dX4_clear_101 : decode cX4_clear 101 = .ok (.dup, 1) := by decide +kernel
theorem dX4_clear_102 : decode cX4_clear 102 = .ok (.bipush 9, 2) := by decide +kernel
theorem dX4_clear_104 : decode cX4_clear 104 = .ok (.iconst 0, 1) := by decide +kernel
theorem dX4_clear_105 : decode cX4_clear 105 = .ok (.iastore, 1) := by decide +kernel
theorem dX4_clear_106 : decode cX4_clear 106 = .ok (.dup, 1) := by decide +kernel
theorem dX4_clear_107 : decode cX4_clear 107 = .ok (.bipush 10, 2) := by decide +kernel
theorem dX4_clear_109 : decode cX4_clear 109 = .ok (.iconst 0, 1) := by decide +kernel
theorem dX4_clear_110 : decode cX4_clear 110 = .ok (.iastore, 1) := by decide +kernel
theorem dX4_clear_111 : decode cX4_clear 111 = .ok (.dup, 1) := by decide +kernel
theorem dX4_clear_112 : decode cX4_clear 112 = .ok (.bipush 11, 2) := by decide +kernel
theorem dX4_clear_114 : decode cX4_clear 114 = .ok (.iconst 0, 1) := by decide +kernel
theorem dX4_clear_115 : decode cX4_clear 115 = .ok (.iastore, 1) := by decide +kernel
theorem dX4_clear_116 : decode cX4_clear 116 = .ok (.astore_n 3, 1) := by decide +kernel
theorem dX4_clear_117 : decode cX4_clear 117 = .ok (.iconst 0, 1) := by decide +kernel
theorem dX4_clear_118 : decode cX4_clear 118 = .ok (.istore 4, 2) := by decide +kernel
theorem dX4_clear_120 : decode cX4_clear 120 = .ok (.iload 4, 2) := by decide +kernel
theorem dX4_clear_122 : decode cX4_clear 122 = .ok (.bipush 64, 2) := by decide +kernel
theorem dX4_clear_124 : decode cX4_clear 124 = .ok (.if_icmp .ge 25, 3) := by decide +kernel
theorem dX4_clear_127 : decode cX4_clear 127 = .ok (.aload_n 3, 1) := by decide +kernel
theorem dX4_clear_128 : decode cX4_clear 128 = .ok (.iconst 0, 1) := by decide +kernel
theorem dX4_clear_129 : decode cX4_clear 129 = .ok (.aload_n 0, 1) := by decide +kernel
theorem dX4_clear_130 : decode cX4_clear 130 = .ok (.getfield 16, 3) := by decide +kernel
theorem dX4_clear_133 : decode cX4_clear 133 = .ok (.bipush 12, 2) := by decide +kernel
theorem dX4_clear_135 : decode cX4_clear 135 = .ok (.iload 4, 2) := by decide +kernel
theorem dX4_clear_137 : decode cX4_clear 137 = .ok (.imul, 1) := by decide +kernel
theorem dX4_clear_138 : decode cX4_clear 138 = .ok (.bipush 12, 2) := by decide +kernel
theorem dX4_clear_140 : decode cX4_clear 140 = .ok (.invokestatic 32, 3) := by decide +kernel
theorem dX4_clear_143 : decode cX4_clear 143 = .ok (.iinc 4 1, 3) := by decide +kernel
theorem dX4_clear_146 : decode cX4_clear 146 = .ok (.goto (-26), 3) := by decide +kernel
theorem dX4_clear_149 : decode cX4_clear 149 = .ok (.return_, 1) := by decide +kernel
theorem dX4_thrown_0 : decode cX4_thrown 0 = .ok (.aload_n 0, 1) := by decide +kernel
theorem dX4_thrown_1 : decode cX4_thrown 1 = .ok (.getfield 38, 3) := by decide +kernel
theorem dX4_thrown_4 : decode cX4_thrown 4 = .ok (.ireturn, 1) := by decide +kernel
theorem dX4_fail_0 : decode cX4_fail 0 = .ok (.aload_n 0, 1) := by decide +kernel
theorem dX4_fail_1 : decode cX4_fail 1 = .ok (.iload_n 1, 1) := by decide +kernel
theorem dX4_fail_2 : decode cX4_fail 2 = .ok (.putfield 38, 3) := by decide +kernel
theorem dX4_fail_5 : decode cX4_fail 5 = .ok (.iconst 0, 1) := by decide +kernel
theorem dX4_fail_6 : decode cX4_fail 6 = .ok (.ireturn, 1) := by decide +kernel
theorem dX4_isIn_0 : decode cX4_isIn 0 = .ok (.iload_n 0, 1) := by decide +kernel
theorem dX4_isIn_1 : decode cX4_isIn 1 = .ok (.iload_n 1, 1) := by decide +kernel
theorem dX4_isIn_2 : decode cX4_isIn 2 = .ok (.if_icmp .lt 12, 3) := by decide +kernel
theorem dX4_isIn_5 : decode cX4_isIn 5 = .ok (.iload_n 0, 1) := by decide +kernel
theorem dX4_isIn_6 : decode cX4_isIn 6 = .ok (.iload_n 2, 1) := by decide +kernel
theorem dX4_isIn_7 : decode cX4_isIn 7 = .ok (.if_icmp .gt 7, 3) := by decide +kernel
theorem dX4_isIn_10 : decode cX4_isIn 10 = .ok (.iconst 1, 1) := by decide +kernel
theorem dX4_isIn_11 : decode cX4_isIn 11 = .ok (.goto 4, 3) := by decide +kernel
theorem dX4_isIn_14 : decode cX4_isIn 14 = .ok (.iconst 0, 1) := by decide +kernel
theorem dX4_isIn_15 : decode cX4_isIn 15 = .ok (.ireturn, 1) := by decide +kernel
set_option maxRecDepth 20000 in
theorem ggX4_isField_X4_isIn : GoodIn wsX4_isField wsX4_isIn := goodIn_r _ [5] (by decide +kernel) (by decide +kernel)
set_option maxRecDepth 20000 in
theorem gX4_isField_X4_isIn : GoodIn wsX4_isField (va_wsS RX4 42 yX4_isIn wsX4_isIn) := goodIn_app (goodIn_of _ (by decide +kernel)) ggX4_isField_X4_isIn
theorem dX4_isField_0 : decode cX4_isField 0 = .ok (.iload_n 1, 1) := by decide +kernel
theorem dX4_isField_1 : decode cX4_isField 1 = .ok (.iconst 0, 1) := by decide +kernel
theorem dX4_isField_2 : decode cX4_isField 2 = .ok (.aload_n 0, 1) := by decide +kernel
theorem dX4_isField_3 : decode cX4_isField 3 = .ok (.getfield 9, 3) := by decide +kernel
theorem dX4_isField_6 : decode cX4_isField 6 = .ok (.iconst 0, 1) := by decide +kernel
theorem dX4_isField_7 : decode cX4_isField 7 = .ok (.iaload, 1) := by decide +kernel
theorem dX4_isField_8 : decode cX4_isField 8 = .ok (.iconst 1, 1) := by decide +kernel
theorem dX4_isField_9 : decode cX4_isField 9 = .ok (.isub, 1) := by decide +kernel
theorem dX4_isField_10 : decode cX4_isField 10 = .ok (.invokestatic 42, 3) := by decide +kernel
theorem dX4_isField_13 : decode cX4_isField 13 = .ok (.ifCond .eq 23, 3) := by decide +kernel
theorem dX4_isField_16 : decode cX4_isField 16 = .ok (.iload_n 2, 1) := by decide +kernel
theorem dX4_isField_17 : decode cX4_isField 17 = .ok (.iconst 0, 1) := by decide +kernel
theorem dX4_isField_18 : decode cX4_isField 18 = .ok (.aload_n 0, 1) := by decide +kernel
theorem dX4_isField_19 : decode cX4_isField 19 = .ok (.getfield 9, 3) := by decide +kernel
theorem dX4_isField_22 : decode cX4_isField 22 = .ok (.iconst 1, 1) := by decide +kernel
theorem dX4_isField_23 : decode cX4_isField 23 = .ok (.iaload, 1) := by decide +kernel
theorem dX4_isField_24 : decode cX4_isField 24 = .ok (.iconst 1, 1) := by decide +kernel
theorem dX4_isField_25 : decode cX4_isField 25 = .ok (.isub, 1) := by decide +kernel
theorem dX4_isField_26 : decode cX4_isField 26 = .ok (.invokestatic 42, 3) := by decide +kernel
theorem dX4_isField_29 : decode cX4_isField 29 = .ok (.ifCond .eq 7, 3) := by decide +kernel
theorem dX4_isField_32 : decode cX4_isField 32 = .ok (.iconst 1, 1) := by decide +kernel
theorem dX4_isField_33 : decode cX4_isField 33 = .ok (.goto 4, 3) := by decide +kernel
theorem dX4_isField_36 : decode cX4_isField 36 = .ok (.iconst 0, 1) := by decide +kernel
theorem dX4_isField_37 : decode cX4_isField 37 = .ok (.ireturn, 1) := by decide +kernel
theorem dX4_at_0 : decode cX4_at 0 = .ok (.bipush 12, 2) := by decide +kernel
theorem dX4_at_2 : decode cX4_at 2 = .ok (.aload_n 0, 1) := by decide +kernel
theorem dX4_at_3 : decode cX4_at 3 = .ok (.getfield 9, 3) := by decide +kernel
theorem dX4_at_6 : decode cX4_at 6 = .ok (.iconst 1, 1) := by decide +kernel
theorem dX4_at_7 : decode cX4_at 7 = .ok (.iaload, 1) := by decide +kernel
theorem dX4_at_8 : decode cX4_at 8 = .ok (.iload_n 1, 1) := by decide +kernel
theorem dX4_at_9 : decode cX4_at 9 = .ok (.imul, 1) := by decide +kernel
theorem dX4_at_10 : decode cX4_at 10 = .ok (.iload_n 2, 1) := by decide +kernel
theorem dX4_at_11 : decode cX4_at 11 = .ok (.iadd, 1) := by decide +kernel
theorem dX4_at_12 : decode cX4_at 12 = .ok (.imul, 1) := by decide +kernel
theorem dX4_at_13 : decode cX4_at 13 = .ok (.ireturn, 1) := by decide +kernel
theorem dX4_many_0 : decode cX4_many 0 = .ok (.aload_n 0, 1) := by decide +kernel
theorem dX4_many_1 : decode cX4_many 1 = .ok (.getfield 9, 3) := by decide +kernel
theorem dX4_many_4 : decode cX4_many 4 = .ok (.iconst 0, 1) := by decide +kernel
theorem dX4_many_5 : decode cX4_many 5 = .ok (.iaload, 1) := by decide +kernel
theorem dX4_many_6 : decode cX4_many 6 = .ok (.aload_n 0, 1) := by decide +kernel
theorem dX4_many_7 : decode cX4_many 7 = .ok (.getfield 9, 3) := by decide +kernel
theorem dX4_many_10 : decode cX4_many 10 = .ok (.iconst 1, 1) := by decide +kernel
theorem dX4_many_11 : decode cX4_many 11 = .ok (.iaload, 1) := by decide +kernel
theorem dX4_many_12 : decode cX4_many 12 = .ok (.imul, 1) := by decide +kernel
theorem dX4_many_13 : decode cX4_many 13 = .ok (.ireturn, 1) := by decide +kernel
set_option maxRecDepth 20000 in
theorem ggX4_lay_X4_isIn : GoodIn wsX4_lay wsX4_isIn := goodIn_r _ [5] (by decide +kernel) (by decide +kernel)
set_option maxRecDepth 20000 in
theorem gX4_lay_X4_isIn : GoodIn wsX4_lay (va_wsS RX4 42 yX4_isIn wsX4_isIn) := goodIn_app (goodIn_of _ (by decide +kernel)) ggX4_lay_X4_isIn
set_option maxRecDepth 20000 in
theorem ggX4_lay_X4_fail : GoodIn wsX4_lay wsX4_fail := goodIn_r _ [9, 1, 22, 23, 24, 25, 26, 27, 28] (by decide +kernel) (by decide +kernel)
set_option maxRecDepth 20000 in
theorem gX4_lay_X4_fail : GoodIn wsX4_lay (wsV RX4 46 RX4 yX4_fail wsX4_fail) := goodIn_app (goodIn_of _ (by decide +kernel)) ggX4_lay_X4_fail
set_option maxRecDepth 20000 in
theorem ggX4_lay_X4_clear : GoodIn wsX4_lay wsX4_clear := goodIn_r _ [13, 14, 15, 16, 17, 18, 19, 20, 21, 22, 23, 24, 25, 26, 27, 28] (by decide +kernel) (by decide +kernel)
set_option maxRecDepth 20000 in
theorem gX4_lay_X4_clear : GoodIn wsX4_lay (wsV RX4 28 RX4 yX4_clear wsX4_clear) := goodIn_app (goodIn_of _ (by decide +kernel)) ggX4_lay_X4_clear
theorem dX4_lay_0 : decode cX4_lay 0 = .ok (.aload_n 0, 1) := by decide +kernel
theorem dX4_lay_1 : decode cX4_lay 1 = .ok (.iconst 0, 1) := by decide +kernel
theorem dX4_lay_2 : decode cX4_lay 2 = .ok (.putfield 38, 3) := by decide +kernel
theorem dX4_lay_5 : decode cX4_lay 5 = .ok (.iload_n 1, 1) := by decide +kernel
theorem dX4_lay_6 : decode cX4_lay 6 = .ok (.iconst 2, 1) := by decide +kernel
theorem dX4_lay_7 : decode cX4_lay 7 = .ok (.bipush 8, 2) := by decide +kernel
theorem dX4_lay_9 : decode cX4_lay 9 = .ok (.invokestatic 42, 3) := by decide +kernel
theorem dX4_lay_12 : decode cX4_lay 12 = .ok (.ifCond .eq 13, 3) := by decide +kernel
theorem dX4_lay_15 : decode cX4_lay 15 = .ok (.iload_n 2, 1) := by decide +kernel
theorem dX4_lay_16 : decode cX4_lay 16 = .ok (.iconst 2, 1) := by decide +kernel
theorem dX4_lay_17 : decode cX4_lay 17 = .ok (.bipush 8, 2) := by decide +kernel
theorem dX4_lay_19 : decode cX4_lay 19 = .ok (.invokestatic 42, 3) := by decide +kernel
theorem dX4_lay_22 : decode cX4_lay 22 = .ok (.ifCond .ne 9, 3) := by decide +kernel
theorem dX4_lay_25 : decode cX4_lay 25 = .ok (.aload_n 0, 1) := by decide +kernel
theorem dX4_lay_26 : decode cX4_lay 26 = .ok (.iconst 1, 1) := by decide +kernel
theorem dX4_lay_27 : decode cX4_lay 27 = .ok (.invokevirtual 46, 3) := by decide +kernel
theorem dX4_lay_30 : decode cX4_lay 30 = .ok (.ireturn, 1) := by decide +kernel
theorem dX4_lay_31 : decode cX4_lay 31 = .ok (.aload_n 0, 1) := by decide +kernel
theorem dX4_lay_32 : decode cX4_lay 32 = .ok (.iload_n 1, 1) := by decide +kernel
theorem dX4_lay_33 : decode cX4_lay 33 = .ok (.iload_n 2, 1) := by decide +kernel
theorem dX4_lay_34 : decode cX4_lay 34 = .ok (.invokevirtual 28, 3) := by decide +kernel
theorem dX4_lay_37 : decode cX4_lay 37 = .ok (.iload_n 1, 1) := by decide +kernel
theorem dX4_lay_38 : decode cX4_lay 38 = .ok (.iload_n 2, 1) := by decide +kernel
theorem dX4_lay_39 : decode cX4_lay 39 = .ok (.imul, 1) := by decide +kernel
theorem dX4_lay_40 : decode cX4_lay 40 = .ok (.ireturn, 1) := by decide +kernel
theorem dX4_set_0 : decode cX4_set 0 = .ok (.aload_n 0, 1) := by decide +kernel
theorem dX4_set_1 : decode cX4_set 1 = .ok (.getfield 16, 3) := by decide +kernel
theorem dX4_set_4 : decode cX4_set 4 = .ok (.iload_n 1, 1) := by decide +kernel
theorem dX4_set_5 : decode cX4_set 5 = .ok (.iaload, 1) := by decide +kernel
theorem dX4_set_6 : decode cX4_set 6 = .ok (.istore_n 3, 1) := by decide +kernel
theorem dX4_set_7 : decode cX4_set 7 = .ok (.aload_n 0, 1) := by decide +kernel
theorem dX4_set_8 : decode cX4_set 8 = .ok (.getfield 16, 3) := by decide +kernel
theorem dX4_set_11 : decode cX4_set 11 = .ok (.iload_n 1, 1) := by decide +kernel
theorem dX4_set_12 : decode cX4_set 12 = .ok (.iload_n 2, 1) := by decide +kernel
theorem dX4_set_13 : decode cX4_set 13 = .ok (.iastore, 1) := by decide +kernel
theorem dX4_set_14 : decode cX4_set 14 = .ok (.iload_n 3, 1) := by decide +kernel
theorem dX4_set_15 : decode cX4_set 15 = .ok (.ireturn, 1) := by decide +kernel
set_option maxRecDepth 20000 in
theorem ggX4_setField_X4_isField : GoodIn wsX4_setField wsX4_isField := goodIn_r _ [11, 12, 13, 14, 10, 15, 28, 29, 30, 31, 32, 33, 34] (by decide +kernel) (by decide +kernel)
set_option maxRecDepth 20000 in
theorem gX4_setField_X4_isField : GoodIn wsX4_setField (wsV RX4 50 RX4 yX4_isField wsX4_isField) := goodIn_app (goodIn_of _ (by decide +kernel)) ggX4_setField_X4_isField
set_option maxRecDepth 20000 in
theorem ggX4_setField_X4_fail : GoodIn wsX4_setField wsX4_fail := goodIn_r _ [19, 1, 28, 29, 30, 31, 32, 33, 34] (by decide +kernel) (by decide +kernel)
set_option maxRecDepth 20000 in
theorem gX4_setField_X4_fail : GoodIn wsX4_setField (wsV RX4 46 RX4 yX4_fail wsX4_fail) := goodIn_app (goodIn_of _ (by decide +kernel)) ggX4_setField_X4_fail
set_option maxRecDepth 20000 in
theorem ggX4_setField_X4_isIn : GoodIn wsX4_setField wsX4_isIn := goodIn_r _ [15] (by decide +kernel) (by decide +kernel)
set_option maxRecDepth 20000 in
theorem gX4_setField_X4_isIn : GoodIn wsX4_setField (va_wsS RX4 42 yX4_isIn wsX4_isIn) := goodIn_app (goodIn_of _ (by decide +kernel)) ggX4_setField_X4_isIn
set_option maxRecDepth 20000 in
theorem ggX4_setField_X4_at : GoodIn wsX4_setField wsX4_at := goodIn_r _ [23, 12, 28, 29, 30, 31, 32, 33, 34] (by decide +kernel) (by decide +kernel)
set_option maxRecDepth 20000 in
theorem gX4_setField_X4_at : GoodIn wsX4_setField (wsV RX4 54 RX4 yX4_at wsX4_at) := goodIn_app (goodIn_of _ (by decide +kernel)) ggX4_setField_X4_at
set_option maxRecDepth 20000 in
theorem ggX4_setField_X4_set : GoodIn wsX4_setField wsX4_set := goodIn_r _ [27, 2, 28, 29, 30, 31, 32, 33, 34] (by decide +kernel) (by decide +kernel)
set_option maxRecDepth 20000 in
theorem gX4_setField_X4_set : GoodIn wsX4_setField (wsV RX4 63 RX4 yX4_set wsX4_set) := goodIn_app (goodIn_of _ (by decide +kernel)) ggX4_setField_X4_set
theorem dX4_setField_0 : decode cX4_setField 0 = .ok (.aload_n 0, 1) := by decide +kernel
theorem dX4_setField_1 : decode cX4_setField 1 = .ok (.iconst 0, 1) := by decide +kernel
theorem dX4_setField_2 : decode cX4_setField 2 = .ok (.putfield 38, 3) := by decide +kernel
theorem dX4_setField_5 : decode cX4_setField 5 = .ok (.aload_n 0, 1) := by decide +kernel
theorem dX4_setField_6 : decode cX4_setField 6 = .ok (.iload_n 1, 1) := by decide +kernel
theorem dX4_setField_7 : decode cX4_setField 7 = .ok (.iload_n 2, 1) := by decide +kernel
theorem dX4_setField_8 : decode cX4_setField 8 = .ok (.invokevirtual 50, 3) := by decide +kernel
theorem dX4_setField_11 : decode cX4_setField 11 = .ok (.ifCond .ne 9, 3) := by decide +kernel
theorem dX4_setField_14 : decode cX4_setField 14 = .ok (.aload_n 0, 1) := by decide +kernel
theorem dX4_setField_15 : decode cX4_setField 15 = .ok (.iconst 1, 1) := by decide +kernel
theorem dX4_setField_16 : decode cX4_setField 16 = .ok (.invokevirtual 46, 3) := by decide +kernel
theorem dX4_setField_19 : decode cX4_setField 19 = .ok (.ireturn, 1) := by decide +kernel
theorem dX4_setField_20 : decode cX4_setField 20 = .ok (.iload_n 3, 1) := by decide +kernel
theorem dX4_setField_21 : decode cX4_setField 21 = .ok (.bipush 20, 2) := by decide +kernel
theorem dX4_setField_23 : decode cX4_setField 23 = .ok (.bipush 120, 2) := by decide +kernel
theorem dX4_setField_25 : decode cX4_setField 25 = .ok (.invokestatic 42, 3) := by decide +kernel
theorem dX4_setField_28 : decode cX4_setField 28 = .ok (.ifCond .eq 14, 3) := by decide +kernel
theorem dX4_setField_31 : decode cX4_setField 31 = .ok (.iload 4, 2) := by decide +kernel
theorem dX4_setField_33 : decode cX4_setField 33 = .ok (.iconst 0, 1) := by decide +kernel
theorem dX4_setField_34 : decode cX4_setField 34 = .ok (.bipush 9, 2) := by decide +kernel
theorem dX4_setField_36 : decode cX4_setField 36 = .ok (.invokestatic 42, 3) := by decide +kernel
theorem dX4_setField_39 : decode cX4_setField 39 = .ok (.ifCond .ne 9, 3) := by decide +kernel
theorem dX4_setField_42 : decode cX4_setField 42 = .ok (.aload_n 0, 1) := by decide +kernel
theorem dX4_setField_43 : decode cX4_setField 43 = .ok (.iconst 2, 1) := by decide +kernel
theorem dX4_setField_44 : decode cX4_setField 44 = .ok (.invokevirtual 46, 3) := by decide +kernel
theorem dX4_setField_47 : decode cX4_setField 47 = .ok (.ireturn, 1) := by decide +kernel
theorem dX4_setField_48 : decode cX4_setField 48 = .ok (.aload_n 0, 1) := by decide +kernel
theorem dX4_setField_49 : decode cX4_setField 49 = .ok (.iload_n 1, 1) := by decide +kernel
theorem dX4_setField_50 : decode cX4_setField 50 = .ok (.iload_n 2, 1) := by decide +kernel
theorem dX4_setField_51 : decode cX4_setField 51 = .ok (.invokevirtual 54, 3) := by decide +kernel
theorem dX4_setField_54 : decode cX4_setField 54 = .ok (.istore 5, 2) := by decide +kernel
theorem dX4_setField_56 : decode cX4_setField 56 = .ok (.aload_n 0, 1) := by decide +kernel
theorem dX4_setField_57 : decode cX4_setField 57 = .ok (.getfield 16, 3) := by decide +kernel
theorem dX4_setField_60 : decode cX4_setField 60 = .ok (.iload 5, 2) := by decide +kernel
theorem dX4_setField_62 : decode cX4_setField 62 = .ok (.iconst 2, 1) := by decide +kernel
theorem dX4_setField_63 : decode cX4_setField 63 = .ok (.iadd, 1) := by decide +kernel
theorem dX4_setField_64 : decode cX4_setField 64 = .ok (.iload 4, 2) := by decide +kernel
theorem dX4_setField_66 : decode cX4_setField 66 = .ok (.iastore, 1) := by decide +kernel
theorem dX4_setField_67 : decode cX4_setField 67 = .ok (.aload_n 0, 1) := by decide +kernel
theorem dX4_setField_68 : decode cX4_setField 68 = .ok (.getfield 16, 3) := by decide +kernel
theorem dX4_setField_71 : decode cX4_setField 71 = .ok (.iload 5, 2) := by decide +kernel
theorem dX4_setField_73 : decode cX4_setField 73 = .ok (.iconst 3, 1) := by decide +kernel
theorem dX4_setField_74 : decode cX4_setField 74 = .ok (.iadd, 1) := by decide +kernel
theorem dX4_setField_75 : decode cX4_setField 75 = .ok (.iload_n 3, 1) := by decide +kernel
theorem dX4_setField_76 : decode cX4_setField 76 = .ok (.aload_n 0, 1) := by decide +kernel
theorem dX4_setField_77 : decode cX4_setField 77 = .ok (.getfield 16, 3) := by decide +kernel
theorem dX4_setField_80 : decode cX4_setField 80 = .ok (.iload 5, 2) := by decide +kernel
theorem dX4_setField_82 : decode cX4_setField 82 = .ok (.iconst 3, 1) := by decide +kernel
theorem dX4_setField_83 : decode cX4_setField 83 = .ok (.iadd, 1) := by decide +kernel
theorem dX4_setField_84 : decode cX4_setField 84 = .ok (.iaload, 1) := by decide +kernel
theorem dX4_setField_85 : decode cX4_setField 85 = .ok (.invokestatic 58, 3) := by decide +kernel
theorem dX4_setField_88 : decode cX4_setField 88 = .ok (.iastore, 1) := by decide +kernel
theorem dX4_setField_89 : decode cX4_setField 89 = .ok (.aload_n 0, 1) := by decide +kernel
theorem dX4_setField_90 : decode cX4_setField 90 = .ok (.iload 5, 2) := by decide +kernel
theorem dX4_setField_92 : decode cX4_setField 92 = .ok (.iconst 1, 1) := by decide +kernel
theorem dX4_setField_93 : decode cX4_setField 93 = .ok (.iadd, 1) := by decide +kernel
theorem dX4_setField_94 : decode cX4_setField 94 = .ok (.iload_n 3, 1) := by decide +kernel
theorem dX4_setField_95 : decode cX4_setField 95 = .ok (.invokevirtual 63, 3) := by decide +kernel
theorem dX4_setField_98 : decode cX4_setField 98 = .ok (.ireturn, 1) := by decide +kernel
set_option maxRecDepth 20000 in
theorem ggX4_moveStone_X4_isField : GoodIn wsX4_moveStone wsX4_isField := goodIn_r _ [12, 3, 13, 14, 11, 15, 28, 29, 30, 31, 32, 33, 34] (by decide +kernel) (by decide +kernel)
set_option maxRecDepth 20000 in
theorem gX4_moveStone_X4_isField : GoodIn wsX4_moveStone (wsV RX4 50 RX4 yX4_isField wsX4_isField) := goodIn_app (goodIn_of _ (by decide +kernel)) ggX4_moveStone_X4_isField
set_option maxRecDepth 20000 in
theorem ggX4_moveStone_X4_fail : GoodIn wsX4_moveStone wsX4_fail := goodIn_r _ [19, 1, 28, 29, 30, 31, 32, 33, 34] (by decide +kernel) (by decide +kernel)
set_option maxRecDepth 20000 in
theorem gX4_moveStone_X4_fail : GoodIn wsX4_moveStone (wsV RX4 46 RX4 yX4_fail wsX4_fail) := goodIn_app (goodIn_of _ (by decide +kernel)) ggX4_moveStone_X4_fail
set_option maxRecDepth 20000 in
theorem ggX4_moveStone_X4_at : GoodIn wsX4_moveStone wsX4_at := goodIn_r _ [23, 3, 28, 29, 30, 31, 32, 33, 34] (by decide +kernel) (by decide +kernel)
set_option maxRecDepth 20000 in
theorem gX4_moveStone_X4_at : GoodIn wsX4_moveStone (wsV RX4 54 RX4 yX4_at wsX4_at) := goodIn_app (goodIn_of _ (by decide +kernel)) ggX4_moveStone_X4_at
set_option maxRecDepth 20000 in
theorem ggX4_moveStone_X4_isIn : GoodIn wsX4_moveStone wsX4_isIn := goodIn_r _ [15] (by decide +kernel) (by decide +kernel)
set_option maxRecDepth 20000 in
theorem gX4_moveStone_X4_isIn : GoodIn wsX4_moveStone (va_wsS RX4 42 yX4_isIn wsX4_isIn) := goodIn_app (goodIn_of _ (by decide +kernel)) ggX4_moveStone_X4_isIn
set_option maxRecDepth 20000 in
theorem ggX4_moveStone_X4_set : GoodIn wsX4_moveStone wsX4_set := goodIn_r _ [27, 2, 28, 29, 30, 31, 32, 33, 34] (by decide +kernel) (by decide +kernel)
set_option maxRecDepth 20000 in
theorem gX4_moveStone_X4_set : GoodIn wsX4_moveStone (wsV RX4 63 RX4 yX4_set wsX4_set) := goodIn_app (goodIn_of _ (by decide +kernel)) ggX4_moveStone_X4_set
theorem dX4_moveStone_0 : decode cX4_moveStone 0 = .ok (.aload_n 0, 1) := by decide +kernel
theorem dX4_moveStone_1 : decode cX4_moveStone 1 = .ok (.iconst 0, 1) := by decide +kernel
theorem dX4_moveStone_2 : decode cX4_moveStone 2 = .ok (.putfield 38, 3) := by decide +kernel
theorem dX4_moveStone_5 : decode cX4_moveStone 5 = .ok (.aload_n 0, 1) := by decide +kernel
theorem dX4_moveStone_6 : decode cX4_moveStone 6 = .ok (.iload_n 1, 1) := by decide +kernel
theorem dX4_moveStone_7 : decode cX4_moveStone 7 = .ok (.iload_n 2, 1) := by decide +kernel
theorem dX4_moveStone_8 : decode cX4_moveStone 8 = .ok (.invokevirtual 50, 3) := by decide +kernel
theorem dX4_moveStone_11 : decode cX4_moveStone 11 = .ok (.ifCond .ne 9, 3) := by decide +kernel
theorem dX4_moveStone_14 : decode cX4_moveStone 14 = .ok (.aload_n 0, 1) := by decide +kernel
theorem dX4_moveStone_15 : decode cX4_moveStone 15 = .ok (.iconst 1, 1) := by decide +kernel
theorem dX4_moveStone_16 : decode cX4_moveStone 16 = .ok (.invokevirtual 46, 3) := by decide +kernel
theorem dX4_moveStone_19 : decode cX4_moveStone 19 = .ok (.ireturn, 1) := by decide +kernel
theorem dX4_moveStone_20 : decode cX4_moveStone 20 = .ok (.iload_n 3, 1) := by decide +kernel
theorem dX4_moveStone_21 : decode cX4_moveStone 21 = .ok (.iconst 0, 1) := by decide +kernel
theorem dX4_moveStone_22 : decode cX4_moveStone 22 = .ok (.aload_n 0, 1) := by decide +kernel
theorem dX4_moveStone_23 : decode cX4_moveStone 23 = .ok (.getfield 16, 3) := by decide +kernel
theorem dX4_moveStone_26 : decode cX4_moveStone 26 = .ok (.aload_n 0, 1) := by decide +kernel
theorem dX4_moveStone_27 : decode cX4_moveStone 27 = .ok (.iload_n 1, 1) := by decide +kernel
theorem dX4_moveStone_28 : decode cX4_moveStone 28 = .ok (.iload_n 2, 1) := by decide +kernel
theorem dX4_moveStone_29 : decode cX4_moveStone 29 = .ok (.invokevirtual 54, 3) := by decide +kernel
theorem dX4_moveStone_32 : decode cX4_moveStone 32 = .ok (.iconst 1, 1) := by decide +kernel
theorem dX4_moveStone_33 : decode cX4_moveStone 33 = .ok (.iadd, 1) := by decide +kernel
theorem dX4_moveStone_34 : decode cX4_moveStone 34 = .ok (.iaload, 1) := by decide +kernel
theorem dX4_moveStone_35 : decode cX4_moveStone 35 = .ok (.invokestatic 42, 3) := by decide +kernel
theorem dX4_moveStone_38 : decode cX4_moveStone 38 = .ok (.ifCond .ne 9, 3) := by decide +kernel
theorem dX4_moveStone_41 : decode cX4_moveStone 41 = .ok (.aload_n 0, 1) := by decide +kernel
theorem dX4_moveStone_42 : decode cX4_moveStone 42 = .ok (.iconst 2, 1) := by decide +kernel
theorem dX4_moveStone_43 : decode cX4_moveStone 43 = .ok (.invokevirtual 46, 3) := by decide +kernel
theorem dX4_moveStone_46 : decode cX4_moveStone 46 = .ok (.ireturn, 1) := by decide +kernel
theorem dX4_moveStone_47 : decode cX4_moveStone 47 = .ok (.iload_n 3, 1) := by decide +kernel
theorem dX4_moveStone_48 : decode cX4_moveStone 48 = .ok (.aload_n 0, 1) := by decide +kernel
theorem dX4_moveStone_49 : decode cX4_moveStone 49 = .ok (.aload_n 0, 1) := by decide +kernel
theorem dX4_moveStone_50 : decode cX4_moveStone 50 = .ok (.iload_n 1, 1) := by decide +kernel
theorem dX4_moveStone_51 : decode cX4_moveStone 51 = .ok (.iload_n 2, 1) := by decide +kernel
theorem dX4_moveStone_52 : decode cX4_moveStone 52 = .ok (.invokevirtual 54, 3) := by decide +kernel
theorem dX4_moveStone_55 : decode cX4_moveStone 55 = .ok (.iconst 3, 1) := by decide +kernel
theorem dX4_moveStone_56 : decode cX4_moveStone 56 = .ok (.iadd, 1) := by decide +kernel
theorem dX4_moveStone_57 : decode cX4_moveStone 57 = .ok (.iload_n 3, 1) := by decide +kernel
theorem dX4_moveStone_58 : decode cX4_moveStone 58 = .ok (.invokevirtual 63, 3) := by decide +kernel
theorem dX4_moveStone_61 : decode cX4_moveStone 61 = .ok (.isub, 1) := by decide +kernel
theorem dX4_moveStone_62 : decode cX4_moveStone 62 = .ok (.istore 4, 2) := by decide +kernel
theorem dX4_moveStone_64 : decode cX4_moveStone 64 = .ok (.aload_n 0, 1) := by decide +kernel
theorem dX4_moveStone_65 : decode cX4_moveStone 65 = .ok (.getfield 9, 3) := by decide +kernel
theorem dX4_moveStone_68 : decode cX4_moveStone 68 = .ok (.bipush 6, 2) := by decide +kernel
theorem dX4_moveStone_70 : decode cX4_moveStone 70 = .ok (.dup2, 1) := by decide +kernel
theorem dX4_moveStone_71 : decode cX4_moveStone 71 = .ok (.iaload, 1) := by decide +kernel
theorem dX4_moveStone_72 : decode cX4_moveStone 72 = .ok (.iload 4, 2) := by decide +kernel
theorem dX4_moveStone_74 : decode cX4_moveStone 74 = .ok (.invokestatic 66, 3) := by decide +kernel
theorem dX4_moveStone_77 : decode cX4_moveStone 77 = .ok (.iadd, 1) := by decide +kernel
theorem dX4_moveStone_78 : decode cX4_moveStone 78 = .ok (.iastore, 1) := by decide +kernel
theorem dX4_moveStone_79 : decode cX4_moveStone 79 = .ok (.iload 4, 2) := by decide +kernel
theorem dX4_moveStone_81 : decode cX4_moveStone 81 = .ok (.ireturn, 1) := by decide +kernel
set_option maxRecDepth 20000 in
theorem ggX4_turn_X4_isField : GoodIn wsX4_turn wsX4_isField := goodIn_r _ [6, 7, 8, 9, 5, 10, 24, 25, 26, 27, 28, 29, 30] (by decide +kernel) (by decide +kernel)
set_option maxRecDepth 20000 in
theorem gX4_turn_X4_isField : GoodIn wsX4_turn (wsV RX4 50 RX4 yX4_isField wsX4_isField) := goodIn_app (goodIn_of _ (by decide +kernel)) ggX4_turn_X4_isField
set_option maxRecDepth 20000 in
theorem ggX4_turn_X4_fail : GoodIn wsX4_turn wsX4_fail := goodIn_r _ [14, 1, 24, 25, 26, 27, 28, 29, 30] (by decide +kernel) (by decide +kernel)
set_option maxRecDepth 20000 in
theorem gX4_turn_X4_fail : GoodIn wsX4_turn (wsV RX4 46 RX4 yX4_fail wsX4_fail) := goodIn_app (goodIn_of _ (by decide +kernel)) ggX4_turn_X4_fail
set_option maxRecDepth 20000 in
theorem ggX4_turn_X4_isIn : GoodIn wsX4_turn wsX4_isIn := goodIn_r _ [10] (by decide +kernel) (by decide +kernel)
set_option maxRecDepth 20000 in
theorem gX4_turn_X4_isIn : GoodIn wsX4_turn (va_wsS RX4 42 yX4_isIn wsX4_isIn) := goodIn_app (goodIn_of _ (by decide +kernel)) ggX4_turn_X4_isIn
set_option maxRecDepth 20000 in
theorem ggX4_turn_X4_at : GoodIn wsX4_turn wsX4_at := goodIn_r _ [18, 7, 24, 25, 26, 27, 28, 29, 30] (by decide +kernel) (by decide +kernel)
set_option maxRecDepth 20000 in
theorem gX4_turn_X4_at : GoodIn wsX4_turn (wsV RX4 54 RX4 yX4_at wsX4_at) := goodIn_app (goodIn_of _ (by decide +kernel)) ggX4_turn_X4_at
set_option maxRecDepth 20000 in
theorem ggX4_turn_X4_set : GoodIn wsX4_turn wsX4_set := goodIn_r _ [22, 23, 24, 25, 26, 27, 28, 29, 30] (by decide +kernel) (by decide +kernel)
set_option maxRecDepth 20000 in
theorem gX4_turn_X4_set : GoodIn wsX4_turn (wsV RX4 63 RX4 yX4_set wsX4_set) := goodIn_app (goodIn_of _ (by decide +kernel)) ggX4_turn_X4_set
theorem dX4_turn_0 : decode cX4_turn 0 = .ok (.aload_n 0, 1) := by decide +kernel
theorem dX4_turn_1 : decode cX4_turn 1 = .ok (.iconst 0, 1) := by decide +kernel
theorem dX4_turn_2 : decode cX4_turn 2 = .ok (.putfield 38, 3) := by decide +kernel
theorem dX4_turn_5 : decode cX4_turn 5 = .ok (.aload_n 0, 1) := by decide +kernel
theorem dX4_turn_6 : decode cX4_turn 6 = .ok (.iload_n 1, 1) := by decide +kernel
theorem dX4_turn_7 : decode cX4_turn 7 = .ok (.iload_n 2, 1) := by decide +kernel
theorem dX4_turn_8 : decode cX4_turn 8 = .ok (.invokevirtual 50, 3) := by decide +kernel
theorem dX4_turn_11 : decode cX4_turn 11 = .ok (.ifCond .ne 9, 3) := by decide +kernel
theorem dX4_turn_14 : decode cX4_turn 14 = .ok (.aload_n 0, 1) := by decide +kernel
theorem dX4_turn_15 : decode cX4_turn 15 = .ok (.iconst 1, 1) := by decide +kernel
theorem dX4_turn_16 : decode cX4_turn 16 = .ok (.invokevirtual 46, 3) := by decide +kernel
