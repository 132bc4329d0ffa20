theorem dL_below_0 : decode cL_below 0 = .ok (.iload_n 0, 1) := by decide +kernel
theorem dL_below_1 : decode cL_below 1 = .ok (.ldc 7, 2) := by decide +kernel
theorem dL_below_3 : decode cL_below 3 = .ok (.iand, 1) := by decide +kernel
theorem dL_below_4 : decode cL_below 4 = .ok (.iload_n 1, 1) := by decide +kernel
theorem dL_below_5 : decode cL_below 5 = .ok (.irem, 1) := by decide +kernel
theorem dL_below_6 : decode cL_below 6 = .ok (.ireturn, 1) := by decide +kernel
theorem dL_cell_0 : decode cL_cell 0 = .ok (.iload_n 1, 1) := by decide +kernel
theorem dL_cell_1 : decode cL_cell 1 = .ok (.aload_n 0, 1) := by decide +kernel
theorem dL_cell_2 : decode cL_cell 2 = .ok (.arraylength, 1) := by decide +kernel
theorem dL_cell_3 : decode cL_cell 3 = .ok (.if_icmp .ge 9, 3) := by decide +kernel
theorem dL_cell_6 : decode cL_cell 6 = .ok (.aload_n 0, 1) := by decide +kernel
theorem dL_cell_7 : decode cL_cell 7 = .ok (.iload_n 1, 1) := by decide +kernel
theorem dL_cell_8 : decode cL_cell 8 = .ok (.iaload, 1) := by decide +kernel
theorem dL_cell_9 : decode cL_cell 9 = .ok (.goto 9, 3) := by decide +kernel
theorem dL_cell_12 : decode cL_cell 12 = .ok (.ldc 8, 2) := by decide +kernel
theorem dL_cell_14 : decode cL_cell 14 = .ok (.iload_n 1, 1) := by decide +kernel
theorem dL_cell_15 : decode cL_cell 15 = .ok (.iconst 3, 1) := by decide +kernel
theorem dL_cell_16 : decode cL_cell 16 = .ok (.iadd, 1) := by decide +kernel
theorem dL_cell_17 : decode cL_cell 17 = .ok (.imul, 1) := by decide +kernel
theorem dL_cell_18 : decode cL_cell 18 = .ok (.ireturn, 1) := by decide +kernel
set_option maxRecDepth 20000 in
theorem ggL_build_L_cell : GoodIn wsL_build wsL_cell := goodIn_r _ [21, 22] (by decide +kernel) (by decide +kernel)
set_option maxRecDepth 20000 in
theorem gL_build_L_cell : GoodIn wsL_build (va_wsS RL 11 yL_cell wsL_cell) := goodIn_app (goodIn_of _ (by decide +kernel)) ggL_build_L_cell
set_option maxRecDepth 20000 in
theorem ggL_build_L_below : GoodIn wsL_build wsL_below := goodIn_r _ [25, 26] (by decide +kernel) (by decide +kernel)
set_option maxRecDepth 20000 in
theorem gL_build_L_below : GoodIn wsL_build (va_wsS RL 17 yL_below wsL_below) := goodIn_app (goodIn_of _ (by decide +kernel)) ggL_build_L_below
set_option maxRecDepth 20000 in
theorem ggL_build_X4_init : GoodIn wsL_build wsX4_init := goodIn_r _ [29, 30, 31, 32, 33, 34, 35, 36, 37, 6, 38, 150, 151, 152, 153, 154, 155, 156, 157, 158, 159] (by decide +kernel) (by decide +kernel)
set_option maxRecDepth 20000 in
theorem gL_build_X4_init : GoodIn wsL_build (wsX4_init) := ggL_build_X4_init
set_option maxRecDepth 20000 in
theorem ggL_build_X3_lay : GoodIn wsL_build wsX3_lay := goodIn_ca (goodIn_r _ [43, 44, 45, 46, 47, 48, 49, 50, 42, 51, 52, 53, 54, 55, 56, 57, 58, 59, 60, 61, 62, 63, 64, 65, 66, 67, 68, 69, 70, 71, 72, 73, 74, 75, 76, 77, 78, 79, 80, 81, 82, 83, 84, 85, 86, 160, 161, 162, 163, 164, 165, 166, 167, 168, 169, 170, 171, 172, 173, 174, 175, 176, 177, 178, 179, 180, 181, 182, 183] (by decide +kernel) (by decide +kernel)) (goodIn_sub (fun _ h => List.mem_cons_of_mem _ (List.mem_append_left _ (List.mem_append_left _ (List.mem_append_right _ h)))) (by decide +kernel))
set_option maxRecDepth 20000 in
theorem gL_build_X3_lay : GoodIn wsL_build (wsV RL 31 RX3 yX3_lay wsX3_lay) := goodIn_app (goodIn_of _ (by decide +kernel)) ggL_build_X3_lay
set_option maxRecDepth 20000 in
theorem ggL_build_X3_setDay : GoodIn wsL_build wsX3_setDay := goodIn_ca (goodIn_ca (goodIn_r _ [90, 91, 92, 44, 45, 93, 94, 95, 96, 49, 50, 42, 51, 160, 161, 162, 163, 164, 165, 184, 185, 186] (by decide +kernel) (by decide +kernel)) (goodIn_sub (fun _ h => List.mem_cons_of_mem _ (List.mem_append_left _ (List.mem_append_right _ h))) (by decide +kernel))) (goodIn_sub (fun _ h => List.mem_cons_of_mem _ (List.mem_append_left _ (List.mem_append_left _ (List.mem_append_right _ h)))) (by decide +kernel))
set_option maxRecDepth 20000 in
theorem gL_build_X3_setDay : GoodIn wsL_build (wsV RL 36 RX3 yX3_setDay wsX3_setDay) := goodIn_app (goodIn_of _ (by decide +kernel)) ggL_build_X3_setDay
set_option maxRecDepth 20000 in
theorem ggL_build_X3_setShare : GoodIn wsL_build wsX3_setShare := goodIn_ca (goodIn_ca (goodIn_r _ [100, 91, 92, 44, 45, 46, 101, 102, 103, 104, 55, 105, 57, 58, 49, 50, 42, 51, 160, 161, 162, 163, 164, 165, 166, 167, 168, 169, 170, 171, 172, 173, 174, 175, 176, 177, 178, 179, 180, 181, 182, 183] (by decide +kernel) (by decide +kernel)) (goodIn_sub (fun _ h => List.mem_cons_of_mem _ (List.mem_append_left _ (List.mem_append_right _ h))) (by decide +kernel))) (goodIn_sub (fun _ h => List.mem_cons_of_mem _ (List.mem_append_left _ (List.mem_append_left _ (List.mem_append_right _ h)))) (by decide +kernel))
set_option maxRecDepth 20000 in
theorem gL_build_X3_setShare : GoodIn wsL_build (wsV RL 48 RX3 yX3_setShare wsX3_setShare) := goodIn_app (goodIn_of _ (by decide +kernel)) ggL_build_X3_setShare
set_option maxRecDepth 20000 in
theorem ggL_build_X3_setField : GoodIn wsL_build wsX3_setField := goodIn_ca (goodIn_ca (goodIn_r _ [109, 91, 92, 44, 45, 46, 110, 111, 112, 113, 11, 12, 13, 102, 103, 104, 55, 105, 57, 58, 49, 50, 42, 51, 114, 115, 116, 117, 160, 161, 162, 163, 164, 165, 166, 167, 168, 169, 170, 171, 172, 173, 174, 175, 176, 177, 178, 179, 180, 181, 182, 183] (by decide +kernel) (by decide +kernel)) (goodIn_sub (fun _ h => List.mem_cons_of_mem _ (List.mem_append_left _ (List.mem_append_right _ h))) (by decide +kernel))) (goodIn_sub (fun _ h => List.mem_cons_of_mem _ (List.mem_append_left _ (List.mem_append_left _ (List.mem_append_right _ h)))) (by decide +kernel))
set_option maxRecDepth 20000 in
theorem gL_build_X3_setField : GoodIn wsL_build (wsV RL 60 RX3 yX3_setField wsX3_setField) := goodIn_app (goodIn_of _ (by decide +kernel)) ggL_build_X3_setField
set_option maxRecDepth 20000 in
theorem ggL_build_X3_turn : GoodIn wsL_build wsX3_turn := goodIn_ca (goodIn_ca (goodIn_r _ [121, 91, 92, 44, 45, 46, 122, 102, 103, 104, 55, 105, 57, 58, 49, 50, 42, 51, 114, 115, 116, 117, 160, 161, 162, 163, 164, 165, 166, 167, 168, 169, 170, 171, 172, 173, 174, 175, 176, 177, 178, 179, 180, 181, 182, 183] (by decide +kernel) (by decide +kernel)) (goodIn_sub (fun _ h => List.mem_cons_of_mem _ (List.mem_append_left _ (List.mem_append_right _ h))) (by decide +kernel))) (goodIn_sub (fun _ h => List.mem_cons_of_mem _ (List.mem_append_left _ (List.mem_append_left _ (List.mem_append_right _ h)))) (by decide +kernel))
set_option maxRecDepth 20000 in
theorem gL_build_X3_turn : GoodIn wsL_build (wsV RL 63 RX3 yX3_turn wsX3_turn) := goodIn_app (goodIn_of _ (by decide +kernel)) ggL_build_X3_turn
set_option maxRecDepth 20000 in
theorem ggL_build_X3_moveStone : GoodIn wsL_build wsX3_moveStone := goodIn_ca (goodIn_ca (goodIn_r _ [126, 91, 92, 44, 45, 46, 110, 112, 48, 127, 16, 12, 17, 102, 103, 104, 55, 105, 57, 58, 114, 115, 116, 117, 49, 50, 42, 51, 160, 161, 162, 163, 164, 165, 166, 167, 168, 169, 170, 171, 172, 173, 174, 175, 176, 177, 178, 179, 180, 181, 182, 183] (by decide +kernel) (by decide +kernel)) (goodIn_sub (fun _ h => List.mem_cons_of_mem _ (List.mem_append_left _ (List.mem_append_right _ h))) (by decide +kernel))) (goodIn_sub (fun _ h => List.mem_cons_of_mem _ (List.mem_append_left _ (List.mem_append_left _ (List.mem_append_right _ h)))) (by decide +kernel))
set_option maxRecDepth 20000 in
theorem gL_build_X3_moveStone : GoodIn wsL_build (wsV RL 67 RX3 yX3_moveStone wsX3_moveStone) := goodIn_app (goodIn_of _ (by decide +kernel)) ggL_build_X3_moveStone
set_option maxRecDepth 20000 in
theorem ggL_build_X3_plant : GoodIn wsL_build wsX3_plant := goodIn_ca (goodIn_ca (goodIn_ca (goodIn_r _ [131, 91, 92, 44, 45, 132, 133, 46, 134, 135, 136, 102, 103, 104, 55, 105, 57, 58, 49, 50, 42, 51, 114, 115, 116, 117, 137, 138, 139, 140, 78, 141, 142, 143, 144, 145, 84, 85, 86, 160, 161, 162, 163, 164, 165, 166, 167, 168, 169, 170, 171, 172, 173, 174, 175, 176, 177, 178, 179, 180, 181, 182, 183] (by decide +kernel) (by decide +kernel)) (goodIn_sub (fun _ h => List.mem_cons_of_mem _ (List.mem_append_left _ (List.mem_append_right _ h))) (by decide +kernel))) (goodIn_sub (fun _ h => List.mem_cons_of_mem _ (List.mem_append_left _ (List.mem_append_left _ (List.mem_append_right _ h)))) (by decide +kernel))) (goodIn_sub (fun _ h => List.mem_cons_of_mem _ (List.mem_append_right _ h)) (by decide +kernel))
set_option maxRecDepth 20000 in
theorem gL_build_X3_plant : GoodIn wsL_build (wsV RL 77 RX3 yX3_plant wsX3_plant) := goodIn_app (goodIn_of _ (by decide +kernel)) ggL_build_X3_plant
set_option maxRecDepth 20000 in
theorem ggL_build_X4_sum : GoodIn wsL_build wsX4_sum := goodIn_r _ [149, 37, 150, 151, 152, 153, 154, 155, 156, 157, 158, 159] (by decide +kernel) (by decide +kernel)
set_option maxRecDepth 20000 in
theorem gL_build_X4_sum : GoodIn wsL_build (wsV RL 80 RX4 yX4_sum wsX4_sum) := goodIn_app (goodIn_of _ (by decide +kernel)) ggL_build_X4_sum
theorem dL_build_0 : decode cL_build 0 = .ok (.new 9, 3) := by decide +kernel
theorem dL_build_3 : decode cL_build 3 = .ok (.dup, 1) := by decide +kernel
theorem dL_build_4 : decode cL_build 4 = .ok (.iconst 2, 1) := by decide +kernel
theorem dL_build_5 : decode cL_build 5 = .ok (.aload_n 1, 1) := by decide +kernel
theorem dL_build_6 : decode cL_build 6 = .ok (.iconst 0, 1) := by decide +kernel
theorem dL_build_7 : decode cL_build 7 = .ok (.invokestatic 11, 3) := by decide +kernel
theorem dL_build_10 : decode cL_build 10 = .ok (.iconst 4, 1) := by decide +kernel
theorem dL_build_11 : decode cL_build 11 = .ok (.invokestatic 17, 3) := by decide +kernel
theorem dL_build_14 : decode cL_build 14 = .ok (.iadd, 1) := by decide +kernel
theorem dL_build_15 : decode cL_build 15 = .ok (.iconst 2, 1) := by decide +kernel
theorem dL_build_16 : decode cL_build 16 = .ok (.aload_n 1, 1) := by decide +kernel
theorem dL_build_17 : decode cL_build 17 = .ok (.iconst 0, 1) := by decide +kernel
theorem dL_build_18 : decode cL_build 18 = .ok (.invokestatic 11, 3) := by decide +kernel
theorem dL_build_21 : decode cL_build 21 = .ok (.iconst 4, 1) := by decide +kernel
theorem dL_build_22 : decode cL_build 22 = .ok (.ishr, 1) := by decide +kernel
theorem dL_build_23 : decode cL_build 23 = .ok (.iconst 4, 1) := by decide +kernel
theorem dL_build_24 : decode cL_build 24 = .ok (.invokestatic 17, 3) := by decide +kernel
theorem dL_build_27 : decode cL_build 27 = .ok (.iadd, 1) := by decide +kernel
theorem dL_build_28 : decode cL_build 28 = .ok (.invokespecial 21, 3) := by decide +kernel
theorem dL_build_31 : decode cL_build 31 = .ok (.astore_n 2, 1) := by decide +kernel
theorem dL_build_32 : decode cL_build 32 = .ok (.aload_n 0, 1) := by decide +kernel
theorem dL_build_33 : decode cL_build 33 = .ok (.aload_n 2, 1) := by decide +kernel
theorem dL_build_34 : decode cL_build 34 = .ok (.getfield 24, 3) := by decide +kernel
theorem dL_build_37 : decode cL_build 37 = .ok (.aload_n 2, 1) := by decide +kernel
theorem dL_build_38 : decode cL_build 38 = .ok (.getfield 28, 3) := by decide +kernel
theorem dL_build_41 : decode cL_build 41 = .ok (.invokevirtual 31, 3) := by decide +kernel
theorem dL_build_44 : decode cL_build 44 = .ok (.aload_n 2, 1) := by decide +kernel
theorem dL_build_45 : decode cL_build 45 = .ok (.getfield 24, 3) := by decide +kernel
theorem dL_build_48 : decode cL_build 48 = .ok (.aload_n 2, 1) := by decide +kernel
theorem dL_build_49 : decode cL_build 49 = .ok (.getfield 28, 3) := by decide +kernel
theorem dL_build_52 : decode cL_build 52 = .ok (.imul, 1) := by decide +kernel
theorem dL_build_53 : decode cL_build 53 = .ok (.if_icmp .eq 5, 3) := by decide +kernel
theorem dL_build_56 : decode cL_build 56 = .ok (.aconst_null, 1) := by decide +kernel
theorem dL_build_57 : decode cL_build 57 = .ok (.areturn, 1) := by decide +kernel
theorem dL_build_58 : decode cL_build 58 = .ok (.iconst 0, 1) := by decide +kernel
theorem dL_build_59 : decode cL_build 59 = .ok (.istore_n 3, 1) := by decide +kernel
theorem dL_build_60 : decode cL_build 60 = .ok (.iload_n 3, 1) := by decide +kernel
theorem dL_build_61 : decode cL_build 61 = .ok (.bipush 30, 2) := by decide +kernel
theorem dL_build_63 : decode cL_build 63 = .ok (.if_icmp .ge 114, 3) := by decide +kernel
theorem dL_build_66 : decode cL_build 66 = .ok (.aload_n 1, 1) := by decide +kernel
theorem dL_build_67 : decode cL_build 67 = .ok (.iconst 1, 1) := by decide +kernel
theorem dL_build_68 : decode cL_build 68 = .ok (.iload_n 3, 1) := by decide +kernel
theorem dL_build_69 : decode cL_build 69 = .ok (.bipush 6, 2) := by decide +kernel
theorem dL_build_71 : decode cL_build 71 = .ok (.irem, 1) := by decide +kernel
theorem dL_build_72 : decode cL_build 72 = .ok (.iadd, 1) := by decide +kernel
theorem dL_build_73 : decode cL_build 73 = .ok (.invokestatic 11, 3) := by decide +kernel
theorem dL_build_76 : decode cL_build 76 = .ok (.iload_n 3, 1) := by decide +kernel
theorem dL_build_77 : decode cL_build 77 = .ok (.bipush 11, 2) := by decide +kernel
theorem dL_build_79 : decode cL_build 79 = .ok (.irem, 1) := by decide +kernel
theorem dL_build_80 : decode cL_build 80 = .ok (.ishr, 1) := by decide +kernel
theorem dL_build_81 : decode cL_build 81 = .ok (.istore 4, 2) := by decide +kernel
theorem dL_build_83 : decode cL_build 83 = .ok (.iconst 3, 1) := by decide +kernel
theorem dL_build_84 : decode cL_build 84 = .ok (.newarray .int, 2) := by decide +kernel
theorem dL_build_86 : decode cL_build 86 = .ok (.dup, 1) := by decide +kernel
theorem dL_build_87 : decode cL_build 87 = .ok (.iconst 0, 1) := by decide +kernel
theorem dL_build_88 : decode cL_build 88 = .ok (.iload 4, 2) := by decide +kernel
theorem dL_build_90 : decode cL_build 90 = .ok (.iconst 3, 1) := by decide +kernel
theorem dL_build_91 : decode cL_build 91 = .ok (.invokestatic 17, 3) := by decide +kernel
theorem dL_build_94 : decode cL_build 94 = .ok (.ifCond .le 7, 3) := by decide +kernel
theorem dL_build_97 : decode cL_build 97 = .ok (.iconst 0, 1) := by decide +kernel
theorem dL_build_98 : decode cL_build 98 = .ok (.goto 12, 3) := by decide +kernel
theorem dL_build_101 : decode cL_build 101 = .ok (.iload 4, 2) := by decide +kernel
theorem dL_build_103 : decode cL_build 103 = .ok (.iconst 2, 1) := by decide +kernel
theorem dL_build_104 : decode cL_build 104 = .ok (.ishr, 1) := by decide +kernel
theorem dL_build_105 : decode cL_build 105 = .ok (.bipush 61, 2) := by decide +kernel
theorem dL_build_107 : decode cL_build 107 = .ok (.invokestatic 17, 3) := by decide +kernel
theorem dL_build_110 : decode cL_build 110 = .ok (.iastore, 1) := by decide +kernel
theorem dL_build_111 : decode cL_build 111 = .ok (.dup, 1) := by decide +kernel
theorem dL_build_112 : decode cL_build 112 = .ok (.iconst 1, 1) := by decide +kernel
theorem dL_build_113 : decode cL_build 113 = .ok (.iload 4, 2) := by decide +kernel
theorem dL_build_115 : decode cL_build 115 = .ok (.iconst 4, 1) := by decide +kernel
theorem dL_build_116 : decode cL_build 116 = .ok (.ishr, 1) := by decide +kernel
theorem dL_build_117 : decode cL_build 117 = .ok (.sipush 401, 3) := by decide +kernel
theorem dL_build_120 : decode cL_build 120 = .ok (.invokestatic 17, 3) := by decide +kernel
theorem dL_build_123 : decode cL_build 123 = .ok (.iastore, 1) := by decide +kernel
theorem dL_build_124 : decode cL_build 124 = .ok (.dup, 1) := by decide +kernel
theorem dL_build_125 : decode cL_build 125 = .ok (.iconst 2, 1) := by decide +kernel
theorem dL_build_126 : decode cL_build 126 = .ok (.iload 4, 2) := by decide +kernel
theorem dL_build_128 : decode cL_build 128 = .ok (.bipush 6, 2) := by decide +kernel
theorem dL_build_130 : decode cL_build 130 = .ok (.ishr, 1) := by decide +kernel
theorem dL_build_131 : decode cL_build 131 = .ok (.bipush 21, 2) := by decide +kernel
theorem dL_build_133 : decode cL_build 133 = .ok (.invokestatic 17, 3) := by decide +kernel
theorem dL_build_136 : decode cL_build 136 = .ok (.iastore, 1) := by decide +kernel
theorem dL_build_137 : decode cL_build 137 = .ok (.astore 5, 2) := by decide +kernel
theorem dL_build_139 : decode cL_build 139 = .ok (.aload_n 0, 1) := by decide +kernel
theorem dL_build_140 : decode cL_build 140 = .ok (.iload_n 3, 1) := by decide +kernel
theorem dL_build_141 : decode cL_build 141 = .ok (.aload 5, 2) := by decide +kernel
theorem dL_build_143 : decode cL_build 143 = .ok (.iconst 0, 1) := by decide +kernel
theorem dL_build_144 : decode cL_build 144 = .ok (.iaload, 1) := by decide +kernel
theorem dL_build_145 : decode cL_build 145 = .ok (.aload 5, 2) := by decide +kernel
theorem dL_build_147 : decode cL_build 147 = .ok (.iconst 1, 1) := by decide +kernel
theorem dL_build_148 : decode cL_build 148 = .ok (.iaload, 1) := by decide +kernel
theorem dL_build_149 : decode cL_build 149 = .ok (.aload 5, 2) := by decide +kernel
theorem dL_build_151 : decode cL_build 151 = .ok (.iconst 2, 1) := by decide +kernel
theorem dL_build_152 : decode cL_build 152 = .ok (.iaload, 1) := by decide +kernel
theorem dL_build_153 : decode cL_build 153 = .ok (.invokevirtual 36, 3) := by decide +kernel
theorem dL_build_156 : decode cL_build 156 = .ok (.bipush 60, 2) := by decide +kernel
theorem dL_build_158 : decode cL_build 158 = .ok (.if_icmp .eq 5, 3) := by decide +kernel
theorem dL_build_161 : decode cL_build 161 = .ok (.aconst_null, 1) := by decide +kernel
theorem dL_build_162 : decode cL_build 162 = .ok (.areturn, 1) := by decide +kernel
theorem dL_build_163 : decode cL_build 163 = .ok (.aload_n 2, 1) := by decide +kernel
theorem dL_build_164 : decode cL_build 164 = .ok (.getfield 40, 3) := by decide +kernel
theorem dL_build_167 : decode cL_build 167 = .ok (.iload_n 3, 1) := by decide +kernel
theorem dL_build_168 : decode cL_build 168 = .ok (.aload 5, 2) := by decide +kernel
theorem dL_build_170 : decode cL_build 170 = .ok (.aastore, 1) := by decide +kernel
theorem dL_build_171 : decode cL_build 171 = .ok (.iinc 3 1, 3) := by decide +kernel
theorem dL_build_174 : decode cL_build 174 = .ok (.goto (-114), 3) := by decide +kernel
theorem dL_build_177 : decode cL_build 177 = .ok (.iconst 0, 1) := by decide +kernel
theorem dL_build_178 : decode cL_build 178 = .ok (.istore_n 3, 1) := by decide +kernel
theorem dL_build_179 : decode cL_build 179 = .ok (.iload_n 3, 1) := by decide +kernel
theorem dL_build_180 : decode cL_build 180 = .ok (.aload_n 2, 1) := by decide +kernel
theorem dL_build_181 : decode cL_build 181 = .ok (.getfield 28, 3) := by decide +kernel
theorem dL_build_184 : decode cL_build 184 = .ok (.if_icmp .ge 47, 3) := by decide +kernel
theorem dL_build_187 : decode cL_build 187 = .ok (.aload_n 2, 1) := by decide +kernel
theorem dL_build_188 : decode cL_build 188 = .ok (.getfield 44, 3) := by decide +kernel
theorem dL_build_191 : decode cL_build 191 = .ok (.iload_n 3, 1) := by decide +kernel
theorem dL_build_192 : decode cL_build 192 = .ok (.aload_n 1, 1) := by decide +kernel
theorem dL_build_193 : decode cL_build 193 = .ok (.bipush 7, 2) := by decide +kernel
theorem dL_build_195 : decode cL_build 195 = .ok (.invokestatic 11, 3) := by decide +kernel
theorem dL_build_198 : decode cL_build 198 = .ok (.iconst 3, 1) := by decide +kernel
theorem dL_build_199 : decode cL_build 199 = .ok (.iload_n 3, 1) := by decide +kernel
theorem dL_build_200 : decode cL_build 200 = .ok (.imul, 1) := by decide +kernel
theorem dL_build_201 : decode cL_build 201 = .ok (.ishr, 1) := by decide +kernel
theorem dL_build_202 : decode cL_build 202 = .ok (.bipush 10, 2) := by decide +kernel
theorem dL_build_204 : decode cL_build 204 = .ok (.invokestatic 17, 3) := by decide +kernel
theorem dL_build_207 : decode cL_build 207 = .ok (.iastore, 1) := by decide +kernel
theorem dL_build_208 : decode cL_build 208 = .ok (.aload_n 0, 1) := by decide +kernel
theorem dL_build_209 : decode cL_build 209 = .ok (.iload_n 3, 1) := by decide +kernel
theorem dL_build_210 : decode cL_build 210 = .ok (.aload_n 2, 1) := by decide +kernel
theorem dL_build_211 : decode cL_build 211 = .ok (.getfield 44, 3) := by decide +kernel
theorem dL_build_214 : decode cL_build 214 = .ok (.iload_n 3, 1) := by decide +kernel
theorem dL_build_215 : decode cL_build 215 = .ok (.iaload, 1) := by decide +kernel
theorem dL_build_216 : decode cL_build 216 = .ok (.invokevirtual 48, 3) := by decide +kernel
theorem dL_build_219 : decode cL_build 219 = .ok (.iconst 1, 1) := by decide +kernel
theorem dL_build_220 : decode cL_build 220 = .ok (.if_icmp .eq 5, 3) := by decide +kernel
theorem dL_build_223 : decode cL_build 223 = .ok (.aconst_null, 1) := by decide +kernel
theorem dL_build_224 : decode cL_build 224 = .ok (.areturn, 1) := by decide +kernel
theorem dL_build_225 : decode cL_build 225 = .ok (.iinc 3 1, 3) := by decide +kernel
theorem dL_build_228 : decode cL_build 228 = .ok (.goto (-49), 3) := by decide +kernel
theorem dL_build_231 : decode cL_build 231 = .ok (.iconst 0, 1) := by decide +kernel
theorem dL_build_232 : decode cL_build 232 = .ok (.istore_n 3, 1) := by decide +kernel
theorem dL_build_233 : decode cL_build 233 = .ok (.iload_n 3, 1) := by decide +kernel
theorem dL_build_234 : decode cL_build 234 = .ok (.aload_n 2, 1) := by decide +kernel
theorem dL_build_235 : decode cL_build 235 = .ok (.getfield 24, 3) := by decide +kernel
theorem dL_build_238 : decode cL_build 238 = .ok (.if_icmp .ge 285, 3) := by decide +kernel
theorem dL_build_241 : decode cL_build 241 = .ok (.iconst 0, 1) := by decide +kernel
theorem dL_build_242 : decode cL_build 242 = .ok (.istore 4, 2) := by decide +kernel
theorem dL_build_244 : decode cL_build 244 = .ok (.iload 4, 2) := by decide +kernel
theorem dL_build_246 : decode cL_build 246 = .ok (.aload_n 2, 1) := by decide +kernel
theorem dL_build_247 : decode cL_build 247 = .ok (.getfield 28, 3) := by decide +kernel
theorem dL_build_250 : decode cL_build 250 = .ok (.if_icmp .ge 267, 3) := by decide +kernel
theorem dL_build_253 : decode cL_build 253 = .ok (.aload_n 1, 1) := by decide +kernel
theorem dL_build_254 : decode cL_build 254 = .ok (.bipush 8, 2) := by decide +kernel
theorem dL_build_256 : decode cL_build 256 = .ok (.iload_n 3, 1) := by decide +kernel
theorem dL_build_257 : decode cL_build 257 = .ok (.iload 4, 2) := by decide +kernel
theorem dL_build_259 : decode cL_build 259 = .ok (.iadd, 1) := by decide +kernel
theorem dL_build_260 : decode cL_build 260 = .ok (.bipush 7, 2) := by decide +kernel
theorem dL_build_262 : decode cL_build 262 = .ok (.irem, 1) := by decide +kernel
theorem dL_build_263 : decode cL_build 263 = .ok (.iadd, 1) := by decide +kernel
theorem dL_build_264 : decode cL_build 264 = .ok (.invokestatic 11, 3) := by decide +kernel
theorem dL_build_267 : decode cL_build 267 = .ok (.iload_n 3, 1) := by decide +kernel
theorem dL_build_268 : decode cL_build 268 = .ok (.ishr, 1) := by decide +kernel
theorem dL_build_269 : decode cL_build 269 = .ok (.bipush 17, 2) := by decide +kernel
theorem dL_build_271 : decode cL_build 271 = .ok (.iload 4, 2) := by decide +kernel
theorem dL_build_273 : decode cL_build 273 = .ok (.imul, 1) := by decide +kernel
theorem dL_build_274 : decode cL_build 274 = .ok (.iadd, 1) := by decide +kernel
theorem dL_build_275 : decode cL_build 275 = .ok (.istore 5, 2) := by decide +kernel
theorem dL_build_277 : decode cL_build 277 = .ok (.aload_n 2, 1) := by decide +kernel
theorem dL_build_278 : decode cL_build 278 = .ok (.getfield 51, 3) := by decide +kernel
theorem dL_build_281 : decode cL_build 281 = .ok (.iload_n 3, 1) := by decide +kernel
theorem dL_build_282 : decode cL_build 282 = .ok (.aaload, 1) := by decide +kernel
theorem dL_build_283 : decode cL_build 283 = .ok (.iload 4, 2) := by decide +kernel
theorem dL_build_285 : decode cL_build 285 = .ok (.aaload, 1) := by decide +kernel
theorem dL_build_286 : decode cL_build 286 = .ok (.astore 6, 2) := by decide +kernel
theorem dL_build_288 : decode cL_build 288 = .ok (.aload 6, 2) := by decide +kernel
theorem dL_build_290 : decode cL_build 290 = .ok (.iconst 1, 1) := by decide +kernel
theorem dL_build_291 : decode cL_build 291 = .ok (.bipush 20, 2) := by decide +kernel
theorem dL_build_293 : decode cL_build 293 = .ok (.iload 5, 2) := by decide +kernel
theorem dL_build_295 : decode cL_build 295 = .ok (.bipush 101, 2) := by decide +kernel
theorem dL_build_297 : decode cL_build 297 = .ok (.invokestatic 17, 3) := by decide +kernel
theorem dL_build_300 : decode cL_build 300 = .ok (.iadd, 1) := by decide +kernel
theorem dL_build_301 : decode cL_build 301 = .ok (.iastore, 1) := by decide +kernel
theorem dL_build_302 : decode cL_build 302 = .ok (.aload 6, 2) := by decide +kernel
theorem dL_build_304 : decode cL_build 304 = .ok (.iconst 2, 1) := by decide +kernel
theorem dL_build_305 : decode cL_build 305 = .ok (.iload 5, 2) := by decide +kernel
theorem dL_build_307 : decode cL_build 307 = .ok (.iconst 3, 1) := by decide +kernel
theorem dL_build_308 : decode cL_build 308 = .ok (.ishr, 1) := by decide +kernel
theorem dL_build_309 : decode cL_build 309 = .ok (.bipush 10, 2) := by decide +kernel
theorem dL_build_311 : decode cL_build 311 = .ok (.invokestatic 17, 3) := by decide +kernel
theorem dL_build_314 : decode cL_build 314 = .ok (.iastore, 1) := by decide +kernel
theorem dL_build_315 : decode cL_build 315 = .ok (.aload 6, 2) := by decide +kernel
theorem dL_build_317 : decode cL_build 317 = .ok (.iconst 3, 1) := by decide +kernel
theorem dL_build_318 : decode cL_build 318 = .ok (.bipush 30, 2) := by decide +kernel
theorem dL_build_320 : decode cL_build 320 = .ok (.aload 6, 2) := by decide +kernel
theorem dL_build_322 : decode cL_build 322 = .ok (.iconst 1, 1) := by decide +kernel
theorem dL_build_323 : decode cL_build 323 = .ok (.iaload, 1) := by decide +kernel
theorem dL_build_324 : decode cL_build 324 = .ok (.invokestatic 55, 3) := by decide +kernel
theorem dL_build_327 : decode cL_build 327 = .ok (.iastore, 1) := by decide +kernel
theorem dL_build_328 : decode cL_build 328 = .ok (.aload 6, 2) := by decide +kernel
theorem dL_build_330 : decode cL_build 330 = .ok (.iconst 4, 1) := by decide +kernel
theorem dL_build_331 : decode cL_build 331 = .ok (.iload 5, 2) := by decide +kernel
theorem dL_build_333 : decode cL_build 333 = .ok (.iconst 5, 1) := by decide +kernel
theorem dL_build_334 : decode cL_build 334 = .ok (.ishr, 1) := by decide +kernel
theorem dL_build_335 : decode cL_build 335 = .ok (.iconst 3, 1) := by decide +kernel
theorem dL_build_336 : decode cL_build 336 = .ok (.invokestatic 17, 3) := by decide +kernel
theorem dL_build_339 : decode cL_build 339 = .ok (.iconst 1, 1) := by decide +kernel
theorem dL_build_340 : decode cL_build 340 = .ok (.isub, 1) := by decide +kernel
theorem dL_build_341 : decode cL_build 341 = .ok (.iastore, 1) := by decide +kernel
theorem dL_build_342 : decode cL_build 342 = .ok (.aload_n 0, 1) := by decide +kernel
theorem dL_build_343 : decode cL_build 343 = .ok (.iload_n 3, 1) := by decide +kernel
theorem dL_build_344 : decode cL_build 344 = .ok (.iload 4, 2) := by decide +kernel
theorem dL_build_346 : decode cL_build 346 = .ok (.aload 6, 2) := by decide +kernel
theorem dL_build_348 : decode cL_build 348 = .ok (.iconst 1, 1) := by decide +kernel
theorem dL_build_349 : decode cL_build 349 = .ok (.iaload, 1) := by decide +kernel
theorem dL_build_350 : decode cL_build 350 = .ok (.aload 6, 2) := by decide +kernel
theorem dL_build_352 : decode cL_build 352 = .ok (.iconst 2, 1) := by decide +kernel
theorem dL_build_353 : decode cL_build 353 = .ok (.iaload, 1) := by decide +kernel
theorem dL_build_354 : decode cL_build 354 = .ok (.invokevirtual 60, 3) := by decide +kernel
theorem dL_build_357 : decode cL_build 357 = .ok (.bipush 60, 2) := by decide +kernel
theorem dL_build_359 : decode cL_build 359 = .ok (.if_icmp .ne 17, 3) := by decide +kernel
theorem dL_build_362 : decode cL_build 362 = .ok (.aload_n 0, 1) := by decide +kernel
theorem dL_build_363 : decode cL_build 363 = .ok (.iload_n 3, 1) := by decide +kernel
theorem dL_build_364 : decode cL_build 364 = .ok (.iload 4, 2) := by decide +kernel
theorem dL_build_366 : decode cL_build 366 = .ok (.aload 6, 2) := by decide +kernel
theorem dL_build_368 : decode cL_build 368 = .ok (.iconst 4, 1) := by decide +kernel
theorem dL_build_369 : decode cL_build 369 = .ok (.iaload, 1) := by decide +kernel
theorem dL_build_370 : decode cL_build 370 = .ok (.invokevirtual 63, 3) := by decide +kernel
theorem dL_build_373 : decode cL_build 373 = .ok (.ifCond .eq 5, 3) := by decide +kernel
theorem dL_build_376 : decode cL_build 376 = .ok (.aconst_null, 1) := by decide +kernel
theorem dL_build_377 : decode cL_build 377 = .ok (.areturn, 1) := by decide +kernel
theorem dL_build_378 : decode cL_build 378 = .ok (.iload 5, 2) := by decide +kernel
theorem dL_build_380 : decode cL_build 380 = .ok (.bipush 7, 2) := by decide +kernel
theorem dL_build_382 : decode cL_build 382 = .ok (.ishr, 1) := by decide +kernel
theorem dL_build_383 : decode cL_build 383 = .ok (.iconst 3, 1) := by decide +kernel
theorem dL_build_384 : decode cL_build 384 = .ok (.invokestatic 17, 3) := by decide +kernel
theorem dL_build_387 : decode cL_build 387 = .ok (.ifCond .ne 6, 3) := by decide +kernel
theorem dL_build_390 : decode cL_build 390 = .ok (.goto 121, 3) := by decide +kernel
theorem dL_build_393 : decode cL_build 393 = .ok (.iload 5, 2) := by decide +kernel
theorem dL_build_395 : decode cL_build 395 = .ok (.iconst 4, 1) := by decide +kernel
theorem dL_build_396 : decode cL_build 396 = .ok (.ishr, 1) := by decide +kernel
theorem dL_build_397 : decode cL_build 397 = .ok (.aload 6, 2) := by decide +kernel
theorem dL_build_399 : decode cL_build 399 = .ok (.iconst 1, 1) := by decide +kernel
theorem dL_build_400 : decode cL_build 400 = .ok (.iaload, 1) := by decide +kernel
theorem dL_build_401 : decode cL_build 401 = .ok (.iconst 1, 1) := by decide +kernel
theorem dL_build_402 : decode cL_build 402 = .ok (.iadd, 1) := by decide +kernel
theorem dL_build_403 : decode cL_build 403 = .ok (.invokestatic 17, 3) := by decide +kernel
theorem dL_build_406 : decode cL_build 406 = .ok (.istore 7, 2) := by decide +kernel
theorem dL_build_408 : decode cL_build 408 = .ok (.aload_n 0, 1) := by decide +kernel
theorem dL_build_409 : decode cL_build 409 = .ok (.iload_n 3, 1) := by decide +kernel
theorem dL_build_410 : decode cL_build 410 = .ok (.iload 4, 2) := by decide +kernel
theorem dL_build_412 : decode cL_build 412 = .ok (.iload 7, 2) := by decide +kernel
theorem dL_build_414 : decode cL_build 414 = .ok (.invokevirtual 67, 3) := by decide +kernel
theorem dL_build_417 : decode cL_build 417 = .ok (.iload 7, 2) := by decide +kernel
theorem dL_build_419 : decode cL_build 419 = .ok (.aload 6, 2) := by decide +kernel
theorem dL_build_421 : decode cL_build 421 = .ok (.iconst 3, 1) := by decide +kernel
theorem dL_build_422 : decode cL_build 422 = .ok (.iaload, 1) := by decide +kernel
theorem dL_build_423 : decode cL_build 423 = .ok (.isub, 1) := by decide +kernel
theorem dL_build_424 : decode cL_build 424 = .ok (.if_icmp .eq 5, 3) := by decide +kernel
