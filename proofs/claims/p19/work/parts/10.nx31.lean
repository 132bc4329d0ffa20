theorem dX3_reap_81 : decode cX3_reap 81 = .ok (.getfield 142, 3) := by decide +kernel
theorem dX3_reap_84 : decode cX3_reap 84 = .ok (.iload_n 3, 1) := by decide +kernel
theorem dX3_reap_85 : decode cX3_reap 85 = .ok (.iaload, 1) := by decide +kernel
theorem dX3_reap_86 : decode cX3_reap 86 = .ok (.imul, 1) := by decide +kernel
theorem dX3_reap_87 : decode cX3_reap 87 = .ok (.bipush 100, 2) := by decide +kernel
theorem dX3_reap_89 : decode cX3_reap 89 = .ok (.idiv, 1) := by decide +kernel
theorem dX3_reap_90 : decode cX3_reap 90 = .ok (.istore 4, 2) := by decide +kernel
theorem dX3_reap_92 : decode cX3_reap 92 = .ok (.aload_n 0, 1) := by decide +kernel
theorem dX3_reap_93 : decode cX3_reap 93 = .ok (.getfield 21, 3) := by decide +kernel
theorem dX3_reap_96 : decode cX3_reap 96 = .ok (.getfield 126, 3) := by decide +kernel
theorem dX3_reap_99 : decode cX3_reap 99 = .ok (.iload_n 3, 1) := by decide +kernel
theorem dX3_reap_100 : decode cX3_reap 100 = .ok (.iaload, 1) := by decide +kernel
theorem dX3_reap_101 : decode cX3_reap 101 = .ok (.ifCond .ne 12, 3) := by decide +kernel
theorem dX3_reap_104 : decode cX3_reap 104 = .ok (.iload 4, 2) := by decide +kernel
theorem dX3_reap_106 : decode cX3_reap 106 = .ok (.iload 4, 2) := by decide +kernel
theorem dX3_reap_108 : decode cX3_reap 108 = .ok (.iconst 2, 1) := by decide +kernel
theorem dX3_reap_109 : decode cX3_reap 109 = .ok (.idiv, 1) := by decide +kernel
theorem dX3_reap_110 : decode cX3_reap 110 = .ok (.iadd, 1) := by decide +kernel
theorem dX3_reap_111 : decode cX3_reap 111 = .ok (.istore 4, 2) := by decide +kernel
theorem dX3_reap_113 : decode cX3_reap 113 = .ok (.aload_n 0, 1) := by decide +kernel
theorem dX3_reap_114 : decode cX3_reap 114 = .ok (.getfield 21, 3) := by decide +kernel
theorem dX3_reap_117 : decode cX3_reap 117 = .ok (.iload_n 3, 1) := by decide +kernel
theorem dX3_reap_118 : decode cX3_reap 118 = .ok (.invokevirtual 145, 3) := by decide +kernel
theorem dX3_reap_121 : decode cX3_reap 121 = .ok (.aload_n 0, 1) := by decide +kernel
theorem dX3_reap_122 : decode cX3_reap 122 = .ok (.dup, 1) := by decide +kernel
theorem dX3_reap_123 : decode cX3_reap 123 = .ok (.getfield 49, 3) := by decide +kernel
theorem dX3_reap_126 : decode cX3_reap 126 = .ok (.iload 4, 2) := by decide +kernel
theorem dX3_reap_128 : decode cX3_reap 128 = .ok (.iadd, 1) := by decide +kernel
theorem dX3_reap_129 : decode cX3_reap 129 = .ok (.putfield 49, 3) := by decide +kernel
theorem dX3_reap_132 : decode cX3_reap 132 = .ok (.iload 4, 2) := by decide +kernel
theorem dX3_reap_134 : decode cX3_reap 134 = .ok (.ireturn, 1) := by decide +kernel
set_option maxRecDepth 20000 in
theorem ggX3_pass_X3_isWithin : GoodIn wsX3_pass wsX3_isWithin := goodIn_r _ [11] (by decide +kernel) (by decide +kernel)
set_option maxRecDepth 20000 in
theorem gX3_pass_X3_isWithin : GoodIn wsX3_pass (va_wsS RX3 35 yX3_isWithin wsX3_isWithin) := goodIn_app (goodIn_of _ (by decide +kernel)) ggX3_pass_X3_isWithin
set_option maxRecDepth 20000 in
theorem ggX3_pass_X2_letDaysGoBy : GoodIn wsX3_pass wsX2_letDaysGoBy := goodIn_r _ [16, 17, 18, 19, 20, 21, 22, 23, 15, 24, 25, 26, 27, 28, 29, 30, 31, 32, 33, 34, 35, 36, 37, 38, 39, 40, 41, 42, 43, 44, 45, 46, 47, 48, 49, 50, 51, 52, 53, 54, 55, 56, 57, 58, 59, 60, 61, 62, 63, 64, 65, 66, 67, 68, 69, 70, 71, 72, 73, 74, 75, 76, 77, 78, 79, 80, 81, 82, 83, 84, 85, 86, 87, 88, 89, 90, 91, 92, 93, 94, 95, 96, 9, 10, 11, 111, 112, 113, 114, 115, 116, 117, 118, 119, 120, 121, 122, 123, 124, 125, 126, 127, 128, 129, 130, 131] (by decide +kernel) (by decide +kernel)
set_option maxRecDepth 20000 in
theorem gX3_pass_X2_letDaysGoBy : GoodIn wsX3_pass (wsV RX3 156 RX2 yX2_letDaysGoBy wsX2_letDaysGoBy) := goodIn_app (goodIn_of _ (by decide +kernel)) ggX3_pass_X2_letDaysGoBy
set_option maxRecDepth 20000 in
theorem ggX3_pass_X2_crops : GoodIn wsX3_pass wsX2_crops := goodIn_r _ [100, 79, 101, 102, 103, 15, 104, 26, 27, 28, 29, 30, 31, 111, 112, 113, 114, 115, 116, 117, 118, 119, 120, 121, 122, 123, 124, 125, 126, 127, 128] (by decide +kernel) (by decide +kernel)
set_option maxRecDepth 20000 in
theorem gX3_pass_X2_crops : GoodIn wsX3_pass (wsV RX3 137 RX2 yX2_crops wsX2_crops) := goodIn_app (goodIn_of _ (by decide +kernel)) ggX3_pass_X2_crops
theorem dX3_pass_0 : decode cX3_pass 0 = .ok (.iload_n 1, 1) := by decide +kernel
theorem dX3_pass_1 : decode cX3_pass 1 = .ok (.iconst 1, 1) := by decide +kernel
theorem dX3_pass_2 : decode cX3_pass 2 = .ok (.bipush 60, 2) := by decide +kernel
theorem dX3_pass_4 : decode cX3_pass 4 = .ok (.invokestatic 35, 3) := by decide +kernel
theorem dX3_pass_7 : decode cX3_pass 7 = .ok (.ifCond .ne 13, 3) := by decide +kernel
theorem dX3_pass_10 : decode cX3_pass 10 = .ok (.new 39, 3) := by decide +kernel
theorem dX3_pass_13 : decode cX3_pass 13 = .ok (.dup, 1) := by decide +kernel
theorem dX3_pass_14 : decode cX3_pass 14 = .ok (.ldc 149, 2) := by decide +kernel
theorem dX3_pass_16 : decode cX3_pass 16 = .ok (.invokespecial 43, 3) := by decide +kernel
theorem dX3_pass_19 : decode cX3_pass 19 = .ok (.athrow, 1) := by decide +kernel
theorem dX3_pass_20 : decode cX3_pass 20 = .ok (.aload_n 0, 1) := by decide +kernel
theorem dX3_pass_21 : decode cX3_pass 21 = .ok (.getfield 21, 3) := by decide +kernel
theorem dX3_pass_24 : decode cX3_pass 24 = .ok (.getfield 151, 3) := by decide +kernel
theorem dX3_pass_27 : decode cX3_pass 27 = .ok (.iload_n 1, 1) := by decide +kernel
theorem dX3_pass_28 : decode cX3_pass 28 = .ok (.iadd, 1) := by decide +kernel
theorem dX3_pass_29 : decode cX3_pass 29 = .ok (.sipush 2000, 3) := by decide +kernel
theorem dX3_pass_32 : decode cX3_pass 32 = .ok (.if_icmp .le 13, 3) := by decide +kernel
theorem dX3_pass_35 : decode cX3_pass 35 = .ok (.new 129, 3) := by decide +kernel
theorem dX3_pass_38 : decode cX3_pass 38 = .ok (.dup, 1) := by decide +kernel
theorem dX3_pass_39 : decode cX3_pass 39 = .ok (.ldc 154, 2) := by decide +kernel
theorem dX3_pass_41 : decode cX3_pass 41 = .ok (.invokespecial 133, 3) := by decide +kernel
theorem dX3_pass_44 : decode cX3_pass 44 = .ok (.athrow, 1) := by decide +kernel
theorem dX3_pass_45 : decode cX3_pass 45 = .ok (.aload_n 0, 1) := by decide +kernel
theorem dX3_pass_46 : decode cX3_pass 46 = .ok (.getfield 21, 3) := by decide +kernel
theorem dX3_pass_49 : decode cX3_pass 49 = .ok (.iload_n 1, 1) := by decide +kernel
theorem dX3_pass_50 : decode cX3_pass 50 = .ok (.aload_n 0, 1) := by decide +kernel
theorem dX3_pass_51 : decode cX3_pass 51 = .ok (.getfield 10, 3) := by decide +kernel
theorem dX3_pass_54 : decode cX3_pass 54 = .ok (.invokevirtual 156, 3) := by decide +kernel
theorem dX3_pass_57 : decode cX3_pass 57 = .ok (.aload_n 0, 1) := by decide +kernel
theorem dX3_pass_58 : decode cX3_pass 58 = .ok (.getfield 21, 3) := by decide +kernel
theorem dX3_pass_61 : decode cX3_pass 61 = .ok (.invokevirtual 137, 3) := by decide +kernel
theorem dX3_pass_64 : decode cX3_pass 64 = .ok (.ireturn, 1) := by decide +kernel
set_option maxRecDepth 20000 in
theorem ggX3_field_X2_hasField : GoodIn wsX3_field wsX2_hasField := goodIn_r _ [8, 9, 10, 41, 42, 43, 44, 45, 46, 47, 48, 49, 50, 51, 52, 53, 54, 55, 56, 57, 58] (by decide +kernel) (by decide +kernel)
set_option maxRecDepth 20000 in
theorem gX3_field_X2_hasField : GoodIn wsX3_field (wsV RX3 60 RX2 yX2_hasField wsX2_hasField) := goodIn_app (goodIn_of _ (by decide +kernel)) ggX3_field_X2_hasField
set_option maxRecDepth 20000 in
theorem ggX3_field_X3_isWithin : GoodIn wsX3_field wsX3_isWithin := goodIn_r _ [14] (by decide +kernel) (by decide +kernel)
set_option maxRecDepth 20000 in
theorem gX3_field_X3_isWithin : GoodIn wsX3_field (va_wsS RX3 35 yX3_isWithin wsX3_isWithin) := goodIn_app (goodIn_of _ (by decide +kernel)) ggX3_field_X3_isWithin
set_option maxRecDepth 20000 in
theorem ggX3_field_X2_cellOf : GoodIn wsX3_field wsX2_cellOf := goodIn_r _ [18, 10, 41, 42, 43, 44, 45, 46, 47, 48, 49, 50, 51, 52, 53, 54, 55, 56, 57, 58] (by decide +kernel) (by decide +kernel)
set_option maxRecDepth 20000 in
theorem gX3_field_X2_cellOf : GoodIn wsX3_field (wsV RX3 71 RX2 yX2_cellOf wsX2_cellOf) := goodIn_app (goodIn_of _ (by decide +kernel)) ggX3_field_X2_cellOf
set_option maxRecDepth 20000 in
theorem ggX3_field_X2_fieldNumber : GoodIn wsX3_field wsX2_fieldNumber := goodIn_r _ [22, 23, 24, 25, 26, 27, 28, 29, 30, 31, 32, 33, 34, 41, 42, 43, 44, 45, 46, 47, 48, 49, 50, 51, 52, 53, 54, 55, 56, 57, 58] (by decide +kernel) (by decide +kernel)
set_option maxRecDepth 20000 in
theorem gX3_field_X2_fieldNumber : GoodIn wsX3_field (wsV RX3 162 RX2 yX2_fieldNumber wsX2_fieldNumber) := goodIn_app (goodIn_of _ (by decide +kernel)) ggX3_field_X2_fieldNumber
theorem dX3_field_0 : decode cX3_field 0 = .ok (.aload_n 0, 1) := by decide +kernel
theorem dX3_field_1 : decode cX3_field 1 = .ok (.getfield 21, 3) := by decide +kernel
theorem dX3_field_4 : decode cX3_field 4 = .ok (.iload_n 1, 1) := by decide +kernel
theorem dX3_field_5 : decode cX3_field 5 = .ok (.iload_n 2, 1) := by decide +kernel
theorem dX3_field_6 : decode cX3_field 6 = .ok (.invokevirtual 60, 3) := by decide +kernel
theorem dX3_field_9 : decode cX3_field 9 = .ok (.ifCond .eq 13, 3) := by decide +kernel
theorem dX3_field_12 : decode cX3_field 12 = .ok (.iload_n 3, 1) := by decide +kernel
theorem dX3_field_13 : decode cX3_field 13 = .ok (.iconst 0, 1) := by decide +kernel
theorem dX3_field_14 : decode cX3_field 14 = .ok (.bipush 11, 2) := by decide +kernel
theorem dX3_field_16 : decode cX3_field 16 = .ok (.invokestatic 35, 3) := by decide +kernel
theorem dX3_field_19 : decode cX3_field 19 = .ok (.ifCond .ne 13, 3) := by decide +kernel
theorem dX3_field_22 : decode cX3_field 22 = .ok (.new 64, 3) := by decide +kernel
theorem dX3_field_25 : decode cX3_field 25 = .ok (.dup, 1) := by decide +kernel
theorem dX3_field_26 : decode cX3_field 26 = .ok (.ldc 160, 2) := by decide +kernel
theorem dX3_field_28 : decode cX3_field 28 = .ok (.invokespecial 68, 3) := by decide +kernel
theorem dX3_field_31 : decode cX3_field 31 = .ok (.athrow, 1) := by decide +kernel
theorem dX3_field_32 : decode cX3_field 32 = .ok (.aload_n 0, 1) := by decide +kernel
theorem dX3_field_33 : decode cX3_field 33 = .ok (.getfield 21, 3) := by decide +kernel
theorem dX3_field_36 : decode cX3_field 36 = .ok (.aload_n 0, 1) := by decide +kernel
theorem dX3_field_37 : decode cX3_field 37 = .ok (.getfield 21, 3) := by decide +kernel
theorem dX3_field_40 : decode cX3_field 40 = .ok (.iload_n 1, 1) := by decide +kernel
theorem dX3_field_41 : decode cX3_field 41 = .ok (.iload_n 2, 1) := by decide +kernel
theorem dX3_field_42 : decode cX3_field 42 = .ok (.invokevirtual 71, 3) := by decide +kernel
theorem dX3_field_45 : decode cX3_field 45 = .ok (.iload_n 3, 1) := by decide +kernel
theorem dX3_field_46 : decode cX3_field 46 = .ok (.invokevirtual 162, 3) := by decide +kernel
theorem dX3_field_49 : decode cX3_field 49 = .ok (.ireturn, 1) := by decide +kernel
set_option maxRecDepth 20000 in
theorem ggX3_count_X3_isWithin : GoodIn wsX3_count wsX3_isWithin := goodIn_r _ [6] (by decide +kernel) (by decide +kernel)
set_option maxRecDepth 20000 in
theorem gX3_count_X3_isWithin : GoodIn wsX3_count (va_wsS RX3 35 yX3_isWithin wsX3_isWithin) := goodIn_app (goodIn_of _ (by decide +kernel)) ggX3_count_X3_isWithin
set_option maxRecDepth 20000 in
theorem ggX3_count_X3_countNumber : GoodIn wsX3_count wsX3_countNumber := goodIn_r _ [10, 11, 12, 13, 14, 15, 16, 17, 18, 19, 20, 21, 22, 23, 24, 25, 26, 27, 28, 29, 30, 31, 32, 33, 34, 35, 36, 37, 38, 39, 40, 41, 42, 43, 44, 45, 46, 47, 48, 49, 50, 51, 52, 53, 54, 55, 56, 57, 58, 59, 60, 61, 62, 63] (by decide +kernel) (by decide +kernel)
set_option maxRecDepth 20000 in
theorem gX3_count_X3_countNumber : GoodIn wsX3_count (wsV RX3 167 RX3 yX3_countNumber wsX3_countNumber) := goodIn_app (goodIn_of _ (by decide +kernel)) ggX3_count_X3_countNumber
theorem dX3_count_0 : decode cX3_count 0 = .ok (.iload_n 1, 1) := by decide +kernel
theorem dX3_count_1 : decode cX3_count 1 = .ok (.iconst 0, 1) := by decide +kernel
theorem dX3_count_2 : decode cX3_count 2 = .ok (.bipush 8, 2) := by decide +kernel
theorem dX3_count_4 : decode cX3_count 4 = .ok (.invokestatic 35, 3) := by decide +kernel
theorem dX3_count_7 : decode cX3_count 7 = .ok (.ifCond .ne 13, 3) := by decide +kernel
theorem dX3_count_10 : decode cX3_count 10 = .ok (.new 64, 3) := by decide +kernel
theorem dX3_count_13 : decode cX3_count 13 = .ok (.dup, 1) := by decide +kernel
theorem dX3_count_14 : decode cX3_count 14 = .ok (.ldc 165, 2) := by decide +kernel
theorem dX3_count_16 : decode cX3_count 16 = .ok (.invokespecial 68, 3) := by decide +kernel
theorem dX3_count_19 : decode cX3_count 19 = .ok (.athrow, 1) := by decide +kernel
theorem dX3_count_20 : decode cX3_count 20 = .ok (.aload_n 0, 1) := by decide +kernel
theorem dX3_count_21 : decode cX3_count 21 = .ok (.iload_n 1, 1) := by decide +kernel
theorem dX3_count_22 : decode cX3_count 22 = .ok (.invokevirtual 167, 3) := by decide +kernel
theorem dX3_count_25 : decode cX3_count 25 = .ok (.ireturn, 1) := by decide +kernel
set_option maxRecDepth 20000 in
theorem ggX3_foresee_X3_isWithin : GoodIn wsX3_foresee wsX3_isWithin := goodIn_r _ [14] (by decide +kernel) (by decide +kernel)
set_option maxRecDepth 20000 in
theorem gX3_foresee_X3_isWithin : GoodIn wsX3_foresee (va_wsS RX3 35 yX3_isWithin wsX3_isWithin) := goodIn_app (goodIn_of _ (by decide +kernel)) ggX3_foresee_X3_isWithin
set_option maxRecDepth 20000 in
theorem ggX3_foresee_X2_copyFrom : GoodIn wsX3_foresee wsX2_copyFrom := goodIn_r _ [19, 20, 21, 22, 23, 24, 25, 26, 27, 28, 29, 30, 31, 32, 33, 34, 35, 36, 37, 38, 39, 40, 41, 42, 43, 18, 44, 138, 139, 140, 141, 142, 143, 144, 145, 146, 147, 148, 149, 150, 151, 152, 153, 154, 155] (by decide +kernel) (by decide +kernel)
set_option maxRecDepth 20000 in
theorem gX3_foresee_X2_copyFrom : GoodIn wsX3_foresee (wsV RX3 179 RX2 yX2_copyFrom wsX2_copyFrom) := goodIn_app (goodIn_of _ (by decide +kernel)) ggX3_foresee_X2_copyFrom
set_option maxRecDepth 20000 in
theorem ggX3_foresee_X2_letDaysGoBy : GoodIn wsX3_foresee wsX2_letDaysGoBy := goodIn_r _ [48, 22, 49, 50, 51, 52, 53, 54, 18, 55, 30, 56, 57, 58, 59, 20, 21, 60, 61, 62, 63, 25, 64, 65, 66, 67, 68, 69, 70, 71, 33, 72, 73, 74, 75, 76, 77, 78, 40, 34, 31, 41, 79, 80, 81, 82, 83, 84, 85, 86, 23, 87, 88, 89, 90, 91, 92, 93, 94, 32, 95, 96, 97, 98, 35, 99, 100, 101, 102, 36, 38, 39, 24, 37, 103, 104, 105, 106, 107, 108, 109, 110, 12, 13, 14, 138, 139, 140, 141, 142, 143, 144, 145, 146, 147, 148, 149, 150, 151, 152, 153, 154, 155, 156, 157, 158] (by decide +kernel) (by decide +kernel)
set_option maxRecDepth 20000 in
theorem gX3_foresee_X2_letDaysGoBy : GoodIn wsX3_foresee (wsV RX3 156 RX2 yX2_letDaysGoBy wsX2_letDaysGoBy) := goodIn_app (goodIn_of _ (by decide +kernel)) ggX3_foresee_X2_letDaysGoBy
set_option maxRecDepth 20000 in
theorem ggX3_foresee_X3_foreseenNumber : GoodIn wsX3_foresee wsX3_foreseenNumber := goodIn_r _ [114, 9, 115, 7, 116, 117, 118, 18, 119, 35, 120, 121, 122, 123, 56, 57, 58, 59, 20, 21, 124, 125, 126, 127, 37, 128, 129, 130, 131, 30, 132, 133, 134, 135, 136, 137, 138, 139, 140, 141, 142, 143, 144, 145, 146, 147, 148, 149, 150, 151, 152, 153, 154, 155] (by decide +kernel) (by decide +kernel)
set_option maxRecDepth 20000 in
theorem gX3_foresee_X3_foreseenNumber : GoodIn wsX3_foresee (wsV RX3 183 RX3 yX3_foreseenNumber wsX3_foreseenNumber) := goodIn_app (goodIn_of _ (by decide +kernel)) ggX3_foresee_X3_foreseenNumber
theorem dX3_foresee_0 : decode cX3_foresee 0 = .ok (.iload_n 1, 1) := by decide +kernel
theorem dX3_foresee_1 : decode cX3_foresee 1 = .ok (.iconst 1, 1) := by decide +kernel
theorem dX3_foresee_2 : decode cX3_foresee 2 = .ok (.bipush 20, 2) := by decide +kernel
theorem dX3_foresee_4 : decode cX3_foresee 4 = .ok (.invokestatic 35, 3) := by decide +kernel
theorem dX3_foresee_7 : decode cX3_foresee 7 = .ok (.ifCond .ne 13, 3) := by decide +kernel
theorem dX3_foresee_10 : decode cX3_foresee 10 = .ok (.new 39, 3) := by decide +kernel
theorem dX3_foresee_13 : decode cX3_foresee 13 = .ok (.dup, 1) := by decide +kernel
theorem dX3_foresee_14 : decode cX3_foresee 14 = .ok (.ldc 175, 2) := by decide +kernel
theorem dX3_foresee_16 : decode cX3_foresee 16 = .ok (.invokespecial 43, 3) := by decide +kernel
theorem dX3_foresee_19 : decode cX3_foresee 19 = .ok (.athrow, 1) := by decide +kernel
theorem dX3_foresee_20 : decode cX3_foresee 20 = .ok (.iload_n 2, 1) := by decide +kernel
theorem dX3_foresee_21 : decode cX3_foresee 21 = .ok (.iconst 0, 1) := by decide +kernel
theorem dX3_foresee_22 : decode cX3_foresee 22 = .ok (.iconst 3, 1) := by decide +kernel
theorem dX3_foresee_23 : decode cX3_foresee 23 = .ok (.invokestatic 35, 3) := by decide +kernel
theorem dX3_foresee_26 : decode cX3_foresee 26 = .ok (.ifCond .ne 13, 3) := by decide +kernel
theorem dX3_foresee_29 : decode cX3_foresee 29 = .ok (.new 64, 3) := by decide +kernel
theorem dX3_foresee_32 : decode cX3_foresee 32 = .ok (.dup, 1) := by decide +kernel
theorem dX3_foresee_33 : decode cX3_foresee 33 = .ok (.ldc 177, 2) := by decide +kernel
theorem dX3_foresee_35 : decode cX3_foresee 35 = .ok (.invokespecial 68, 3) := by decide +kernel
theorem dX3_foresee_38 : decode cX3_foresee 38 = .ok (.athrow, 1) := by decide +kernel
theorem dX3_foresee_39 : decode cX3_foresee 39 = .ok (.aload_n 0, 1) := by decide +kernel
theorem dX3_foresee_40 : decode cX3_foresee 40 = .ok (.getfield 21, 3) := by decide +kernel
theorem dX3_foresee_43 : decode cX3_foresee 43 = .ok (.getfield 151, 3) := by decide +kernel
theorem dX3_foresee_46 : decode cX3_foresee 46 = .ok (.iload_n 1, 1) := by decide +kernel
theorem dX3_foresee_47 : decode cX3_foresee 47 = .ok (.iadd, 1) := by decide +kernel
theorem dX3_foresee_48 : decode cX3_foresee 48 = .ok (.sipush 2000, 3) := by decide +kernel
theorem dX3_foresee_51 : decode cX3_foresee 51 = .ok (.if_icmp .le 13, 3) := by decide +kernel
theorem dX3_foresee_54 : decode cX3_foresee 54 = .ok (.new 129, 3) := by decide +kernel
theorem dX3_foresee_57 : decode cX3_foresee 57 = .ok (.dup, 1) := by decide +kernel
theorem dX3_foresee_58 : decode cX3_foresee 58 = .ok (.ldc 154, 2) := by decide +kernel
theorem dX3_foresee_60 : decode cX3_foresee 60 = .ok (.invokespecial 133, 3) := by decide +kernel
theorem dX3_foresee_63 : decode cX3_foresee 63 = .ok (.athrow, 1) := by decide +kernel
theorem dX3_foresee_64 : decode cX3_foresee 64 = .ok (.aload_n 0, 1) := by decide +kernel
theorem dX3_foresee_65 : decode cX3_foresee 65 = .ok (.getfield 25, 3) := by decide +kernel
theorem dX3_foresee_68 : decode cX3_foresee 68 = .ok (.aload_n 0, 1) := by decide +kernel
theorem dX3_foresee_69 : decode cX3_foresee 69 = .ok (.getfield 21, 3) := by decide +kernel
theorem dX3_foresee_72 : decode cX3_foresee 72 = .ok (.invokevirtual 179, 3) := by decide +kernel
theorem dX3_foresee_75 : decode cX3_foresee 75 = .ok (.aload_n 0, 1) := by decide +kernel
theorem dX3_foresee_76 : decode cX3_foresee 76 = .ok (.getfield 25, 3) := by decide +kernel
theorem dX3_foresee_79 : decode cX3_foresee 79 = .ok (.iload_n 1, 1) := by decide +kernel
theorem dX3_foresee_80 : decode cX3_foresee 80 = .ok (.aload_n 0, 1) := by decide +kernel
theorem dX3_foresee_81 : decode cX3_foresee 81 = .ok (.getfield 10, 3) := by decide +kernel
theorem dX3_foresee_84 : decode cX3_foresee 84 = .ok (.invokevirtual 156, 3) := by decide +kernel
theorem dX3_foresee_87 : decode cX3_foresee 87 = .ok (.aload_n 0, 1) := by decide +kernel
theorem dX3_foresee_88 : decode cX3_foresee 88 = .ok (.iload_n 2, 1) := by decide +kernel
theorem dX3_foresee_89 : decode cX3_foresee 89 = .ok (.invokevirtual 183, 3) := by decide +kernel
theorem dX3_foresee_92 : decode cX3_foresee 92 = .ok (.ireturn, 1) := by decide +kernel
set_option maxRecDepth 20000 in
theorem ggX3_depth_X2_cells : GoodIn wsX3_depth wsX2_cells := goodIn_r _ [6, 7, 8, 25, 26, 27, 28, 29, 30, 31, 32, 33, 34, 35, 36, 37, 38, 39, 40, 41, 42] (by decide +kernel) (by decide +kernel)
set_option maxRecDepth 20000 in
theorem gX3_depth_X2_cells : GoodIn wsX3_depth (wsV RX3 56 RX2 yX2_cells wsX2_cells) := goodIn_app (goodIn_of _ (by decide +kernel)) ggX3_depth_X2_cells
set_option maxRecDepth 20000 in
theorem ggX3_depth_X2_allDepths : GoodIn wsX3_depth wsX2_allDepths := goodIn_r _ [12, 13, 14, 15, 16, 5, 17, 18, 3, 4, 6, 7, 8, 25, 26, 27, 28, 29, 30, 31, 32, 33, 34, 35, 36, 37, 38, 39, 40, 41, 42] (by decide +kernel) (by decide +kernel)
set_option maxRecDepth 20000 in
theorem gX3_depth_X2_allDepths : GoodIn wsX3_depth (wsV RX3 196 RX2 yX2_allDepths wsX2_allDepths) := goodIn_app (goodIn_of _ (by decide +kernel)) ggX3_depth_X2_allDepths
theorem dX3_depth_0 : decode cX3_depth 0 = .ok (.aload_n 0, 1) := by decide +kernel
theorem dX3_depth_1 : decode cX3_depth 1 = .ok (.getfield 21, 3) := by decide +kernel
theorem dX3_depth_4 : decode cX3_depth 4 = .ok (.invokevirtual 56, 3) := by decide +kernel
theorem dX3_depth_7 : decode cX3_depth 7 = .ok (.istore_n 1, 1) := by decide +kernel
theorem dX3_depth_8 : decode cX3_depth 8 = .ok (.iload_n 1, 1) := by decide +kernel
theorem dX3_depth_9 : decode cX3_depth 9 = .ok (.iconst 1, 1) := by decide +kernel
theorem dX3_depth_10 : decode cX3_depth 10 = .ok (.if_icmp .ge 7, 3) := by decide +kernel
theorem dX3_depth_13 : decode cX3_depth 13 = .ok (.dconst 0, 1) := by decide +kernel
theorem dX3_depth_14 : decode cX3_depth 14 = .ok (.goto 14, 3) := by decide +kernel
theorem dX3_depth_17 : decode cX3_depth 17 = .ok (.aload_n 0, 1) := by decide +kernel
theorem dX3_depth_18 : decode cX3_depth 18 = .ok (.getfield 21, 3) := by decide +kernel
theorem dX3_depth_21 : decode cX3_depth 21 = .ok (.invokevirtual 196, 3) := by decide +kernel
theorem dX3_depth_24 : decode cX3_depth 24 = .ok (.i2d, 1) := by decide +kernel
theorem dX3_depth_25 : decode cX3_depth 25 = .ok (.iload_n 1, 1) := by decide +kernel
theorem dX3_depth_26 : decode cX3_depth 26 = .ok (.i2d, 1) := by decide +kernel
theorem dX3_depth_27 : decode cX3_depth 27 = .ok (.ddiv, 1) := by decide +kernel
theorem dX3_depth_28 : decode cX3_depth 28 = .ok (.dreturn, 1) := by decide +kernel
theorem dX3_isWithin_0 : decode cX3_isWithin 0 = .ok (.iload_n 0, 1) := by decide +kernel
theorem dX3_isWithin_1 : decode cX3_isWithin 1 = .ok (.iload_n 1, 1) := by decide +kernel
theorem dX3_isWithin_2 : decode cX3_isWithin 2 = .ok (.if_icmp .lt 12, 3) := by decide +kernel
theorem dX3_isWithin_5 : decode cX3_isWithin 5 = .ok (.iload_n 0, 1) := by decide +kernel
theorem dX3_isWithin_6 : decode cX3_isWithin 6 = .ok (.iload_n 2, 1) := by decide +kernel
theorem dX3_isWithin_7 : decode cX3_isWithin 7 = .ok (.if_icmp .gt 7, 3) := by decide +kernel
theorem dX3_isWithin_10 : decode cX3_isWithin 10 = .ok (.iconst 1, 1) := by decide +kernel
theorem dX3_isWithin_11 : decode cX3_isWithin 11 = .ok (.goto 4, 3) := by decide +kernel
theorem dX3_isWithin_14 : decode cX3_isWithin 14 = .ok (.iconst 0, 1) := by decide +kernel
theorem dX3_isWithin_15 : decode cX3_isWithin 15 = .ok (.ireturn, 1) := by decide +kernel
set_option maxRecDepth 20000 in
theorem ggX3_countNumber_X2_crops : GoodIn wsX3_countNumber wsX2_crops := goodIn_r _ [13, 14, 15, 16, 17, 12, 18, 19, 20, 21, 22, 23, 24, 36, 37, 38, 39, 40, 41, 42, 43, 44, 45, 46, 47, 48, 49, 50, 51, 52, 53] (by decide +kernel) (by decide +kernel)
set_option maxRecDepth 20000 in
theorem gX3_countNumber_X2_crops : GoodIn wsX3_countNumber (wsV RX3 137 RX2 yX2_crops wsX2_crops) := goodIn_app (goodIn_of _ (by decide +kernel)) ggX3_countNumber_X2_crops
set_option maxRecDepth 20000 in
theorem ggX3_countNumber_X2_allDepths : GoodIn wsX3_countNumber wsX2_allDepths := goodIn_r _ [28, 29, 15, 16, 17, 12, 18, 19, 20, 21, 22, 23, 24, 36, 37, 38, 39, 40, 41, 42, 43, 44, 45, 46, 47, 48, 49, 50, 51, 52, 53] (by decide +kernel) (by decide +kernel)
set_option maxRecDepth 20000 in
theorem gX3_countNumber_X2_allDepths : GoodIn wsX3_countNumber (wsV RX3 196 RX2 yX2_allDepths wsX2_allDepths) := goodIn_app (goodIn_of _ (by decide +kernel)) ggX3_countNumber_X2_allDepths
theorem dX3_countNumber_0 : decode cX3_countNumber 0 = .ok (.iload_n 1, 1) := by decide +kernel
theorem dX3_countNumber_1 : decode cX3_countNumber 1 = .ok (.tableswitch 108 0 7 #[47, 55, 63, 71, 79, 87, 95, 100], 47) := by decide +kernel
theorem dX3_countNumber_48 : decode cX3_countNumber 48 = .ok (.aload_n 0, 1) := by decide +kernel
theorem dX3_countNumber_49 : decode cX3_countNumber 49 = .ok (.getfield 21, 3) := by decide +kernel
theorem dX3_countNumber_52 : decode cX3_countNumber 52 = .ok (.getfield 206, 3) := by decide +kernel
theorem dX3_countNumber_55 : decode cX3_countNumber 55 = .ok (.ireturn, 1) := by decide +kernel
theorem dX3_countNumber_56 : decode cX3_countNumber 56 = .ok (.aload_n 0, 1) := by decide +kernel
theorem dX3_countNumber_57 : decode cX3_countNumber 57 = .ok (.getfield 21, 3) := by decide +kernel
theorem dX3_countNumber_60 : decode cX3_countNumber 60 = .ok (.getfield 203, 3) := by decide +kernel
theorem dX3_countNumber_63 : decode cX3_countNumber 63 = .ok (.ireturn, 1) := by decide +kernel
theorem dX3_countNumber_64 : decode cX3_countNumber 64 = .ok (.aload_n 0, 1) := by decide +kernel
theorem dX3_countNumber_65 : decode cX3_countNumber 65 = .ok (.getfield 21, 3) := by decide +kernel
theorem dX3_countNumber_68 : decode cX3_countNumber 68 = .ok (.getfield 151, 3) := by decide +kernel
theorem dX3_countNumber_71 : decode cX3_countNumber 71 = .ok (.ireturn, 1) := by decide +kernel
theorem dX3_countNumber_72 : decode cX3_countNumber 72 = .ok (.aload_n 0, 1) := by decide +kernel
theorem dX3_countNumber_73 : decode cX3_countNumber 73 = .ok (.getfield 21, 3) := by decide +kernel
theorem dX3_countNumber_76 : decode cX3_countNumber 76 = .ok (.invokevirtual 137, 3) := by decide +kernel
theorem dX3_countNumber_79 : decode cX3_countNumber 79 = .ok (.ireturn, 1) := by decide +kernel
theorem dX3_countNumber_80 : decode cX3_countNumber 80 = .ok (.aload_n 0, 1) := by decide +kernel
theorem dX3_countNumber_81 : decode cX3_countNumber 81 = .ok (.getfield 21, 3) := by decide +kernel
theorem dX3_countNumber_84 : decode cX3_countNumber 84 = .ok (.invokevirtual 196, 3) := by decide +kernel
theorem dX3_countNumber_87 : decode cX3_countNumber 87 = .ok (.ireturn, 1) := by decide +kernel
theorem dX3_countNumber_88 : decode cX3_countNumber 88 = .ok (.aload_n 0, 1) := by decide +kernel
theorem dX3_countNumber_89 : decode cX3_countNumber 89 = .ok (.getfield 21, 3) := by decide +kernel
theorem dX3_countNumber_92 : decode cX3_countNumber 92 = .ok (.getfield 209, 3) := by decide +kernel
theorem dX3_countNumber_95 : decode cX3_countNumber 95 = .ok (.ireturn, 1) := by decide +kernel
theorem dX3_countNumber_96 : decode cX3_countNumber 96 = .ok (.aload_n 0, 1) := by decide +kernel
theorem dX3_countNumber_97 : decode cX3_countNumber 97 = .ok (.getfield 49, 3) := by decide +kernel
theorem dX3_countNumber_100 : decode cX3_countNumber 100 = .ok (.ireturn, 1) := by decide +kernel
theorem dX3_countNumber_101 : decode cX3_countNumber 101 = .ok (.aload_n 0, 1) := by decide +kernel
theorem dX3_countNumber_102 : decode cX3_countNumber 102 = .ok (.getfield 21, 3) := by decide +kernel
theorem dX3_countNumber_105 : decode cX3_countNumber 105 = .ok (.getfield 212, 3) := by decide +kernel
theorem dX3_countNumber_108 : decode cX3_countNumber 108 = .ok (.ireturn, 1) := by decide +kernel
theorem dX3_countNumber_109 : decode cX3_countNumber 109 = .ok (.aload_n 0, 1) := by decide +kernel
theorem dX3_countNumber_110 : decode cX3_countNumber 110 = .ok (.getfield 53, 3) := by decide +kernel
theorem dX3_countNumber_113 : decode cX3_countNumber 113 = .ok (.ireturn, 1) := by decide +kernel
set_option maxRecDepth 20000 in
theorem ggX3_foreseenNumber_X2_crops : GoodIn wsX3_foreseenNumber wsX2_crops := goodIn_r _ [8, 9, 10, 11, 12, 7, 13, 14, 15, 16, 17, 18, 19, 36, 37, 38, 39, 40, 41, 42, 43, 44, 45, 46, 47, 48, 49, 50, 51, 52, 53] (by decide +kernel) (by decide +kernel)
set_option maxRecDepth 20000 in
theorem gX3_foreseenNumber_X2_crops : GoodIn wsX3_foreseenNumber (wsV RX3 137 RX2 yX2_crops wsX2_crops) := goodIn_app (goodIn_of _ (by decide +kernel)) ggX3_foreseenNumber_X2_crops
set_option maxRecDepth 20000 in
theorem ggX3_foreseenNumber_X2_allHardness : GoodIn wsX3_foreseenNumber wsX2_allHardness := goodIn_r _ [23, 24, 10, 11, 12, 7, 13, 14, 15, 16, 17, 18, 19, 36, 37, 38, 39, 40, 41, 42, 43, 44, 45, 46, 47, 48, 49, 50, 51, 52, 53] (by decide +kernel) (by decide +kernel)
set_option maxRecDepth 20000 in
theorem gX3_foreseenNumber_X2_allHardness : GoodIn wsX3_foreseenNumber (wsV RX3 215 RX2 yX2_allHardness wsX2_allHardness) := goodIn_app (goodIn_of _ (by decide +kernel)) ggX3_foreseenNumber_X2_allHardness
set_option maxRecDepth 20000 in
theorem ggX3_foreseenNumber_X2_allDepths : GoodIn wsX3_foreseenNumber wsX2_allDepths := goodIn_r _ [28, 29, 10, 11, 12, 7, 13, 14, 15, 16, 17, 18, 19, 36, 37, 38, 39, 40, 41, 42, 43, 44, 45, 46, 47, 48, 49, 50, 51, 52, 53] (by decide +kernel) (by decide +kernel)
set_option maxRecDepth 20000 in
theorem gX3_foreseenNumber_X2_allDepths : GoodIn wsX3_foreseenNumber (wsV RX3 196 RX2 yX2_allDepths wsX2_allDepths) := goodIn_app (goodIn_of _ (by decide +kernel)) ggX3_foreseenNumber_X2_allDepths
theorem dX3_foreseenNumber_0 : decode cX3_foreseenNumber 0 = .ok (.iload_n 1, 1) := by decide +kernel
theorem dX3_foreseenNumber_1 : decode cX3_foreseenNumber 1 = .ok (.tableswitch 59 0 2 #[27, 35, 43], 27) := by decide +kernel
theorem dX3_foreseenNumber_28 : decode cX3_foreseenNumber 28 = .ok (.aload_n 0, 1) := by decide +kernel
theorem dX3_foreseenNumber_29 : decode cX3_foreseenNumber 29 = .ok (.getfield 25, 3) := by decide +kernel
theorem dX3_foreseenNumber_32 : decode cX3_foreseenNumber 32 = .ok (.invokevirtual 137, 3) := by decide +kernel
theorem dX3_foreseenNumber_35 : decode cX3_foreseenNumber 35 = .ok (.ireturn, 1) := by decide +kernel
theorem dX3_foreseenNumber_36 : decode cX3_foreseenNumber 36 = .ok (.aload_n 0, 1) := by decide +kernel
theorem dX3_foreseenNumber_37 : decode cX3_foreseenNumber 37 = .ok (.getfield 25, 3) := by decide +kernel
theorem dX3_foreseenNumber_40 : decode cX3_foreseenNumber 40 = .ok (.invokevirtual 215, 3) := by decide +kernel
theorem dX3_foreseenNumber_43 : decode cX3_foreseenNumber 43 = .ok (.ireturn, 1) := by decide +kernel
theorem dX3_foreseenNumber_44 : decode cX3_foreseenNumber 44 = .ok (.aload_n 0, 1) := by decide +kernel
theorem dX3_foreseenNumber_45 : decode cX3_foreseenNumber 45 = .ok (.getfield 25, 3) := by decide +kernel
theorem dX3_foreseenNumber_48 : decode cX3_foreseenNumber 48 = .ok (.getfield 209, 3) := by decide +kernel
theorem dX3_foreseenNumber_51 : decode cX3_foreseenNumber 51 = .ok (.aload_n 0, 1) := by decide +kernel
theorem dX3_foreseenNumber_52 : decode cX3_foreseenNumber 52 = .ok (.getfield 21, 3) := by decide +kernel
theorem dX3_foreseenNumber_55 : decode cX3_foreseenNumber 55 = .ok (.getfield 209, 3) := by decide +kernel
theorem dX3_foreseenNumber_58 : decode cX3_foreseenNumber 58 = .ok (.isub, 1) := by decide +kernel
theorem dX3_foreseenNumber_59 : decode cX3_foreseenNumber 59 = .ok (.ireturn, 1) := by decide +kernel
theorem dX3_foreseenNumber_60 : decode cX3_foreseenNumber 60 = .ok (.aload_n 0, 1) := by decide +kernel
theorem dX3_foreseenNumber_61 : decode cX3_foreseenNumber 61 = .ok (.getfield 25, 3) := by decide +kernel
theorem dX3_foreseenNumber_64 : decode cX3_foreseenNumber 64 = .ok (.invokevirtual 196, 3) := by decide +kernel
theorem dX3_foreseenNumber_67 : decode cX3_foreseenNumber 67 = .ok (.ireturn, 1) := by decide +kernel
