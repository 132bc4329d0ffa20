set_option maxRecDepth 20000 in
theorem ggL_law_X3_init : GoodIn wsL_law wsX3_init := goodIn_r _ [9, 10, 11, 12, 13, 14, 15, 16, 17, 18, 19, 20, 21, 22, 23, 24, 25, 26, 27, 28, 29, 30, 31, 32, 33, 34, 35, 36, 37, 38, 39, 40, 41, 42, 43, 44, 45, 46, 47, 48, 49, 50, 51, 52, 53, 54, 55, 56, 57, 58, 59, 60, 61, 62, 63, 64, 65, 66, 67, 68, 69, 70, 71, 516, 517, 518, 503, 504, 505, 506, 507, 508, 519, 520, 521, 522, 523, 524, 525, 526, 527, 528, 529, 530, 531, 532, 533, 534, 535, 536, 537, 538, 539, 540, 541] (by decide +kernel) (by decide +kernel)
set_option maxRecDepth 20000 in
theorem gL_law_X3_init : GoodIn wsL_law (wsX3_init) := ggL_law_X3_init
set_option maxRecDepth 20000 in
theorem ggL_law_X4_init : GoodIn wsL_law wsX4_init := goodIn_r _ [74, 75, 11, 12, 30, 76, 77, 78, 79, 80, 81, 82, 83, 84, 5, 85, 86, 87, 88, 89, 509, 510, 511, 512, 513, 514, 515] (by decide +kernel) (by decide +kernel)
set_option maxRecDepth 20000 in
theorem gL_law_X4_init : GoodIn wsL_law (wsX4_init) := ggL_law_X4_init
set_option maxRecDepth 20000 in
theorem ggL_law_L_lay : GoodIn wsL_law wsL_lay := goodIn_ca (goodIn_r _ [93, 94, 95, 96, 97, 2, 98, 99, 100, 20, 101, 102, 103, 104, 105, 106, 56, 57, 19, 58, 59, 60, 61, 62, 63, 42, 43, 44, 45, 46, 47, 53, 54, 64, 35, 36, 37, 65, 66, 67, 68, 48, 49, 50, 51, 52, 107, 108, 109, 110, 503, 504, 505, 506, 507, 508, 519, 520, 521, 522, 523, 524, 525, 526, 527, 528, 529, 530, 531, 532, 533, 534, 535, 536] (by decide +kernel) (by decide +kernel)) (goodIn_sub (fun _ h => List.mem_append_left _ (List.mem_append_left _ (List.mem_append_right _ h))) (by decide +kernel))
set_option maxRecDepth 20000 in
theorem gL_law_L_lay : GoodIn wsL_law (va_wsS RL 65 yL_lay wsL_lay) := goodIn_app (goodIn_of _ (by decide +kernel)) ggL_law_L_lay
set_option maxRecDepth 20000 in
theorem ggL_law_X4_lay : GoodIn wsL_law wsX4_lay := goodIn_r _ [114, 115, 116, 117, 5, 118, 119, 120, 121, 122, 82, 83, 84, 85, 76, 77, 30, 78, 86, 87, 88, 89, 509, 510, 511, 512, 513, 514, 515] (by decide +kernel) (by decide +kernel)
set_option maxRecDepth 20000 in
theorem gL_law_X4_lay : GoodIn wsL_law (wsV RL 70 RX4 yX4_lay wsX4_lay) := goodIn_app (goodIn_of _ (by decide +kernel)) ggL_law_X4_lay
set_option maxRecDepth 20000 in
theorem ggL_law_X4_thrown : GoodIn wsL_law wsX4_thrown := goodIn_r _ [126, 115, 509, 510, 511, 512, 513, 514, 515] (by decide +kernel) (by decide +kernel)
set_option maxRecDepth 20000 in
theorem gL_law_X4_thrown : GoodIn wsL_law (wsV RL 71 RX4 yX4_thrown wsX4_thrown) := goodIn_app (goodIn_of _ (by decide +kernel)) ggL_law_X4_thrown
set_option maxRecDepth 20000 in
theorem ggL_law_L_setField : GoodIn wsL_law wsL_setField := goodIn_ca (goodIn_ca (goodIn_r _ [129, 130, 94, 131, 132, 133, 2, 134, 135, 136, 99, 100, 20, 137, 138, 139, 140, 141, 142, 143, 144, 145, 146, 19, 147, 59, 60, 103, 104, 105, 148, 149, 150, 151, 503, 504, 505, 506, 507, 508, 519, 520, 521, 522, 523, 524, 525, 526, 527, 528, 529, 530, 531, 532, 533, 534, 535, 536] (by decide +kernel) (by decide +kernel)) (goodIn_sub (fun _ h => List.mem_append_left _ (List.mem_append_right _ h)) (by decide +kernel))) (goodIn_sub (fun _ h => List.mem_append_left _ (List.mem_append_left _ (List.mem_append_right _ h))) (by decide +kernel))
set_option maxRecDepth 20000 in
theorem gL_law_L_setField : GoodIn wsL_law (va_wsS RL 75 yL_setField wsL_setField) := goodIn_app (goodIn_of _ (by decide +kernel)) ggL_law_L_setField
set_option maxRecDepth 20000 in
theorem ggL_law_X4_setField : GoodIn wsL_law wsX4_setField := goodIn_r _ [155, 115, 78, 156, 141, 142, 143, 157, 158, 159, 5, 160, 76, 116, 117, 118, 119, 120, 121, 122, 161, 162, 163, 164, 165, 166, 167, 168, 509, 510, 511, 512, 513, 514, 515] (by decide +kernel) (by decide +kernel)
set_option maxRecDepth 20000 in
theorem gL_law_X4_setField : GoodIn wsL_law (wsV RL 78 RX4 yX4_setField wsX4_setField) := goodIn_app (goodIn_of _ (by decide +kernel)) ggL_law_X4_setField
set_option maxRecDepth 20000 in
theorem ggL_law_L_moveStone : GoodIn wsL_law wsL_moveStone := goodIn_ca (goodIn_ca (goodIn_r _ [171, 130, 94, 172, 173, 174, 2, 175, 135, 136, 99, 100, 20, 137, 139, 102, 176, 177, 142, 178, 144, 145, 146, 19, 147, 59, 60, 148, 149, 150, 151, 103, 104, 105, 503, 504, 505, 506, 507, 508, 519, 520, 521, 522, 523, 524, 525, 526, 527, 528, 529, 530, 531, 532, 533, 534, 535, 536] (by decide +kernel) (by decide +kernel)) (goodIn_sub (fun _ h => List.mem_append_left _ (List.mem_append_right _ h)) (by decide +kernel))) (goodIn_sub (fun _ h => List.mem_append_left _ (List.mem_append_left _ (List.mem_append_right _ h))) (by decide +kernel))
set_option maxRecDepth 20000 in
theorem gL_law_L_moveStone : GoodIn wsL_law (va_wsS RL 79 yL_moveStone wsL_moveStone) := goodIn_app (goodIn_of _ (by decide +kernel)) ggL_law_L_moveStone
set_option maxRecDepth 20000 in
theorem ggL_law_X4_moveStone : GoodIn wsL_law wsX4_moveStone := goodIn_r _ [182, 115, 78, 76, 183, 177, 142, 178, 157, 158, 159, 5, 160, 116, 117, 118, 119, 120, 121, 122, 161, 162, 163, 164, 165, 166, 167, 168, 509, 510, 511, 512, 513, 514, 515] (by decide +kernel) (by decide +kernel)
set_option maxRecDepth 20000 in
theorem gL_law_X4_moveStone : GoodIn wsL_law (wsV RL 82 RX4 yX4_moveStone wsX4_moveStone) := goodIn_app (goodIn_of _ (by decide +kernel)) ggL_law_X4_moveStone
set_option maxRecDepth 20000 in
theorem ggL_law_L_turn : GoodIn wsL_law wsL_turn := goodIn_ca (goodIn_ca (goodIn_r _ [186, 130, 94, 187, 188, 189, 2, 190, 135, 136, 99, 100, 20, 191, 144, 145, 146, 19, 147, 59, 60, 103, 104, 105, 148, 149, 150, 151, 503, 504, 505, 506, 507, 508, 519, 520, 521, 522, 523, 524, 525, 526, 527, 528, 529, 530, 531, 532, 533, 534, 535, 536] (by decide +kernel) (by decide +kernel)) (goodIn_sub (fun _ h => List.mem_append_left _ (List.mem_append_right _ h)) (by decide +kernel))) (goodIn_sub (fun _ h => List.mem_append_left _ (List.mem_append_left _ (List.mem_append_right _ h))) (by decide +kernel))
set_option maxRecDepth 20000 in
theorem gL_law_L_turn : GoodIn wsL_law (va_wsS RL 83 yL_turn wsL_turn) := goodIn_app (goodIn_of _ (by decide +kernel)) ggL_law_L_turn
set_option maxRecDepth 20000 in
theorem ggL_law_X4_turn : GoodIn wsL_law wsX4_turn := goodIn_r _ [195, 115, 157, 158, 159, 5, 160, 76, 116, 117, 118, 119, 120, 121, 122, 161, 162, 163, 164, 165, 166, 167, 168, 78, 509, 510, 511, 512, 513, 514, 515] (by decide +kernel) (by decide +kernel)
set_option maxRecDepth 20000 in
theorem gL_law_X4_turn : GoodIn wsL_law (wsV RL 85 RX4 yX4_turn wsX4_turn) := goodIn_app (goodIn_of _ (by decide +kernel)) ggL_law_X4_turn
set_option maxRecDepth 20000 in
theorem ggL_law_L_setShare : GoodIn wsL_law wsL_setShare := goodIn_ca (goodIn_ca (goodIn_r _ [198, 130, 94, 199, 200, 201, 2, 202, 135, 136, 99, 100, 20, 203, 144, 145, 146, 19, 147, 59, 60, 103, 104, 105, 503, 504, 505, 506, 507, 508, 519, 520, 521, 522, 523, 524, 525, 526, 527, 528, 529, 530, 531, 532, 533, 534, 535, 536] (by decide +kernel) (by decide +kernel)) (goodIn_sub (fun _ h => List.mem_append_left _ (List.mem_append_right _ h)) (by decide +kernel))) (goodIn_sub (fun _ h => List.mem_append_left _ (List.mem_append_left _ (List.mem_append_right _ h))) (by decide +kernel))
set_option maxRecDepth 20000 in
theorem gL_law_L_setShare : GoodIn wsL_law (va_wsS RL 86 yL_setShare wsL_setShare) := goodIn_app (goodIn_of _ (by decide +kernel)) ggL_law_L_setShare
