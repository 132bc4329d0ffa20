set_option maxRecDepth 20000 in
theorem ggL_law_X4_setShare : GoodIn wsL_law wsX4_setShare := goodIn_r _ [207, 115, 76, 77, 116, 117, 5, 118, 119, 120, 121, 122, 509, 510, 511, 512, 513, 514, 515] (by decide +kernel) (by decide +kernel)
set_option maxRecDepth 20000 in
theorem gL_law_X4_setShare : GoodIn wsL_law (wsV RL 88 RX4 yX4_setShare wsX4_setShare) := goodIn_app (goodIn_of _ (by decide +kernel)) ggL_law_X4_setShare
set_option maxRecDepth 20000 in
theorem ggL_law_L_setDay : GoodIn wsL_law wsL_setDay := goodIn_ca (goodIn_ca (goodIn_r _ [210, 130, 94, 211, 212, 213, 2, 214, 135, 136, 99, 100, 16, 215, 216, 217, 103, 104, 105, 503, 504, 505, 506, 507, 508, 516, 517, 518] (by decide +kernel) (by decide +kernel)) (goodIn_sub (fun _ h => List.mem_append_left _ (List.mem_append_right _ h)) (by decide +kernel))) (goodIn_sub (fun _ h => List.mem_append_left _ (List.mem_append_left _ (List.mem_append_right _ h))) (by decide +kernel))
set_option maxRecDepth 20000 in
theorem gL_law_L_setDay : GoodIn wsL_law (va_wsS RL 89 yL_setDay wsL_setDay) := goodIn_app (goodIn_of _ (by decide +kernel)) ggL_law_L_setDay
set_option maxRecDepth 20000 in
theorem ggL_law_X4_setDay : GoodIn wsL_law wsX4_setDay := goodIn_r _ [221, 115, 79, 30, 86, 87, 88, 89, 116, 117, 5, 118, 119, 120, 121, 122, 509, 510, 511, 512, 513, 514, 515] (by decide +kernel) (by decide +kernel)
set_option maxRecDepth 20000 in
theorem gL_law_X4_setDay : GoodIn wsL_law (wsV RL 91 RX4 yX4_setDay wsX4_setDay) := goodIn_app (goodIn_of _ (by decide +kernel)) ggL_law_X4_setDay
set_option maxRecDepth 20000 in
theorem ggL_law_L_plant : GoodIn wsL_law wsL_plant := goodIn_ca (goodIn_ca (goodIn_ca (goodIn_r _ [224, 130, 94, 225, 226, 227, 228, 2, 229, 135, 136, 99, 100, 230, 231, 20, 232, 233, 234, 144, 145, 146, 19, 147, 59, 60, 103, 104, 105, 148, 149, 150, 151, 235, 236, 237, 238, 48, 239, 240, 241, 242, 243, 108, 109, 110, 503, 504, 505, 506, 507, 508, 519, 520, 521, 522, 523, 524, 525, 526, 527, 528, 529, 530, 531, 532, 533, 534, 535, 536] (by decide +kernel) (by decide +kernel)) (goodIn_sub (fun _ h => List.mem_append_left _ (List.mem_append_right _ h)) (by decide +kernel))) (goodIn_sub (fun _ h => List.mem_append_left _ (List.mem_append_left _ (List.mem_append_right _ h))) (by decide +kernel))) (goodIn_sub (fun _ h => List.mem_append_right _ h) (by decide +kernel))
set_option maxRecDepth 20000 in
theorem gL_law_L_plant : GoodIn wsL_law (va_wsS RL 92 yL_plant wsL_plant) := goodIn_app (goodIn_of _ (by decide +kernel)) ggL_law_L_plant
set_option maxRecDepth 20000 in
theorem ggL_law_X4_plant : GoodIn wsL_law wsX4_plant := goodIn_r _ [247, 115, 78, 157, 158, 159, 5, 160, 76, 116, 117, 118, 119, 120, 121, 122, 161, 162, 163, 164, 248, 249, 250, 251, 252, 253, 254, 255, 509, 510, 511, 512, 513, 514, 515] (by decide +kernel) (by decide +kernel)
set_option maxRecDepth 20000 in
theorem gL_law_X4_plant : GoodIn wsL_law (wsV RL 94 RX4 yX4_plant wsX4_plant) := goodIn_app (goodIn_of _ (by decide +kernel)) ggL_law_X4_plant
set_option maxRecDepth 20000 in
theorem ggL_law_L_reap : GoodIn wsL_law wsL_reap := goodIn_ca (goodIn_ca (goodIn_r _ [258, 130, 225, 259, 260, 261, 2, 262, 135, 136, 230, 231, 20, 232, 234, 263, 233, 101, 144, 145, 146, 19, 147, 59, 60, 148, 149, 150, 151, 264, 66, 67, 68, 48, 49, 50, 51, 52, 503, 504, 505, 506, 507, 508, 519, 520, 521, 522, 523, 524, 525, 526, 527, 528, 529, 530, 531, 532, 533, 534, 535, 536] (by decide +kernel) (by decide +kernel)) (goodIn_sub (fun _ h => List.mem_append_left _ (List.mem_append_right _ h)) (by decide +kernel))) (goodIn_sub (fun _ h => List.mem_append_right _ h) (by decide +kernel))
set_option maxRecDepth 20000 in
theorem gL_law_L_reap : GoodIn wsL_law (va_wsS RL 95 yL_reap wsL_reap) := goodIn_app (goodIn_of _ (by decide +kernel)) ggL_law_L_reap
set_option maxRecDepth 20000 in
theorem ggL_law_X4_reap : GoodIn wsL_law wsX4_reap := goodIn_r _ [268, 115, 78, 76, 157, 158, 159, 5, 160, 116, 117, 118, 119, 120, 121, 122, 161, 162, 163, 164, 269, 270, 271, 272, 509, 510, 511, 512, 513, 514, 515] (by decide +kernel) (by decide +kernel)
set_option maxRecDepth 20000 in
theorem gL_law_X4_reap : GoodIn wsL_law (wsV RL 97 RX4 yX4_reap wsX4_reap) := goodIn_app (goodIn_of _ (by decide +kernel)) ggL_law_X4_reap
set_option maxRecDepth 20000 in
theorem ggL_law_L_pass : GoodIn wsL_law wsL_pass := goodIn_ca (goodIn_ca (goodIn_r _ [275, 94, 225, 276, 277, 278, 2, 279, 99, 100, 230, 231, 20, 280, 16, 103, 104, 105, 281, 282, 283, 19, 284, 61, 285, 286, 287, 288, 289, 290, 291, 43, 243, 108, 109, 110, 59, 60, 292, 293, 294, 295, 42, 296, 297, 298, 299, 300, 301, 302, 303, 46, 304, 305, 142, 306, 307, 141, 143, 53, 47, 44, 54, 308, 149, 150, 151, 309, 310, 311, 312, 62, 313, 145, 146, 147, 314, 315, 316, 317, 45, 318, 319, 320, 321, 48, 322, 323, 324, 325, 49, 51, 52, 63, 50, 65, 66, 67, 68, 326, 327, 328, 329, 235, 236, 237, 238, 239, 240, 241, 242, 503, 504, 505, 506, 507, 508, 519, 520, 521, 522, 523, 524, 525, 526, 527, 528, 529, 530, 531, 532, 533, 534, 535, 536, 516, 517, 518] (by decide +kernel) (by decide +kernel)) (goodIn_sub (fun _ h => List.mem_append_left _ (List.mem_append_left _ (List.mem_append_right _ h))) (by decide +kernel))) (goodIn_sub (fun _ h => List.mem_append_right _ h) (by decide +kernel))
set_option maxRecDepth 20000 in
theorem gL_law_L_pass : GoodIn wsL_law (va_wsS RL 98 yL_pass wsL_pass) := goodIn_app (goodIn_of _ (by decide +kernel)) ggL_law_L_pass
set_option maxRecDepth 20000 in
theorem ggL_law_X4_pass : GoodIn wsL_law wsX4_pass := goodIn_r _ [333, 115, 76, 116, 117, 5, 118, 119, 120, 121, 122, 334, 335, 336, 337, 77, 78, 79, 338, 305, 142, 306, 156, 141, 143, 252, 253, 254, 255, 339, 340, 341, 342, 161, 162, 163, 164, 343, 344, 345, 346, 157, 158, 159, 160, 347, 348, 349, 350, 269, 270, 271, 272, 248, 249, 250, 251, 509, 510, 511, 512, 513, 514, 515] (by decide +kernel) (by decide +kernel)
set_option maxRecDepth 20000 in
theorem gL_law_X4_pass : GoodIn wsL_law (wsV RL 101 RX4 yX4_pass wsX4_pass) := goodIn_app (goodIn_of _ (by decide +kernel)) ggL_law_X4_pass
set_option maxRecDepth 20000 in
theorem ggL_law_L_field : GoodIn wsL_law wsL_field := goodIn_ca (goodIn_r _ [353, 130, 354, 355, 356, 2, 357, 135, 136, 20, 144, 145, 146, 19, 147, 59, 60, 103, 104, 105, 148, 149, 150, 151, 358, 359, 360, 361, 43, 44, 45, 46, 47, 48, 49, 50, 51, 52, 53, 54, 503, 504, 505, 506, 507, 508, 519, 520, 521, 522, 523, 524, 525, 526, 527, 528, 529, 530, 531, 532, 533, 534, 535, 536] (by decide +kernel) (by decide +kernel)) (goodIn_sub (fun _ h => List.mem_append_left _ (List.mem_append_right _ h)) (by decide +kernel))
set_option maxRecDepth 20000 in
theorem gL_law_L_field : GoodIn wsL_law (va_wsS RL 102 yL_field wsL_field) := goodIn_app (goodIn_of _ (by decide +kernel)) ggL_law_L_field
set_option maxRecDepth 20000 in
theorem ggL_law_X4_field : GoodIn wsL_law wsX4_field := goodIn_r _ [365, 115, 78, 157, 158, 159, 5, 160, 76, 116, 117, 118, 161, 162, 163, 164, 119, 120, 121, 122, 509, 510, 511, 512, 513, 514, 515] (by decide +kernel) (by decide +kernel)
set_option maxRecDepth 20000 in
theorem gL_law_X4_field : GoodIn wsL_law (wsV RL 104 RX4 yX4_field wsX4_field) := goodIn_app (goodIn_of _ (by decide +kernel)) ggL_law_X4_field
set_option maxRecDepth 20000 in
theorem ggL_law_L_count : GoodIn wsL_law wsL_count := goodIn_ca (goodIn_r _ [368, 130, 369, 370, 371, 2, 372, 135, 136, 103, 104, 105, 373, 374, 375, 376, 20, 377, 378, 280, 379, 101, 380, 102, 235, 236, 237, 19, 238, 48, 239, 240, 241, 242, 243, 108, 109, 110, 59, 60, 381, 382, 383, 384, 43, 503, 504, 505, 506, 507, 508, 519, 520, 521, 522, 523, 524, 525, 526, 527, 528, 529, 530, 531, 532, 533, 534, 535, 536] (by decide +kernel) (by decide +kernel)) (goodIn_sub (fun _ h => List.mem_append_left _ (List.mem_append_right _ h)) (by decide +kernel))
set_option maxRecDepth 20000 in
theorem gL_law_L_count : GoodIn wsL_law (va_wsS RL 105 yL_count wsL_count) := goodIn_app (goodIn_of _ (by decide +kernel)) ggL_law_L_count
