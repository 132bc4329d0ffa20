set_option maxRecDepth 20000 in
theorem ggL_law_X4_count : GoodIn wsL_law wsX4_count := goodIn_r _ [388, 115, 116, 117, 5, 118, 389, 390, 391, 392, 76, 248, 249, 250, 251, 78, 252, 253, 254, 255, 119, 120, 121, 122, 509, 510, 511, 512, 513, 514, 515] (by decide +kernel) (by decide +kernel)
set_option maxRecDepth 20000 in
theorem gL_law_X4_count : GoodIn wsL_law (wsV RL 107 RX4 yX4_count wsX4_count) := goodIn_app (goodIn_of _ (by decide +kernel)) ggL_law_X4_count
set_option maxRecDepth 20000 in
theorem ggL_law_L_weather : GoodIn wsL_law wsL_weather := goodIn_ca (goodIn_r _ [395, 130, 396, 397, 398, 2, 399, 135, 136, 16, 103, 104, 105, 400, 401, 402, 15, 403, 31, 32, 33, 503, 504, 505, 506, 507, 508, 516, 517, 518] (by decide +kernel) (by decide +kernel)) (goodIn_sub (fun _ h => List.mem_append_left _ (List.mem_append_right _ h)) (by decide +kernel))
set_option maxRecDepth 20000 in
theorem gL_law_L_weather : GoodIn wsL_law (va_wsS RL 108 yL_weather wsL_weather) := goodIn_app (goodIn_of _ (by decide +kernel)) ggL_law_L_weather
set_option maxRecDepth 20000 in
theorem ggL_law_X4_weather : GoodIn wsL_law wsX4_weather := goodIn_r _ [407, 115, 79, 116, 117, 5, 118, 119, 120, 121, 122, 509, 510, 511, 512, 513, 514, 515] (by decide +kernel) (by decide +kernel)
set_option maxRecDepth 20000 in
theorem gL_law_X4_weather : GoodIn wsL_law (wsV RL 110 RX4 yX4_weather wsX4_weather) := goodIn_app (goodIn_of _ (by decide +kernel)) ggL_law_X4_weather
set_option maxRecDepth 20000 in
theorem ggL_law_L_foresee : GoodIn wsL_law wsL_foresee := goodIn_ca (goodIn_ca (goodIn_ca (goodIn_r _ [410, 94, 130, 225, 411, 412, 413, 2, 414, 99, 100, 135, 136, 230, 231, 20, 280, 21, 16, 103, 104, 105, 415, 416, 417, 19, 418, 59, 60, 61, 62, 63, 42, 419, 87, 88, 89, 43, 44, 45, 46, 47, 48, 49, 50, 51, 52, 53, 54, 420, 421, 422, 281, 282, 283, 284, 285, 286, 287, 288, 289, 290, 291, 243, 108, 109, 110, 292, 293, 294, 295, 296, 297, 298, 299, 300, 301, 302, 303, 304, 305, 142, 306, 307, 141, 143, 308, 149, 150, 151, 309, 310, 311, 312, 313, 145, 146, 147, 314, 315, 316, 317, 318, 319, 320, 321, 322, 323, 324, 325, 65, 66, 67, 68, 326, 327, 328, 329, 423, 424, 425, 426, 379, 235, 236, 237, 238, 239, 240, 241, 242, 427, 428, 429, 430, 381, 382, 383, 384, 503, 504, 505, 506, 507, 508, 519, 520, 521, 522, 523, 524, 525, 526, 527, 528, 529, 530, 531, 532, 533, 534, 535, 536, 516, 517, 518] (by decide +kernel) (by decide +kernel)) (goodIn_sub (fun _ h => List.mem_append_left _ (List.mem_append_left _ (List.mem_append_right _ h))) (by decide +kernel))) (goodIn_sub (fun _ h => List.mem_append_left _ (List.mem_append_right _ h)) (by decide +kernel))) (goodIn_sub (fun _ h => List.mem_append_right _ h) (by decide +kernel))
set_option maxRecDepth 20000 in
theorem gL_law_L_foresee : GoodIn wsL_law (va_wsS RL 111 yL_foresee wsL_foresee) := goodIn_app (goodIn_of _ (by decide +kernel)) ggL_law_L_foresee
set_option maxRecDepth 20000 in
theorem ggL_law_X4_foresee : GoodIn wsL_law wsX4_foresee := goodIn_r _ [434, 115, 76, 80, 116, 117, 5, 118, 119, 120, 121, 122, 435, 436, 437, 438, 86, 87, 88, 89, 78, 81, 252, 253, 254, 255, 334, 335, 336, 337, 77, 79, 338, 305, 142, 306, 156, 141, 143, 339, 340, 341, 342, 161, 162, 163, 164, 343, 344, 345, 346, 157, 158, 159, 160, 347, 348, 349, 350, 269, 270, 271, 272, 248, 249, 250, 251, 439, 440, 441, 442, 509, 510, 511, 512, 513, 514, 515] (by decide +kernel) (by decide +kernel)
set_option maxRecDepth 20000 in
theorem gL_law_X4_foresee : GoodIn wsL_law (wsV RL 113 RX4 yX4_foresee wsX4_foresee) := goodIn_app (goodIn_of _ (by decide +kernel)) ggL_law_X4_foresee
set_option maxRecDepth 20000 in
theorem ggL_law_L_advise : GoodIn wsL_law wsL_advise := goodIn_ca (goodIn_ca (goodIn_ca (goodIn_r _ [445, 94, 130, 225, 446, 447, 448, 2, 449, 99, 100, 135, 136, 230, 231, 20, 280, 25, 103, 104, 105, 450, 451, 452, 453, 21, 16, 377, 378, 137, 139, 415, 416, 417, 19, 418, 59, 60, 61, 62, 63, 42, 419, 87, 88, 89, 43, 44, 45, 46, 47, 48, 49, 50, 51, 52, 53, 54, 420, 421, 422, 281, 282, 283, 284, 285, 286, 287, 288, 289, 290, 291, 243, 108, 109, 110, 292, 293, 294, 295, 296, 297, 298, 299, 300, 301, 302, 303, 304, 305, 142, 306, 307, 141, 143, 308, 149, 150, 151, 309, 310, 311, 312, 313, 145, 146, 147, 314, 315, 316, 317, 318, 319, 320, 321, 322, 323, 324, 325, 65, 66, 67, 68, 326, 327, 328, 329, 235, 236, 237, 238, 239, 240, 241, 242, 427, 428, 429, 430, 454, 455, 456, 24, 457, 458, 459, 460, 461, 462, 463, 464, 465, 466, 148, 467, 468, 469, 470, 471, 472, 473, 474, 503, 504, 505, 506, 507, 508, 519, 520, 521, 522, 523, 524, 525, 526, 527, 528, 529, 530, 531, 532, 533, 534, 535, 536, 516, 517, 518, 537, 538, 539, 540, 541] (by decide +kernel) (by decide +kernel)) (goodIn_sub (fun _ h => List.mem_append_left _ (List.mem_append_left _ (List.mem_append_right _ h))) (by decide +kernel))) (goodIn_sub (fun _ h => List.mem_append_left _ (List.mem_append_right _ h)) (by decide +kernel))) (goodIn_sub (fun _ h => List.mem_append_right _ h) (by decide +kernel))
set_option maxRecDepth 20000 in
theorem gL_law_L_advise : GoodIn wsL_law (va_wsS RL 114 yL_advise wsL_advise) := goodIn_app (goodIn_of _ (by decide +kernel)) ggL_law_L_advise
set_option maxRecDepth 20000 in
theorem ggL_law_X4_advise : GoodIn wsL_law wsX4_advise := goodIn_r _ [478, 115, 76, 78, 116, 117, 5, 118, 119, 120, 121, 122, 435, 436, 437, 438, 80, 86, 87, 88, 89, 81, 252, 253, 254, 255, 479, 480, 481, 482, 334, 335, 336, 337, 77, 79, 338, 305, 142, 306, 156, 141, 143, 339, 340, 341, 342, 161, 162, 163, 164, 343, 344, 345, 346, 157, 158, 159, 160, 347, 348, 349, 350, 269, 270, 271, 272, 248, 249, 250, 251, 439, 440, 441, 442, 509, 510, 511, 512, 513, 514, 515] (by decide +kernel) (by decide +kernel)
set_option maxRecDepth 20000 in
theorem gL_law_X4_advise : GoodIn wsL_law (wsV RL 116 RX4 yX4_advise wsX4_advise) := goodIn_app (goodIn_of _ (by decide +kernel)) ggL_law_X4_advise
set_option maxRecDepth 20000 in
theorem ggL_law_X3_depth : GoodIn wsL_law wsX3_depth := goodIn_r _ [486, 20, 107, 108, 109, 19, 110, 59, 60, 381, 382, 383, 384, 43, 239, 240, 241, 242, 243, 503, 504, 505, 506, 507, 508, 519, 520, 521, 522, 523, 524, 525, 526, 527, 528, 529, 530, 531, 532, 533, 534, 535, 536] (by decide +kernel) (by decide +kernel)
set_option maxRecDepth 20000 in
theorem gL_law_X3_depth : GoodIn wsL_law (wsV RL 117 RX3 yX3_depth wsX3_depth) := goodIn_app (goodIn_of _ (by decide +kernel)) ggL_law_X3_depth
set_option maxRecDepth 20000 in
theorem ggL_law_X4_depth : GoodIn wsL_law wsX4_depth := goodIn_r _ [490, 115, 248, 249, 250, 5, 251, 78, 252, 253, 254, 255, 76, 509, 510, 511, 512, 513, 514, 515] (by decide +kernel) (by decide +kernel)
set_option maxRecDepth 20000 in
theorem gL_law_X4_depth : GoodIn wsL_law (wsV RL 121 RX4 yX4_depth wsX4_depth) := goodIn_app (goodIn_of _ (by decide +kernel)) ggL_law_X4_depth
set_option maxRecDepth 20000 in
theorem ggL_law_X3_digest : GoodIn wsL_law wsX3_digest := goodIn_r _ [494, 495, 496, 20, 378, 203, 16, 373, 374, 375, 2, 376, 377, 280, 379, 101, 380, 102, 235, 236, 237, 19, 238, 48, 239, 240, 241, 242, 243, 108, 109, 110, 59, 60, 381, 382, 383, 384, 43, 107, 358, 359, 360, 361, 44, 45, 46, 47, 49, 50, 51, 52, 53, 54, 400, 401, 402, 15, 403, 31, 32, 33, 503, 504, 505, 506, 507, 508, 519, 520, 521, 522, 523, 524, 525, 526, 527, 528, 529, 530, 531, 532, 533, 534, 535, 536, 516, 517, 518] (by decide +kernel) (by decide +kernel)
set_option maxRecDepth 20000 in
theorem gL_law_X3_digest : GoodIn wsL_law (wsV RL 122 RX3 yX3_digest wsX3_digest) := goodIn_app (goodIn_of _ (by decide +kernel)) ggL_law_X3_digest
set_option maxRecDepth 20000 in
theorem ggL_law_X4_digest : GoodIn wsL_law wsX4_digest := goodIn_r _ [500, 115, 501, 502, 76, 77, 78, 79, 389, 390, 391, 5, 392, 248, 249, 250, 251, 252, 253, 254, 255, 509, 510, 511, 512, 513, 514, 515] (by decide +kernel) (by decide +kernel)
set_option maxRecDepth 20000 in
theorem gL_law_X4_digest : GoodIn wsL_law (wsV RL 126 RX4 yX4_digest wsX4_digest) := goodIn_app (goodIn_of _ (by decide +kernel)) ggL_law_X4_digest
