theorem zn_in {big : List Cond} (ws : List Cond) (ps : List Nat) (hp : ws = ps.filterMap (fun i => big[i]?)) : ∀ w ∈ ws, w ∈ big := by
  intro w hw
  rw [hp] at hw
  obtain ⟨i, -, hi⟩ := List.mem_filterMap.mp hw
  exact List.mem_of_getElem? hi
theorem zn_app {big a b : List Cond} (ha : ∀ w ∈ a, w ∈ big) (hb : ∀ w ∈ b, w ∈ big) : ∀ w ∈ a ++ b, w ∈ big := fun w h => (List.mem_append.mp h).elim (ha w) (hb w)
theorem zn_nil {big : List Cond} : ∀ w ∈ ([] : List Cond), w ∈ big := fun _ h => absurd h List.not_mem_nil

theorem wsL_law_ir1 : ∀ w ∈ wsL_law0_r1, w ∈ lw_tbl := fun w h => zn_in wsL_law0_r1 [28, 29, 14, 437, 439, 445, 443, 446, 30, 31, 32, 33, 34, 35, 36, 37, 15, 163, 62, 63, 17, 164, 165, 146] (by decide +kernel) w h
theorem wsL_law_ir2 : ∀ w ∈ wsL_law0_r2, w ∈ lw_tbl := fun w h => zn_in wsL_law0_r2 [147, 18, 166, 38, 39, 40, 41, 61, 45, 48, 51, 42, 43, 16, 44, 64, 65, 66, 67, 87, 89, 91, 93, 95] (by decide +kernel) w h
theorem wsL_law_ir3 : ∀ w ∈ wsL_law0_r3, w ∈ lw_tbl := fun w h => zn_in wsL_law0_r3 [97, 99, 101, 103, 105, 106, 107, 108, 68, 69, 70, 71, 77, 79, 81, 83, 85, 72, 73, 74, 75, 76, 149, 150] (by decide +kernel) w h
theorem wsL_law_ir4 : ∀ w ∈ wsL_law0_r4, w ∈ lw_tbl := fun w h => zn_in wsL_law0_r4 [151, 415, 416, 13, 417, 418, 419, 19, 441, 486, 332, 25, 333, 506, 504, 505, 420, 421, 422, 423, 424, 425, 426, 427] (by decide +kernel) w h
theorem wsL_law_ir5 : ∀ w ∈ wsL_law0_r5, w ∈ lw_tbl := fun w h => zn_in wsL_law0_r5 [428, 429, 430, 431, 432, 444, 436, 438, 440, 442, 468, 469, 470, 471, 286, 23, 167, 168, 283, 284, 285, 473, 414, 312] (by decide +kernel) w h
theorem wsL_law_ir6 : ∀ w ∈ wsL_law0_r6, w ∈ lw_tbl := fun w h => zn_in wsL_law0_r6 [313, 314, 474, 475, 476, 477, 190, 24, 49, 46, 52, 480, 481, 482, 483, 88, 186, 187, 188, 189, 487, 488, 489, 490] (by decide +kernel) w h
theorem wsL_law_ir7 : ∀ w ∈ wsL_law0_r7, w ∈ lw_tbl := fun w h => zn_in wsL_law0_r7 [92, 94, 96, 492, 258, 259, 260, 261, 493, 494, 495, 496, 98, 498, 499, 500, 501, 503, 507, 508, 509, 510, 262, 26] (by decide +kernel) w h
theorem wsL_law_ir8 : ∀ w ∈ wsL_law0_r8, w ∈ lw_tbl := fun w h => zn_in wsL_law0_r8 [100, 90, 102, 356, 357, 358, 359, 360, 362, 10, 363, 311, 513, 514, 515, 516, 373, 374, 375, 376, 378, 380, 11, 381] (by decide +kernel) w h
theorem wsL_law_ir9 : ∀ w ∈ wsL_law0_r9, w ∈ lw_tbl := fun w h => zn_in wsL_law0_r9 [78, 80, 82, 84, 86, 382, 383, 384, 385, 364, 365, 366, 367, 369, 370, 371, 372, 386, 387, 388, 389, 392, 393, 394] (by decide +kernel) w h
theorem wsL_law_ir10 : ∀ w ∈ wsL_law0_r10, w ∈ lw_tbl := fun w h => zn_in wsL_law0_r10 [395, 396, 398, 397, 27, 399, 400, 401, 303, 304, 305, 306, 47, 50, 53, 307, 309, 1, 310, 315, 317, 2, 318, 319] (by decide +kernel) w h
theorem wsL_law_ir11 : ∀ w ∈ wsL_law0_r11, w ∈ lw_tbl := fun w h => zn_in wsL_law0_r11 [321, 3, 322, 323, 325, 4, 326, 328, 329, 330, 331, 327, 334, 336, 5, 337, 338, 339, 341, 6, 342, 343, 345, 7] (by decide +kernel) w h
theorem wsL_law_ir12 : ∀ w ∈ wsL_law0_r12, w ∈ lw_tbl := fun w h => zn_in wsL_law0_r12 [346, 347, 349, 8, 350, 351, 353, 9, 354, 402, 404, 12, 405, 406, 407, 408, 409, 279, 280, 281, 282, 182, 183, 184] (by decide +kernel) w h
theorem wsL_law_ir13 : ∀ w ∈ wsL_law0_r13, w ∈ lw_tbl := fun w h => zn_in wsL_law0_r13 [185, 104, 278, 410, 411, 412, 413] (by decide +kernel) w h
theorem zn_inX0 : ∀ w ∈ wsX00, w ∈ lw_tbl := fun w h => zn_in wsX00 [54, 56, 58] (by decide +kernel) w h
theorem zn_inX1 : ∀ w ∈ wsX10, w ∈ lw_tbl := fun w h => zn_in wsX10 [152, 154, 156, 158, 160] (by decide +kernel) w h
theorem zn_inX2 : ∀ w ∈ wsX20, w ∈ lw_tbl := fun w h => zn_in wsX20 [109, 111, 113, 115, 117, 119, 121, 123, 125, 127, 129, 131, 133, 135, 137, 139, 141, 143] (by decide +kernel) w h
theorem zn_inX3 : ∀ w ∈ wsX30, w ∈ lw_tbl := fun w h => zn_in wsX30 [169, 171, 173, 175, 177, 179] (by decide +kernel) w h
theorem zn_inX4 : ∀ w ∈ wsX40, w ∈ lw_tbl := fun w h => zn_in wsX40 [447, 449, 451, 453, 455, 457, 459, 461, 463, 465] (by decide +kernel) w h
theorem zn_inX5 : ∀ w ∈ wsX50, w ∈ lw_tbl := fun w h => zn_in wsX50 [] (by decide +kernel) w h
theorem zn_build_r1 : ∀ w ∈ wsL_build_r1, w ∈ lw_tbl := fun w h => zn_in wsL_build_r1 [418, 419, 19, 437, 439, 61, 445, 443, 441, 486, 332, 25, 333, 446, 506, 504, 505, 420, 421, 13, 422, 423, 424, 425] (by decide +kernel) w h
theorem zn_build_r2 : ∀ w ∈ wsL_build_r2, w ∈ lw_tbl := fun w h => zn_in wsL_build_r2 [426, 427, 428, 429, 430, 431, 34, 35, 432, 444, 436, 438, 440, 442, 468, 469, 470, 14, 471, 286, 23, 164, 167, 168] (by decide +kernel) w h
theorem zn_build_r3 : ∀ w ∈ wsL_build_r3, w ∈ lw_tbl := fun w h => zn_in wsL_build_r3 [283, 284, 285, 473, 69, 70, 17, 71, 77, 79, 81, 83, 85, 87, 89, 91, 93, 95, 97, 107, 108, 72, 43, 16] (by decide +kernel) w h
theorem zn_build_r4 : ∀ w ∈ wsL_build_r4, w ∈ lw_tbl := fun w h => zn_in wsL_build_r4 [44, 73, 74, 75, 76, 99, 101, 103, 105, 106, 414, 312, 313, 314, 474, 475, 476, 477, 190, 24, 163, 49, 46, 52] (by decide +kernel) w h
theorem zn_build_r5 : ∀ w ∈ wsL_build_r5, w ∈ lw_tbl := fun w h => zn_in wsL_build_r5 [480, 481, 482, 483, 88, 186, 187, 188, 189, 487, 488, 489, 490, 92, 94, 96, 492, 258, 259, 260, 261, 493, 494, 495] (by decide +kernel) w h
theorem zn_build_r6 : ∀ w ∈ wsL_build_r6, w ∈ lw_tbl := fun w h => zn_in wsL_build_r6 [496, 98, 498, 499, 500, 501, 503, 507, 508, 509, 510, 262, 26, 100, 90, 102, 356, 357, 358, 359, 360, 362, 10, 363] (by decide +kernel) w h
theorem zn_build_r7 : ∀ w ∈ wsL_build_r7, w ∈ lw_tbl := fun w h => zn_in wsL_build_r7 [311, 513, 514, 515, 516] (by decide +kernel) w h
theorem wsL_law_in0 : ∀ w ∈ wsL_law0, w ∈ lw_tbl := (zn_app (zn_app (zn_app (zn_app (zn_app (zn_app (zn_app wsL_law_ir1 (zn_app wsL_law_ir2 (zn_app wsL_law_ir3 (zn_app wsL_law_ir4 (zn_app wsL_law_ir5 (zn_app wsL_law_ir6 (zn_app wsL_law_ir7 (zn_app wsL_law_ir8 (zn_app wsL_law_ir9 (zn_app wsL_law_ir10 (zn_app wsL_law_ir11 (zn_app wsL_law_ir12 wsL_law_ir13)))))))))))) zn_inX3) zn_inX4) zn_inX0) zn_inX2) zn_inX1) zn_nil)
