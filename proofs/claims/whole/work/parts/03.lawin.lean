theorem zn_in {big : List Cond} (ws : List Cond) (ps : List Nat) (hp : ws = ps.filterMap (fun i => big[i]?)) : ∀ w ∈ ws, w ∈ big := by
  intro w hw
  rw [hp] at hw
  obtain ⟨i, -, hi⟩ := List.mem_filterMap.mp hw
  exact List.mem_of_getElem? hi
theorem zn_app {big a b : List Cond} (ha : ∀ w ∈ a, w ∈ big) (hb : ∀ w ∈ b, w ∈ big) : ∀ w ∈ a ++ b, w ∈ big := fun w h => (List.mem_append.mp h).elim (ha w) (hb w)
theorem zn_nil {big : List Cond} : ∀ w ∈ ([] : List Cond), w ∈ big := fun _ h => absurd h List.not_mem_nil

theorem wsL_law_ir1 : ∀ w ∈ wsL_law0_r1, w ∈ lw_tbl := fun w h => zn_in wsL_law0_r1 [45, 46, 31, 566, 567, 36, 735, 47, 48, 49, 50, 51, 52, 53, 54, 32, 185, 79, 80, 34, 186, 187, 163, 164] (by decide +kernel) w h
theorem wsL_law_ir2 : ∀ w ∈ wsL_law0_r2, w ∈ lw_tbl := fun w h => zn_in wsL_law0_r2 [35, 188, 55, 56, 57, 58, 78, 62, 65, 68, 59, 60, 33, 61, 81, 82, 83, 84, 104, 106, 108, 110, 112, 114] (by decide +kernel) w h
theorem wsL_law_ir3 : ∀ w ∈ wsL_law0_r3, w ∈ lw_tbl := fun w h => zn_in wsL_law0_r3 [116, 118, 120, 122, 123, 124, 125, 85, 86, 87, 88, 94, 96, 98, 100, 102, 89, 90, 91, 92, 93, 166, 167, 168] (by decide +kernel) w h
theorem wsL_law_ir4 : ∀ w ∈ wsL_law0_r4, w ∈ lw_tbl := fun w h => zn_in wsL_law0_r4 [568, 569, 570, 571, 578, 579, 580, 581, 582, 583, 572, 574, 14, 575, 576, 525, 524, 37, 243, 244, 30, 245, 246, 247] (by decide +kernel) w h
theorem wsL_law_ir5 : ∀ w ∈ wsL_law0_r5, w ∈ lw_tbl := fun w h => zn_in wsL_law0_r5 [248, 249, 250, 254, 41, 189, 190, 251, 252, 253, 322, 208, 209, 210, 211, 603, 604, 605, 606, 577, 607, 608, 609, 610] (by decide +kernel) w h
theorem wsL_law_ir6 : ∀ w ∈ wsL_law0_r6, w ∈ lw_tbl := fun w h => zn_in wsL_law0_r6 [612, 15, 613, 599, 600, 601, 602, 323, 324, 325, 326, 327, 328, 329, 330, 335, 42, 109, 111, 113, 356, 357, 43, 358] (by decide +kernel) w h
theorem wsL_law_ir7 : ∀ w ∈ wsL_law0_r7, w ∈ lw_tbl := fun w h => zn_in wsL_law0_r7 [331, 332, 333, 334, 352, 353, 354, 355, 614, 615, 616, 617, 626, 618, 620, 16, 621, 622, 624, 17, 625, 627, 629, 18] (by decide +kernel) w h
theorem wsL_law_ir8 : ∀ w ∈ wsL_law0_r8, w ∈ lw_tbl := fun w h => zn_in wsL_law0_r8 [630, 359, 360, 361, 362, 363, 364, 365, 367, 368, 369, 631, 632, 633, 634, 635, 370, 371, 372, 373, 374, 375, 376, 115] (by decide +kernel) w h
theorem wsL_law_ir9 : ∀ w ∈ wsL_law0_r9, w ∈ lw_tbl := fun w h => zn_in wsL_law0_r9 [636, 637, 638, 639, 378, 379, 380, 381, 382, 383, 384, 105, 640, 641, 642, 643, 387, 388, 389, 390, 391, 392, 393, 66] (by decide +kernel) w h
theorem wsL_law_ir10 : ∀ w ∈ wsL_law0_r10, w ∈ lw_tbl := fun w h => zn_in wsL_law0_r10 [63, 69, 644, 645, 646, 647, 396, 397, 398, 399, 400, 401, 402, 403, 405, 44, 117, 107, 119, 231, 232, 233, 234, 216] (by decide +kernel) w h
theorem wsL_law_ir11 : ∀ w ∈ wsL_law0_r11, w ∈ lw_tbl := fun w h => zn_in wsL_law0_r11 [218, 0, 219, 220, 648, 649, 650, 651, 652, 654, 19, 655, 656, 658, 20, 659, 421, 422, 423, 424, 425, 426, 427, 121] (by decide +kernel) w h
theorem wsL_law_ir12 : ∀ w ∈ wsL_law0_r12, w ∈ lw_tbl := fun w h => zn_in wsL_law0_r12 [429, 660, 661, 662, 663, 664, 666, 21, 667, 430, 431, 432, 433, 434, 435, 436, 99, 439, 440, 441, 442, 64, 67, 70] (by decide +kernel) w h
theorem wsL_law_ir13 : ∀ w ∈ wsL_law0_r13, w ∈ lw_tbl := fun w h => zn_in wsL_law0_r13 [443, 445, 3, 446, 447, 449, 4, 450, 451, 453, 5, 454, 455, 457, 6, 458, 460, 461, 462, 463, 459, 464, 466, 7] (by decide +kernel) w h
theorem wsL_law_ir14 : ∀ w ∈ wsL_law0_r14, w ∈ lw_tbl := fun w h => zn_in wsL_law0_r14 [467, 468, 469, 471, 8, 472, 473, 475, 9, 476, 477, 479, 10, 480, 481, 483, 11, 484, 668, 669, 670, 671, 672, 674] (by decide +kernel) w h
theorem wsL_law_ir15 : ∀ w ∈ wsL_law0_r15, w ∈ lw_tbl := fun w h => zn_in wsL_law0_r15 [22, 675, 680, 676, 678, 23, 679, 681, 683, 24, 684, 685, 687, 25, 688, 486, 487, 488, 489, 490, 491, 492, 235, 236] (by decide +kernel) w h
theorem wsL_law_ir16 : ∀ w ∈ wsL_law0_r16, w ∈ lw_tbl := fun w h => zn_in wsL_law0_r16 [237, 238, 689, 690, 691, 692, 494, 495, 496, 497, 498, 499, 500, 227, 229, 1, 230, 95, 97, 101, 103, 212, 213, 214] (by decide +kernel) w h
theorem wsL_law_ir17 : ∀ w ∈ wsL_law0_r17, w ∈ lw_tbl := fun w h => zn_in wsL_law0_r17 [215, 693, 694, 695, 696, 697, 699, 26, 700, 502, 503, 504, 505, 506, 507, 508, 239, 240, 241, 242, 701, 702, 703, 704] (by decide +kernel) w h
theorem wsL_law_ir18 : ∀ w ∈ wsL_law0_r18, w ∈ lw_tbl := fun w h => zn_in wsL_law0_r18 [510, 511, 512, 513, 514, 515, 516, 519, 520, 521, 522, 523, 526, 527, 528, 529, 531, 12, 532, 533, 534, 535, 536, 705] (by decide +kernel) w h
theorem wsL_law_ir19 : ∀ w ∈ wsL_law0_r19, w ∈ lw_tbl := fun w h => zn_in wsL_law0_r19 [706, 707, 708, 709, 711, 27, 712, 713, 715, 28, 716, 537, 538, 539, 540, 541, 542, 543, 546, 548, 13, 549, 550, 551] (by decide +kernel) w h
theorem wsL_law_ir20 : ∀ w ∈ wsL_law0_r20, w ∈ lw_tbl := fun w h => zn_in wsL_law0_r20 [552, 553, 554, 555, 556, 557, 169, 170, 171, 172, 173, 558, 559, 560, 561, 562, 563, 564, 565, 717, 718, 719, 720, 721] (by decide +kernel) w h
theorem wsL_law_ir21 : ∀ w ∈ wsL_law0_r21, w ∈ lw_tbl := fun w h => zn_in wsL_law0_r21 [723, 29, 724, 204, 205, 206, 207, 725, 726, 727, 728, 221, 222, 223, 224, 225, 226, 729, 730, 731, 732, 733, 734] (by decide +kernel) w h
theorem zn_inX0 : ∀ w ∈ wsX00, w ∈ lw_tbl := fun w h => zn_in wsX00 [71, 73, 75] (by decide +kernel) w h
theorem zn_inX1 : ∀ w ∈ wsX10, w ∈ lw_tbl := fun w h => zn_in wsX10 [174, 176, 178, 180, 182] (by decide +kernel) w h
theorem zn_inX2 : ∀ w ∈ wsX20, w ∈ lw_tbl := fun w h => zn_in wsX20 [126, 128, 130, 132, 134, 136, 138, 140, 142, 144, 146, 148, 150, 152, 154, 156, 158, 160] (by decide +kernel) w h
theorem zn_inX3 : ∀ w ∈ wsX30, w ∈ lw_tbl := fun w h => zn_in wsX30 [191, 193, 195, 197, 199, 201] (by decide +kernel) w h
theorem zn_inX4 : ∀ w ∈ wsX40, w ∈ lw_tbl := fun w h => zn_in wsX40 [584, 586, 588, 590, 592, 594, 596] (by decide +kernel) w h
theorem wsL_law_in0 : ∀ w ∈ wsL_law0, w ∈ lw_tbl := (zn_app (zn_app (zn_app (zn_app (zn_app (zn_app (zn_app wsL_law_ir1 (zn_app wsL_law_ir2 (zn_app wsL_law_ir3 (zn_app wsL_law_ir4 (zn_app wsL_law_ir5 (zn_app wsL_law_ir6 (zn_app wsL_law_ir7 (zn_app wsL_law_ir8 (zn_app wsL_law_ir9 (zn_app wsL_law_ir10 (zn_app wsL_law_ir11 (zn_app wsL_law_ir12 (zn_app wsL_law_ir13 (zn_app wsL_law_ir14 (zn_app wsL_law_ir15 (zn_app wsL_law_ir16 (zn_app wsL_law_ir17 (zn_app wsL_law_ir18 (zn_app wsL_law_ir19 (zn_app wsL_law_ir20 wsL_law_ir21)))))))))))))))))))) zn_inX3) zn_inX4) zn_inX0) zn_inX2) zn_inX1) zn_nil)
