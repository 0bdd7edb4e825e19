theorem pg_places {big : List Cond} (ws : List Cond) (ps : List Nat) (hp : ws = ps.filterMap (fun i => big[i]?)) : ∀ w ∈ ws, w ∈ big := by
  intro w hw
  rw [hp] at hw
  obtain ⟨i, -, hi⟩ := List.mem_filterMap.mp hw
  exact List.mem_of_getElem? hi
set_option maxRecDepth 20000 in
theorem wsL_law0_r1_in : ∀ w ∈ wsL_law0_r1, w ∈ lw_tbl := pg_places wsL_law0_r1 [39, 40, 29, 525, 526, 30, 753, 754, 41, 42, 43, 44, 45, 46, 66, 47, 67, 48, 49, 50, 51, 52, 527, 528] (by decide +kernel)
set_option maxRecDepth 20000 in
theorem wsL_law0_r2_in : ∀ w ∈ wsL_law0_r2, w ∈ lw_tbl := pg_places wsL_law0_r2 [529, 530, 532, 533, 534, 535, 531, 337, 338, 28, 339, 340, 341, 342, 343, 344, 345, 307, 35, 147, 148, 149, 150, 34] (by decide +kernel)
set_option maxRecDepth 20000 in
theorem wsL_law0_r3_in : ∀ w ∈ wsL_law0_r3, w ∈ lw_tbl := pg_places wsL_law0_r3 [76, 77, 78, 346, 347, 348, 72, 74, 0, 75, 350, 352, 15, 353, 557, 558, 559, 560, 561, 563, 17, 564, 565, 566] (by decide +kernel)
set_option maxRecDepth 20000 in
theorem wsL_law0_r4_in : ∀ w ∈ wsL_law0_r4, w ∈ lw_tbl := pg_places wsL_law0_r4 [567, 568, 570, 18, 571, 553, 554, 555, 556, 354, 355, 356, 357, 358, 359, 360, 361, 362, 367, 37, 219, 221, 10, 222] (by decide +kernel)
set_option maxRecDepth 20000 in
theorem wsL_law0_r5_in : ∀ w ∈ wsL_law0_r5, w ∈ lw_tbl := pg_places wsL_law0_r5 [223, 36, 363, 365, 16, 366, 87, 89, 1, 90, 572, 573, 574, 575, 576, 578, 19, 579, 580, 582, 20, 583, 536, 383] (by decide +kernel)
set_option maxRecDepth 20000 in
theorem wsL_law0_r6_in : ∀ w ∈ wsL_law0_r6, w ∈ lw_tbl := pg_places wsL_law0_r6 [384, 385, 386, 387, 388, 389, 99, 101, 4, 102, 103, 105, 5, 106, 584, 585, 586, 587, 391, 392, 393, 394, 395, 396] (by decide +kernel)
set_option maxRecDepth 20000 in
theorem wsL_law0_r7_in : ∀ w ∈ wsL_law0_r7, w ∈ lw_tbl := pg_places wsL_law0_r7 [397, 588, 589, 590, 591, 398, 399, 400, 401, 402, 403, 404, 592, 593, 594, 595, 596, 598, 21, 599, 68, 69, 70, 71] (by decide +kernel)
set_option maxRecDepth 20000 in
theorem wsL_law0_r8_in : ∀ w ∈ wsL_law0_r8, w ∈ lw_tbl := pg_places wsL_law0_r8 [600, 601, 602, 603, 79, 80, 81, 82, 604, 605, 606, 607, 537, 405, 406, 407, 408, 409, 410, 411, 143, 145, 8, 146] (by decide +kernel)
set_option maxRecDepth 20000 in
theorem wsL_law0_r9_in : ∀ w ∈ wsL_law0_r9, w ∈ lw_tbl := pg_places wsL_law0_r9 [95, 97, 3, 98, 107, 108, 109, 110, 111, 112, 113, 114, 115, 608, 609, 610, 611, 612, 614, 22, 615, 616, 618, 23] (by decide +kernel)
set_option maxRecDepth 20000 in
theorem wsL_law0_r10_in : ∀ w ∈ wsL_law0_r10, w ∈ lw_tbl := pg_places wsL_law0_r10 [619, 620, 621, 622, 627, 623, 624, 625, 626, 412, 413, 414, 415, 140, 141, 142, 239, 240, 241, 242, 243, 244, 248, 245] (by decide +kernel)
set_option maxRecDepth 20000 in
theorem wsL_law0_r11_in : ∀ w ∈ wsL_law0_r11, w ∈ lw_tbl := pg_places wsL_law0_r11 [246, 247, 628, 629, 630, 631, 416, 417, 418, 419, 250, 251, 252, 253, 254, 255, 632, 633, 634, 635, 420, 421, 422, 423] (by decide +kernel)
set_option maxRecDepth 20000 in
theorem wsL_law0_r12_in : ∀ w ∈ wsL_law0_r12, w ∈ lw_tbl := pg_places wsL_law0_r12 [257, 258, 259, 260, 261, 262, 263, 264, 265, 266, 267, 268, 269, 270, 271, 272, 636, 637, 638, 639, 424, 425, 426, 427] (by decide +kernel)
set_option maxRecDepth 20000 in
theorem wsL_law0_r13_in : ∀ w ∈ wsL_law0_r13, w ∈ lw_tbl := pg_places wsL_law0_r13 [282, 283, 284, 640, 641, 642, 643, 644, 646, 24, 647, 428, 429, 430, 431, 432, 433, 434, 126, 128, 6, 129, 648, 649] (by decide +kernel)
set_option maxRecDepth 20000 in
theorem wsL_law0_r14_in : ∀ w ∈ wsL_law0_r14, w ∈ lw_tbl := pg_places wsL_law0_r14 [650, 651, 652, 653, 655, 25, 656, 436, 437, 438, 439, 440, 441, 442, 657, 658, 659, 660, 443, 444, 445, 446, 447, 448] (by decide +kernel)
set_option maxRecDepth 20000 in
theorem wsL_law0_r15_in : ∀ w ∈ wsL_law0_r15, w ∈ lw_tbl := pg_places wsL_law0_r15 [449, 304, 305, 306, 293, 294, 295, 323, 324, 325, 661, 662, 663, 664, 665, 667, 26, 668, 669, 670, 671, 450, 451, 452] (by decide +kernel)
set_option maxRecDepth 20000 in
theorem wsL_law0_r16_in : ∀ w ∈ wsL_law0_r16, w ∈ lw_tbl := pg_places wsL_law0_r16 [453, 331, 332, 333, 334, 335, 336, 672, 673, 674, 675, 679, 676, 677, 678, 454, 455, 456, 457, 458, 459, 460, 680, 681] (by decide +kernel)
set_option maxRecDepth 20000 in
theorem wsL_law0_r17_in : ∀ w ∈ wsL_law0_r17, w ∈ lw_tbl := pg_places wsL_law0_r17 [682, 683, 684, 685, 686, 687, 688, 689, 461, 462, 463, 464, 465, 466, 467, 690, 691, 692, 693, 468, 469, 470, 471, 472] (by decide +kernel)
set_option maxRecDepth 20000 in
theorem wsL_law0_r18_in : ∀ w ∈ wsL_law0_r18, w ∈ lw_tbl := pg_places wsL_law0_r18 [473, 474, 475, 476, 477, 694, 695, 696, 697, 698, 699, 700, 478, 479, 480, 481, 301, 302, 303, 701, 702, 703, 704, 482] (by decide +kernel)
set_option maxRecDepth 20000 in
theorem wsL_law0_r19_in : ∀ w ∈ wsL_law0_r19, w ∈ lw_tbl := pg_places wsL_law0_r19 [483, 484, 485, 327, 328, 329, 705, 706, 707, 708, 486, 487, 488, 489, 490, 491, 492, 709, 710, 711, 712, 493, 494, 495] (by decide +kernel)
set_option maxRecDepth 20000 in
theorem wsL_law0_r20_in : ∀ w ∈ wsL_law0_r20, w ∈ lw_tbl := pg_places wsL_law0_r20 [496, 497, 498, 499, 713, 714, 715, 716, 501, 502, 503, 504, 505, 506, 507, 717, 718, 719, 720, 509, 510, 511, 512, 513] (by decide +kernel)
set_option maxRecDepth 20000 in
theorem wsL_law0_r21_in : ∀ w ∈ wsL_law0_r21, w ∈ lw_tbl := pg_places wsL_law0_r21 [514, 515, 721, 722, 723, 724, 83, 84, 85, 86, 91, 93, 2, 94, 725, 726, 727, 728, 729, 731, 27, 732, 116, 117] (by decide +kernel)
set_option maxRecDepth 20000 in
theorem wsL_law0_r22_in : ∀ w ∈ wsL_law0_r22, w ∈ lw_tbl := pg_places wsL_law0_r22 [118, 119, 733, 734, 735, 736, 517, 518, 519, 520, 521, 522, 523, 290, 291, 38, 292, 289, 737, 738, 739, 740, 741, 120] (by decide +kernel)
set_option maxRecDepth 20000 in
theorem wsL_law0_r23_in : ∀ w ∈ wsL_law0_r23, w ∈ lw_tbl := pg_places wsL_law0_r23 [121, 122, 123, 124, 125, 130, 742, 743, 744, 745, 746, 747, 748, 131, 132, 133, 134, 135, 137, 7, 138, 139, 249, 256] (by decide +kernel)
set_option maxRecDepth 20000 in
theorem wsL_law0_r24_in : ∀ w ∈ wsL_law0_r24, w ∈ lw_tbl := pg_places wsL_law0_r24 [273, 275, 11, 276, 277, 279, 12, 280, 281, 285, 287, 13, 288, 296, 298, 14, 299, 300, 326, 330, 749, 750, 751, 752] (by decide +kernel)
theorem wsX00_tin : ∀ w ∈ wsX00, w ∈ lw_tbl := by decide +kernel
theorem wsX10_tin : ∀ w ∈ wsX10, w ∈ lw_tbl := by decide +kernel
theorem wsL_law_in0 : ∀ w ∈ wsL_law0, w ∈ lw_tbl := List.forall_mem_append.mpr ⟨List.forall_mem_append.mpr ⟨List.forall_mem_append.mpr ⟨(List.forall_mem_append.mpr ⟨wsL_law0_r1_in, (List.forall_mem_append.mpr ⟨wsL_law0_r2_in, (List.forall_mem_append.mpr ⟨wsL_law0_r3_in, (List.forall_mem_append.mpr ⟨wsL_law0_r4_in, (List.forall_mem_append.mpr ⟨wsL_law0_r5_in, (List.forall_mem_append.mpr ⟨wsL_law0_r6_in, (List.forall_mem_append.mpr ⟨wsL_law0_r7_in, (List.forall_mem_append.mpr ⟨wsL_law0_r8_in, (List.forall_mem_append.mpr ⟨wsL_law0_r9_in, (List.forall_mem_append.mpr ⟨wsL_law0_r10_in, (List.forall_mem_append.mpr ⟨wsL_law0_r11_in, (List.forall_mem_append.mpr ⟨wsL_law0_r12_in, (List.forall_mem_append.mpr ⟨wsL_law0_r13_in, (List.forall_mem_append.mpr ⟨wsL_law0_r14_in, (List.forall_mem_append.mpr ⟨wsL_law0_r15_in, (List.forall_mem_append.mpr ⟨wsL_law0_r16_in, (List.forall_mem_append.mpr ⟨wsL_law0_r17_in, (List.forall_mem_append.mpr ⟨wsL_law0_r18_in, (List.forall_mem_append.mpr ⟨wsL_law0_r19_in, (List.forall_mem_append.mpr ⟨wsL_law0_r20_in, (List.forall_mem_append.mpr ⟨wsL_law0_r21_in, (List.forall_mem_append.mpr ⟨wsL_law0_r22_in, (List.forall_mem_append.mpr ⟨wsL_law0_r23_in, wsL_law0_r24_in⟩)⟩)⟩)⟩)⟩)⟩)⟩)⟩)⟩)⟩)⟩)⟩)⟩)⟩)⟩)⟩)⟩)⟩)⟩)⟩)⟩)⟩)⟩), wsX00_tin⟩, wsX10_tin⟩, fun _ h => absurd h List.not_mem_nil⟩
