theorem zmem_of {big : List Cond} (ws : List Cond) (ps : List Nat) (hp : ws = ps.filterMap (fun i => big[i]?)) : ∀ w ∈ ws, w ∈ big := by
  intro w hw
  rw [hp] at hw
  obtain ⟨i, -, hi⟩ := List.mem_filterMap.mp hw
  exact List.mem_of_getElem? hi
set_option maxRecDepth 20000 in
theorem wsL_law_r1_in : ∀ w ∈ wsL_law_r1, w ∈ lw_tbl := zmem_of _ [46, 47, 37, 541, 542, 43, 48, 49, 50, 51, 52, 53, 54, 55, 38, 163, 74, 75, 39, 164, 165, 103, 104, 40] (by decide +kernel)
set_option maxRecDepth 20000 in
theorem wsL_law_r2_in : ∀ w ∈ wsL_law_r2, w ∈ lw_tbl := zmem_of _ [166, 119, 120, 41, 167, 138, 139, 42, 168, 169, 56, 57, 58, 59, 73, 60, 61, 62, 63, 76, 77, 78, 79, 80] (by decide +kernel)
set_option maxRecDepth 20000 in
theorem wsL_law_r3_in : ∀ w ∈ wsL_law_r3, w ∈ lw_tbl := zmem_of _ [81, 82, 83, 84, 105, 106, 107, 108, 109, 110, 111, 121, 122, 123, 124, 125, 126, 127, 140, 141, 142, 143, 144, 145] (by decide +kernel)
set_option maxRecDepth 20000 in
theorem wsL_law_r4_in : ∀ w ∈ wsL_law_r4, w ∈ lw_tbl := zmem_of _ [543, 544, 545, 546, 547, 548, 550, 575, 551, 552, 553, 554, 555, 185, 186, 187, 188, 195, 196, 201, 189, 190, 191, 192] (by decide +kernel)
set_option maxRecDepth 20000 in
theorem wsL_law_r5_in : ∀ w ∈ wsL_law_r5, w ∈ lw_tbl := zmem_of _ [193, 194, 197, 198, 199, 200, 202, 204, 0, 205, 206, 207, 208, 209, 85, 86, 226, 227, 45, 228, 210, 211, 212, 213] (by decide +kernel)
set_option maxRecDepth 20000 in
theorem wsL_law_r6_in : ∀ w ∈ wsL_law_r6, w ∈ lw_tbl := zmem_of _ [214, 216, 215, 44, 217, 218, 219, 220, 221, 222, 223, 224, 225, 229, 230, 231, 232, 576, 577, 578, 579, 586, 587, 588] (by decide +kernel)
set_option maxRecDepth 20000 in
theorem wsL_law_r7_in : ∀ w ∈ wsL_law_r7, w ∈ lw_tbl := zmem_of _ [580, 581, 582, 583, 584, 585, 589, 591, 15, 592, 549, 593, 595, 16, 596, 233, 234, 235, 236, 237, 238, 239, 240, 597] (by decide +kernel)
set_option maxRecDepth 20000 in
theorem wsL_law_r8_in : ∀ w ∈ wsL_law_r8, w ∈ lw_tbl := zmem_of _ [598, 599, 600, 241, 242, 243, 244, 245, 246, 247, 248, 249, 250, 251, 252, 253, 254, 601, 602, 603, 604, 605, 611, 606] (by decide +kernel)
set_option maxRecDepth 20000 in
theorem wsL_law_r9_in : ∀ w ∈ wsL_law_r9, w ∈ lw_tbl := zmem_of _ [607, 608, 609, 610, 612, 614, 17, 615, 255, 256, 257, 258, 259, 260, 261, 262, 263, 264, 265, 266, 267, 268, 269, 270] (by decide +kernel)
set_option maxRecDepth 20000 in
theorem wsL_law_r10_in : ∀ w ∈ wsL_law_r10, w ∈ lw_tbl := zmem_of _ [616, 617, 618, 619, 624, 620, 622, 18, 623, 625, 627, 19, 628, 629, 630, 631, 271, 272, 273, 274, 632, 633, 634, 635] (by decide +kernel)
set_option maxRecDepth 20000 in
theorem wsL_law_r11_in : ∀ w ∈ wsL_law_r11, w ∈ lw_tbl := zmem_of _ [275, 276, 277, 278, 282, 283, 279, 280, 281, 636, 637, 638, 639, 640, 284, 285, 286, 287, 288, 289, 291, 1, 292, 293] (by decide +kernel)
set_option maxRecDepth 20000 in
theorem wsL_law_r12_in : ∀ w ∈ wsL_law_r12, w ∈ lw_tbl := zmem_of _ [294, 295, 296, 297, 298, 300, 2, 301, 302, 303, 304, 305, 306, 641, 642, 643, 644, 645, 307, 308, 309, 310, 311, 312] (by decide +kernel)
set_option maxRecDepth 20000 in
theorem wsL_law_r13_in : ∀ w ∈ wsL_law_r13, w ∈ lw_tbl := zmem_of _ [313, 314, 315, 316, 317, 318, 319, 320, 321, 322, 323, 324, 646, 647, 648, 649, 325, 326, 327, 328, 329, 331, 3, 332] (by decide +kernel)
set_option maxRecDepth 20000 in
theorem wsL_law_r14_in : ∀ w ∈ wsL_law_r14, w ∈ lw_tbl := zmem_of _ [333, 334, 335, 336, 337, 338, 340, 4, 341, 342, 344, 5, 345, 346, 347, 349, 6, 350, 351, 353, 7, 354, 355, 356] (by decide +kernel)
set_option maxRecDepth 20000 in
theorem wsL_law_r15_in : ∀ w ∈ wsL_law_r15, w ∈ lw_tbl := zmem_of _ [357, 358, 359, 360, 362, 8, 363, 364, 365, 366, 367, 368, 369, 370, 371, 372, 374, 9, 375, 128, 376, 378, 10, 379] (by decide +kernel)
set_option maxRecDepth 20000 in
theorem wsL_law_r16_in : ∀ w ∈ wsL_law_r16, w ∈ lw_tbl := zmem_of _ [380, 381, 382, 383, 147, 384, 386, 11, 387, 146, 148, 149, 388, 389, 391, 12, 392, 393, 394, 395, 396, 397, 398, 399] (by decide +kernel)
set_option maxRecDepth 20000 in
theorem wsL_law_r17_in : ∀ w ∈ wsL_law_r17, w ∈ lw_tbl := zmem_of _ [400, 401, 402, 404, 13, 405, 406, 407, 408, 409, 410, 411, 412, 413, 414, 415, 416, 417, 418, 419, 420, 421, 422, 423] (by decide +kernel)
set_option maxRecDepth 20000 in
theorem wsL_law_r18_in : ∀ w ∈ wsL_law_r18, w ∈ lw_tbl := zmem_of _ [424, 425, 426, 427, 428, 429, 430, 431, 432, 433, 434, 435, 436, 437, 438, 439, 440, 441, 442, 443, 444, 445, 446, 447] (by decide +kernel)
set_option maxRecDepth 20000 in
theorem wsL_law_r19_in : ∀ w ∈ wsL_law_r19, w ∈ lw_tbl := zmem_of _ [650, 651, 652, 653, 654, 656, 20, 657, 658, 660, 21, 661, 662, 664, 22, 665, 666, 668, 23, 669, 670, 672, 24, 673] (by decide +kernel)
set_option maxRecDepth 20000 in
theorem wsL_law_r20_in : ∀ w ∈ wsL_law_r20, w ∈ lw_tbl := zmem_of _ [674, 676, 25, 677, 678, 680, 26, 681, 682, 684, 27, 685, 686, 688, 28, 689, 690, 692, 29, 693, 694, 696, 30, 697] (by decide +kernel)
set_option maxRecDepth 20000 in
theorem wsL_law_r21_in : ∀ w ∈ wsL_law_r21, w ∈ lw_tbl := zmem_of _ [698, 700, 31, 701, 702, 704, 32, 705, 706, 708, 33, 709, 710, 712, 34, 713, 448, 449, 450, 451, 452, 453, 454, 455] (by decide +kernel)
set_option maxRecDepth 20000 in
theorem wsL_law_r22_in : ∀ w ∈ wsL_law_r22, w ∈ lw_tbl := zmem_of _ [456, 457, 458, 459, 460, 461, 462, 463, 464, 465, 466, 467, 468, 714, 715, 716, 717, 718, 720, 35, 721, 469, 470, 471] (by decide +kernel)
set_option maxRecDepth 20000 in
theorem wsL_law_r23_in : ∀ w ∈ wsL_law_r23, w ∈ lw_tbl := zmem_of _ [472, 722, 723, 724, 725, 473, 474, 475, 476, 477, 479, 14, 480, 481, 482, 483, 484, 726, 727, 728, 729, 485, 486, 487] (by decide +kernel)
set_option maxRecDepth 20000 in
theorem wsL_law_r24_in : ∀ w ∈ wsL_law_r24, w ∈ lw_tbl := zmem_of _ [488, 489, 730, 731, 732, 733, 490, 491, 492, 493, 494, 734, 735, 736, 737, 495, 496, 497, 498, 499, 500, 501, 502, 738] (by decide +kernel)
set_option maxRecDepth 20000 in
theorem wsL_law_r25_in : ∀ w ∈ wsL_law_r25, w ∈ lw_tbl := zmem_of _ [739, 740, 741, 503, 504, 505, 506, 507, 742, 743, 744, 745, 508, 509, 510, 511, 512, 746, 747, 748, 749, 513, 514, 515] (by decide +kernel)
set_option maxRecDepth 20000 in
theorem wsL_law_r26_in : ∀ w ∈ wsL_law_r26, w ∈ lw_tbl := zmem_of _ [516, 517, 518, 519, 520, 750, 751, 752, 753, 521, 522, 523, 524, 754, 755, 756, 757, 525, 526, 527, 528, 529, 530, 531] (by decide +kernel)
set_option maxRecDepth 20000 in
theorem wsL_law_r27_in : ∀ w ∈ wsL_law_r27, w ∈ lw_tbl := zmem_of _ [532, 533, 534, 535, 536, 758, 759, 760, 761, 537, 538, 539, 540, 762, 763, 764, 765] (by decide +kernel)
set_option maxRecDepth 20000 in
theorem wsX50_in9 : ∀ w ∈ wsX50, w ∈ lw_tbl := zmem_of _ [170, 172, 174, 176, 178, 180, 182] (by decide +kernel)
set_option maxRecDepth 20000 in
theorem wsX60_in9 : ∀ w ∈ wsX60, w ∈ lw_tbl := zmem_of _ [556, 558, 560, 562, 564, 566, 568, 570, 572] (by decide +kernel)
set_option maxRecDepth 20000 in
theorem wsX40_in9 : ∀ w ∈ wsX40, w ∈ lw_tbl := zmem_of _ [64, 66, 68, 70] (by decide +kernel)
set_option maxRecDepth 20000 in
theorem wsX20_in9 : ∀ w ∈ wsX20, w ∈ lw_tbl := zmem_of _ [87, 89, 91, 93, 95, 97, 99] (by decide +kernel)
set_option maxRecDepth 20000 in
theorem wsX30_in9 : ∀ w ∈ wsX30, w ∈ lw_tbl := zmem_of _ [112, 114, 116] (by decide +kernel)
set_option maxRecDepth 20000 in
theorem wsX10_in9 : ∀ w ∈ wsX10, w ∈ lw_tbl := zmem_of _ [129, 131, 133, 135] (by decide +kernel)
set_option maxRecDepth 20000 in
theorem wsX00_in9 : ∀ w ∈ wsX00, w ∈ lw_tbl := zmem_of _ [150, 152, 154, 156, 158, 160] (by decide +kernel)
theorem zmem_app {big a b : List Cond} (h1 : ∀ w ∈ a, w ∈ big) (h2 : ∀ w ∈ b, w ∈ big) : ∀ w ∈ a ++ b, w ∈ big := fun w h => (List.mem_append.mp h).elim (h1 w) (h2 w)
theorem wsL_law_in : ∀ w ∈ wsL_law, w ∈ lw_tbl := zmem_app (zmem_app (zmem_app (zmem_app (zmem_app (zmem_app (zmem_app (zmem_app (zmem_app wsL_law_r1_in (zmem_app wsL_law_r2_in (zmem_app wsL_law_r3_in (zmem_app wsL_law_r4_in (zmem_app wsL_law_r5_in (zmem_app wsL_law_r6_in (zmem_app wsL_law_r7_in (zmem_app wsL_law_r8_in (zmem_app wsL_law_r9_in (zmem_app wsL_law_r10_in (zmem_app wsL_law_r11_in (zmem_app wsL_law_r12_in (zmem_app wsL_law_r13_in (zmem_app wsL_law_r14_in (zmem_app wsL_law_r15_in (zmem_app wsL_law_r16_in (zmem_app wsL_law_r17_in (zmem_app wsL_law_r18_in (zmem_app wsL_law_r19_in (zmem_app wsL_law_r20_in (zmem_app wsL_law_r21_in (zmem_app wsL_law_r22_in (zmem_app wsL_law_r23_in (zmem_app wsL_law_r24_in (zmem_app wsL_law_r25_in (zmem_app wsL_law_r26_in wsL_law_r27_in)))))))))))))))))))))))))) wsX50_in9) wsX60_in9) wsX40_in9) wsX20_in9) wsX30_in9) wsX10_in9) wsX00_in9) (fun _ h => absurd h List.not_mem_nil)
theorem inlX0 : ∀ w ∈ wsX00, w ∈ wsL_law := fun _ h => List.mem_append_left _ (List.mem_append_right _ h)
theorem inX0 : ∀ w ∈ wsX00, w ∈ lw_tbl := fun w h => wsL_law_in w (inlX0 w h)
theorem inlX1 : ∀ w ∈ wsX10, w ∈ wsL_law := fun _ h => List.mem_append_left _ (List.mem_append_left _ (List.mem_append_right _ h))
theorem inX1 : ∀ w ∈ wsX10, w ∈ lw_tbl := fun w h => wsL_law_in w (inlX1 w h)
theorem inlX2 : ∀ w ∈ wsX20, w ∈ wsL_law := fun _ h => List.mem_append_left _ (List.mem_append_left _ (List.mem_append_left _ (List.mem_append_left _ (List.mem_append_right _ h))))
theorem inX2 : ∀ w ∈ wsX20, w ∈ lw_tbl := fun w h => wsL_law_in w (inlX2 w h)
theorem inlX3 : ∀ w ∈ wsX30, w ∈ wsL_law := fun _ h => List.mem_append_left _ (List.mem_append_left _ (List.mem_append_left _ (List.mem_append_right _ h)))
theorem inX3 : ∀ w ∈ wsX30, w ∈ lw_tbl := fun w h => wsL_law_in w (inlX3 w h)
theorem inlX4 : ∀ w ∈ wsX40, w ∈ wsL_law := fun _ h => List.mem_append_left _ (List.mem_append_left _ (List.mem_append_left _ (List.mem_append_left _ (List.mem_append_left _ (List.mem_append_right _ h)))))
theorem inX4 : ∀ w ∈ wsX40, w ∈ lw_tbl := fun w h => wsL_law_in w (inlX4 w h)
theorem inlX5 : ∀ w ∈ wsX50, w ∈ wsL_law := fun _ h => List.mem_append_left _ (List.mem_append_left _ (List.mem_append_left _ (List.mem_append_left _ (List.mem_append_left _ (List.mem_append_left _ (List.mem_append_left _ (List.mem_append_right _ h)))))))
theorem inX5 : ∀ w ∈ wsX50, w ∈ lw_tbl := fun w h => wsL_law_in w (inlX5 w h)
theorem inlX6 : ∀ w ∈ wsX60, w ∈ wsL_law := fun _ h => List.mem_append_left _ (List.mem_append_left _ (List.mem_append_left _ (List.mem_append_left _ (List.mem_append_left _ (List.mem_append_left _ (List.mem_append_right _ h))))))
theorem inX6 : ∀ w ∈ wsX60, w ∈ lw_tbl := fun w h => wsL_law_in w (inlX6 w h)
theorem inJ9 : ∀ w ∈ wsJ90, w ∈ lw_tbl := by decide +kernel
theorem inJ10 : ∀ w ∈ wsJ100, w ∈ lw_tbl := by decide +kernel
theorem dX0_init_0 : decode cX0_init 0 = .ok (.aload_n 0, 1) := by decide +kernel
theorem dX0_init_1 : decode cX0_init 1 = .ok (.invokespecial 3, 3) := by decide +kernel
theorem dX0_init_4 : decode cX0_init 4 = .ok (.aload_n 0, 1) := by decide +kernel
theorem dX0_init_5 : decode cX0_init 5 = .ok (.bipush 124, 2) := by decide +kernel
theorem dX0_init_7 : decode cX0_init 7 = .ok (.newarray .int, 2) := by decide +kernel
theorem dX0_init_9 : decode cX0_init 9 = .ok (.putfield 9, 3) := by decide +kernel
theorem dX0_init_12 : decode cX0_init 12 = .ok (.aload_n 0, 1) := by decide +kernel
theorem dX0_init_13 : decode cX0_init 13 = .ok (.bipush 124, 2) := by decide +kernel
theorem dX0_init_15 : decode cX0_init 15 = .ok (.newarray .int, 2) := by decide +kernel
theorem dX0_init_17 : decode cX0_init 17 = .ok (.putfield 15, 3) := by decide +kernel
theorem dX0_init_20 : decode cX0_init 20 = .ok (.return_, 1) := by decide +kernel
theorem dX0_keysHeard_0 : decode cX0_keysHeard 0 = .ok (.aload_n 0, 1) := by decide +kernel
theorem dX0_keysHeard_1 : decode cX0_keysHeard 1 = .ok (.getfield 18, 3) := by decide +kernel
theorem dX0_keysHeard_4 : decode cX0_keysHeard 4 = .ok (.ireturn, 1) := by decide +kernel
theorem dX0_keysKnown_0 : decode cX0_keysKnown 0 = .ok (.aload_n 0, 1) := by decide +kernel
theorem dX0_keysKnown_1 : decode cX0_keysKnown 1 = .ok (.getfield 22, 3) := by decide +kernel
theorem dX0_keysKnown_4 : decode cX0_keysKnown 4 = .ok (.ireturn, 1) := by decide +kernel
theorem dX0_allVotes_0 : decode cX0_allVotes 0 = .ok (.aload_n 0, 1) := by decide +kernel
theorem dX0_allVotes_1 : decode cX0_allVotes 1 = .ok (.getfield 25, 3) := by decide +kernel
theorem dX0_allVotes_4 : decode cX0_allVotes 4 = .ok (.ireturn, 1) := by decide +kernel
theorem dX0_ranked_0 : decode cX0_ranked 0 = .ok (.aload_n 0, 1) := by decide +kernel
theorem dX0_ranked_1 : decode cX0_ranked 1 = .ok (.getfield 28, 3) := by decide +kernel
theorem dX0_ranked_4 : decode cX0_ranked 4 = .ok (.ireturn, 1) := by decide +kernel
theorem dX0_votesFor_0 : decode cX0_votesFor 0 = .ok (.aload_n 0, 1) := by decide +kernel
theorem dX0_votesFor_1 : decode cX0_votesFor 1 = .ok (.getfield 9, 3) := by decide +kernel
theorem dX0_votesFor_4 : decode cX0_votesFor 4 = .ok (.iload_n 1, 1) := by decide +kernel
theorem dX0_votesFor_5 : decode cX0_votesFor 5 = .ok (.bipush 31, 2) := by decide +kernel
theorem dX0_votesFor_7 : decode cX0_votesFor 7 = .ok (.imul, 1) := by decide +kernel
theorem dX0_votesFor_8 : decode cX0_votesFor 8 = .ok (.iload_n 2, 1) := by decide +kernel
theorem dX0_votesFor_9 : decode cX0_votesFor 9 = .ok (.iadd, 1) := by decide +kernel
theorem dX0_votesFor_10 : decode cX0_votesFor 10 = .ok (.bipush 15, 2) := by decide +kernel
theorem dX0_votesFor_12 : decode cX0_votesFor 12 = .ok (.iadd, 1) := by decide +kernel
theorem dX0_votesFor_13 : decode cX0_votesFor 13 = .ok (.iaload, 1) := by decide +kernel
theorem dX0_votesFor_14 : decode cX0_votesFor 14 = .ok (.ireturn, 1) := by decide +kernel
theorem dX0_pieceOf_0 : decode cX0_pieceOf 0 = .ok (.iload_n 1, 1) := by decide +kernel
theorem dX0_pieceOf_1 : decode cX0_pieceOf 1 = .ok (.aload_n 0, 1) := by decide +kernel
theorem dX0_pieceOf_2 : decode cX0_pieceOf 2 = .ok (.getfield 28, 3) := by decide +kernel
theorem dX0_pieceOf_5 : decode cX0_pieceOf 5 = .ok (.if_icmp .ge 15, 3) := by decide +kernel
theorem dX0_pieceOf_8 : decode cX0_pieceOf 8 = .ok (.aload_n 0, 1) := by decide +kernel
theorem dX0_pieceOf_9 : decode cX0_pieceOf 9 = .ok (.getfield 15, 3) := by decide +kernel
theorem dX0_pieceOf_12 : decode cX0_pieceOf 12 = .ok (.iload_n 1, 1) := by decide +kernel
theorem dX0_pieceOf_13 : decode cX0_pieceOf 13 = .ok (.iaload, 1) := by decide +kernel
theorem dX0_pieceOf_14 : decode cX0_pieceOf 14 = .ok (.bipush 31, 2) := by decide +kernel
theorem dX0_pieceOf_16 : decode cX0_pieceOf 16 = .ok (.idiv, 1) := by decide +kernel
theorem dX0_pieceOf_17 : decode cX0_pieceOf 17 = .ok (.goto 4, 3) := by decide +kernel
theorem dX0_pieceOf_20 : decode cX0_pieceOf 20 = .ok (.iconst (-1), 1) := by decide +kernel
theorem dX0_pieceOf_21 : decode cX0_pieceOf 21 = .ok (.ireturn, 1) := by decide +kernel
theorem dX0_offsetOf_0 : decode cX0_offsetOf 0 = .ok (.iload_n 1, 1) := by decide +kernel
theorem dX0_offsetOf_1 : decode cX0_offsetOf 1 = .ok (.aload_n 0, 1) := by decide +kernel
theorem dX0_offsetOf_2 : decode cX0_offsetOf 2 = .ok (.getfield 28, 3) := by decide +kernel
theorem dX0_offsetOf_5 : decode cX0_offsetOf 5 = .ok (.if_icmp .ge 18, 3) := by decide +kernel
theorem dX0_offsetOf_8 : decode cX0_offsetOf 8 = .ok (.aload_n 0, 1) := by decide +kernel
theorem dX0_offsetOf_9 : decode cX0_offsetOf 9 = .ok (.getfield 15, 3) := by decide +kernel
theorem dX0_offsetOf_12 : decode cX0_offsetOf 12 = .ok (.iload_n 1, 1) := by decide +kernel
theorem dX0_offsetOf_13 : decode cX0_offsetOf 13 = .ok (.iaload, 1) := by decide +kernel
theorem dX0_offsetOf_14 : decode cX0_offsetOf 14 = .ok (.bipush 31, 2) := by decide +kernel
theorem dX0_offsetOf_16 : decode cX0_offsetOf 16 = .ok (.irem, 1) := by decide +kernel
theorem dX0_offsetOf_17 : decode cX0_offsetOf 17 = .ok (.bipush 15, 2) := by decide +kernel
theorem dX0_offsetOf_19 : decode cX0_offsetOf 19 = .ok (.isub, 1) := by decide +kernel
theorem dX0_offsetOf_20 : decode cX0_offsetOf 20 = .ok (.goto 4, 3) := by decide +kernel
theorem dX0_offsetOf_23 : decode cX0_offsetOf 23 = .ok (.iconst 0, 1) := by decide +kernel
theorem dX0_offsetOf_24 : decode cX0_offsetOf 24 = .ok (.ireturn, 1) := by decide +kernel
theorem dX0_countOf_0 : decode cX0_countOf 0 = .ok (.iload_n 1, 1) := by decide +kernel
theorem dX0_countOf_1 : decode cX0_countOf 1 = .ok (.aload_n 0, 1) := by decide +kernel
theorem dX0_countOf_2 : decode cX0_countOf 2 = .ok (.getfield 28, 3) := by decide +kernel
theorem dX0_countOf_5 : decode cX0_countOf 5 = .ok (.if_icmp .ge 17, 3) := by decide +kernel
theorem dX0_countOf_8 : decode cX0_countOf 8 = .ok (.aload_n 0, 1) := by decide +kernel
theorem dX0_countOf_9 : decode cX0_countOf 9 = .ok (.getfield 9, 3) := by decide +kernel
theorem dX0_countOf_12 : decode cX0_countOf 12 = .ok (.aload_n 0, 1) := by decide +kernel
theorem dX0_countOf_13 : decode cX0_countOf 13 = .ok (.getfield 15, 3) := by decide +kernel
theorem dX0_countOf_16 : decode cX0_countOf 16 = .ok (.iload_n 1, 1) := by decide +kernel
theorem dX0_countOf_17 : decode cX0_countOf 17 = .ok (.iaload, 1) := by decide +kernel
theorem dX0_countOf_18 : decode cX0_countOf 18 = .ok (.iaload, 1) := by decide +kernel
theorem dX0_countOf_19 : decode cX0_countOf 19 = .ok (.goto 4, 3) := by decide +kernel
theorem dX0_countOf_22 : decode cX0_countOf 22 = .ok (.iconst 0, 1) := by decide +kernel
theorem dX0_countOf_23 : decode cX0_countOf 23 = .ok (.ireturn, 1) := by decide +kernel
set_option maxRecDepth 20000 in
theorem ggX0_doubt_X0_countOf : GoodIn wsX0_doubt wsX0_countOf := goodIn_r _ [6, 1, 7, 8, 13, 14, 15, 16, 17, 18] (by decide +kernel) (by decide +kernel)
set_option maxRecDepth 20000 in
theorem gX0_doubt_X0_countOf : GoodIn wsX0_doubt (wsV RX0 31 RX0 yX0_countOf wsX0_countOf) := goodIn_app (goodIn_of _ (by decide +kernel)) ggX0_doubt_X0_countOf
set_option maxRecDepth 20000 in
theorem ggX0_doubt_X0_pieceOf : GoodIn wsX0_doubt wsX0_pieceOf := goodIn_r _ [12, 1, 8, 13, 14, 15, 16, 17, 18] (by decide +kernel) (by decide +kernel)
set_option maxRecDepth 20000 in
theorem gX0_doubt_X0_pieceOf : GoodIn wsX0_doubt (wsV RX0 35 RX0 yX0_pieceOf wsX0_pieceOf) := goodIn_app (goodIn_of _ (by decide +kernel)) ggX0_doubt_X0_pieceOf
theorem dX0_doubt_0 : decode cX0_doubt 0 = .ok (.aload_n 0, 1) := by decide +kernel
theorem dX0_doubt_1 : decode cX0_doubt 1 = .ok (.iconst 0, 1) := by decide +kernel
theorem dX0_doubt_2 : decode cX0_doubt 2 = .ok (.invokevirtual 31, 3) := by decide +kernel
theorem dX0_doubt_5 : decode cX0_doubt 5 = .ok (.istore_n 1, 1) := by decide +kernel
theorem dX0_doubt_6 : decode cX0_doubt 6 = .ok (.iload_n 1, 1) := by decide +kernel
theorem dX0_doubt_7 : decode cX0_doubt 7 = .ok (.ifCond .gt 6, 3) := by decide +kernel
theorem dX0_doubt_10 : decode cX0_doubt 10 = .ok (.bipush 100, 2) := by decide +kernel
theorem dX0_doubt_12 : decode cX0_doubt 12 = .ok (.ireturn, 1) := by decide +kernel
theorem dX0_doubt_13 : decode cX0_doubt 13 = .ok (.iconst 1, 1) := by decide +kernel
theorem dX0_doubt_14 : decode cX0_doubt 14 = .ok (.istore_n 2, 1) := by decide +kernel
theorem dX0_doubt_15 : decode cX0_doubt 15 = .ok (.iload_n 2, 1) := by decide +kernel
theorem dX0_doubt_16 : decode cX0_doubt 16 = .ok (.aload_n 0, 1) := by decide +kernel
theorem dX0_doubt_17 : decode cX0_doubt 17 = .ok (.getfield 28, 3) := by decide +kernel
theorem dX0_doubt_20 : decode cX0_doubt 20 = .ok (.if_icmp .ge 33, 3) := by decide +kernel
theorem dX0_doubt_23 : decode cX0_doubt 23 = .ok (.aload_n 0, 1) := by decide +kernel
theorem dX0_doubt_24 : decode cX0_doubt 24 = .ok (.iload_n 2, 1) := by decide +kernel
theorem dX0_doubt_25 : decode cX0_doubt 25 = .ok (.invokevirtual 35, 3) := by decide +kernel
theorem dX0_doubt_28 : decode cX0_doubt 28 = .ok (.aload_n 0, 1) := by decide +kernel
theorem dX0_doubt_29 : decode cX0_doubt 29 = .ok (.iconst 0, 1) := by decide +kernel
theorem dX0_doubt_30 : decode cX0_doubt 30 = .ok (.invokevirtual 35, 3) := by decide +kernel
theorem dX0_doubt_33 : decode cX0_doubt 33 = .ok (.if_icmp .eq 14, 3) := by decide +kernel
theorem dX0_doubt_36 : decode cX0_doubt 36 = .ok (.aload_n 0, 1) := by decide +kernel
theorem dX0_doubt_37 : decode cX0_doubt 37 = .ok (.iload_n 2, 1) := by decide +kernel
theorem dX0_doubt_38 : decode cX0_doubt 38 = .ok (.invokevirtual 31, 3) := by decide +kernel
theorem dX0_doubt_41 : decode cX0_doubt 41 = .ok (.bipush 100, 2) := by decide +kernel
theorem dX0_doubt_43 : decode cX0_doubt 43 = .ok (.imul, 1) := by decide +kernel
theorem dX0_doubt_44 : decode cX0_doubt 44 = .ok (.iload_n 1, 1) := by decide +kernel
theorem dX0_doubt_45 : decode cX0_doubt 45 = .ok (.idiv, 1) := by decide +kernel
theorem dX0_doubt_46 : decode cX0_doubt 46 = .ok (.ireturn, 1) := by decide +kernel
theorem dX0_doubt_47 : decode cX0_doubt 47 = .ok (.iinc 2 1, 3) := by decide +kernel
theorem dX0_doubt_50 : decode cX0_doubt 50 = .ok (.goto (-35), 3) := by decide +kernel
theorem dX0_doubt_53 : decode cX0_doubt 53 = .ok (.iconst 0, 1) := by decide +kernel
theorem dX0_doubt_54 : decode cX0_doubt 54 = .ok (.ireturn, 1) := by decide +kernel
set_option maxRecDepth 20000 in
theorem ggX0_cast_X0_clear : GoodIn wsX0_cast wsX0_clear := goodIn_r _ [6, 7, 8, 1, 9, 10, 42, 43, 44, 45, 46, 47] (by decide +kernel) (by decide +kernel)
set_option maxRecDepth 20000 in
theorem gX0_cast_X0_clear : GoodIn wsX0_cast (wsV RX0 38 RX0 yX0_clear wsX0_clear) := goodIn_app (goodIn_of _ (by decide +kernel)) ggX0_cast_X0_clear
set_option maxRecDepth 20000 in
theorem ggX0_cast_X3_keyOf : GoodIn wsX0_cast wsX3_keyOf := goodIn_r _ [15, 16, 17, 18, 14, 19, 20, 48, 49, 50] (by decide +kernel) (by decide +kernel)
set_option maxRecDepth 20000 in
theorem gX0_cast_X3_keyOf : GoodIn wsX0_cast (wsV RX0 41 RX3 yX3_keyOf wsX3_keyOf) := goodIn_app (goodIn_of _ (by decide +kernel)) ggX0_cast_X3_keyOf
set_option maxRecDepth 20000 in
theorem ggX0_cast_X0_castFor : GoodIn wsX0_cast wsX0_castFor := goodIn_r _ [24, 9, 7, 10, 25, 26, 27, 28, 29, 30, 31, 32, 33, 34, 35, 36, 42, 43, 44, 45, 46, 47, 51, 52, 53, 54] (by decide +kernel) (by decide +kernel)
set_option maxRecDepth 20000 in
theorem gX0_cast_X0_castFor : GoodIn wsX0_cast (wsV RX0 47 RX0 yX0_castFor wsX0_castFor) := goodIn_app (goodIn_of _ (by decide +kernel)) ggX0_cast_X0_castFor
set_option maxRecDepth 20000 in
theorem ggX0_cast_X0_rankCells : GoodIn wsX0_cast wsX0_rankCells := goodIn_r _ [40, 7, 8, 41, 42, 43, 44, 45, 46, 47] (by decide +kernel) (by decide +kernel)
set_option maxRecDepth 20000 in
theorem gX0_cast_X0_rankCells : GoodIn wsX0_cast (wsV RX0 51 RX0 yX0_rankCells wsX0_rankCells) := goodIn_app (goodIn_of _ (by decide +kernel)) ggX0_cast_X0_rankCells
theorem dX0_cast_0 : decode cX0_cast 0 = .ok (.aload_n 0, 1) := by decide +kernel
theorem dX0_cast_1 : decode cX0_cast 1 = .ok (.invokevirtual 38, 3) := by decide +kernel
theorem dX0_cast_4 : decode cX0_cast 4 = .ok (.iconst 0, 1) := by decide +kernel
theorem dX0_cast_5 : decode cX0_cast 5 = .ok (.istore 4, 2) := by decide +kernel
theorem dX0_cast_7 : decode cX0_cast 7 = .ok (.iload 4, 2) := by decide +kernel
theorem dX0_cast_9 : decode cX0_cast 9 = .ok (.bipush 16, 2) := by decide +kernel
theorem dX0_cast_11 : decode cX0_cast 11 = .ok (.if_icmp .ge 64, 3) := by decide +kernel
theorem dX0_cast_14 : decode cX0_cast 14 = .ok (.iconst 1, 1) := by decide +kernel
theorem dX0_cast_15 : decode cX0_cast 15 = .ok (.istore 5, 2) := by decide +kernel
theorem dX0_cast_17 : decode cX0_cast 17 = .ok (.iload 5, 2) := by decide +kernel
theorem dX0_cast_19 : decode cX0_cast 19 = .ok (.iload_n 3, 1) := by decide +kernel
theorem dX0_cast_20 : decode cX0_cast 20 = .ok (.if_icmp .gt 49, 3) := by decide +kernel
theorem dX0_cast_23 : decode cX0_cast 23 = .ok (.aload_n 1, 1) := by decide +kernel
theorem dX0_cast_24 : decode cX0_cast 24 = .ok (.iconst 4, 1) := by decide +kernel
theorem dX0_cast_25 : decode cX0_cast 25 = .ok (.iload 4, 2) := by decide +kernel
theorem dX0_cast_27 : decode cX0_cast 27 = .ok (.iload 4, 2) := by decide +kernel
theorem dX0_cast_29 : decode cX0_cast 29 = .ok (.iload 5, 2) := by decide +kernel
theorem dX0_cast_31 : decode cX0_cast 31 = .ok (.iadd, 1) := by decide +kernel
theorem dX0_cast_32 : decode cX0_cast 32 = .ok (.iload_n 3, 1) := by decide +kernel
theorem dX0_cast_33 : decode cX0_cast 33 = .ok (.invokevirtual 41, 3) := by decide +kernel
theorem dX0_cast_36 : decode cX0_cast 36 = .ok (.istore 6, 2) := by decide +kernel
theorem dX0_cast_38 : decode cX0_cast 38 = .ok (.iload 6, 2) := by decide +kernel
theorem dX0_cast_40 : decode cX0_cast 40 = .ok (.iconst (-1), 1) := by decide +kernel
theorem dX0_cast_41 : decode cX0_cast 41 = .ok (.if_icmp .eq 22, 3) := by decide +kernel
theorem dX0_cast_44 : decode cX0_cast 44 = .ok (.aload_n 0, 1) := by decide +kernel
theorem dX0_cast_45 : decode cX0_cast 45 = .ok (.dup, 1) := by decide +kernel
theorem dX0_cast_46 : decode cX0_cast 46 = .ok (.getfield 18, 3) := by decide +kernel
theorem dX0_cast_49 : decode cX0_cast 49 = .ok (.iconst 1, 1) := by decide +kernel
theorem dX0_cast_50 : decode cX0_cast 50 = .ok (.iadd, 1) := by decide +kernel
theorem dX0_cast_51 : decode cX0_cast 51 = .ok (.putfield 18, 3) := by decide +kernel
theorem dX0_cast_54 : decode cX0_cast 54 = .ok (.aload_n 0, 1) := by decide +kernel
theorem dX0_cast_55 : decode cX0_cast 55 = .ok (.aload_n 2, 1) := by decide +kernel
theorem dX0_cast_56 : decode cX0_cast 56 = .ok (.iload 6, 2) := by decide +kernel
theorem dX0_cast_58 : decode cX0_cast 58 = .ok (.iload 4, 2) := by decide +kernel
theorem dX0_cast_60 : decode cX0_cast 60 = .ok (.invokevirtual 47, 3) := by decide +kernel
theorem dX0_cast_63 : decode cX0_cast 63 = .ok (.iinc 5 1, 3) := by decide +kernel
theorem dX0_cast_66 : decode cX0_cast 66 = .ok (.goto (-49), 3) := by decide +kernel
theorem dX0_cast_69 : decode cX0_cast 69 = .ok (.iinc 4 1, 3) := by decide +kernel
theorem dX0_cast_72 : decode cX0_cast 72 = .ok (.goto (-65), 3) := by decide +kernel
theorem dX0_cast_75 : decode cX0_cast 75 = .ok (.aload_n 0, 1) := by decide +kernel
theorem dX0_cast_76 : decode cX0_cast 76 = .ok (.invokevirtual 51, 3) := by decide +kernel
theorem dX0_cast_79 : decode cX0_cast 79 = .ok (.return_, 1) := by decide +kernel
theorem dX0_clear_0 : decode cX0_clear 0 = .ok (.iconst 0, 1) := by decide +kernel
theorem dX0_clear_1 : decode cX0_clear 1 = .ok (.istore_n 1, 1) := by decide +kernel
theorem dX0_clear_2 : decode cX0_clear 2 = .ok (.iload_n 1, 1) := by decide +kernel
theorem dX0_clear_3 : decode cX0_clear 3 = .ok (.bipush 124, 2) := by decide +kernel
theorem dX0_clear_5 : decode cX0_clear 5 = .ok (.if_icmp .ge 16, 3) := by decide +kernel
theorem dX0_clear_8 : decode cX0_clear 8 = .ok (.aload_n 0, 1) := by decide +kernel
theorem dX0_clear_9 : decode cX0_clear 9 = .ok (.getfield 9, 3) := by decide +kernel
theorem dX0_clear_12 : decode cX0_clear 12 = .ok (.iload_n 1, 1) := by decide +kernel
theorem dX0_clear_13 : decode cX0_clear 13 = .ok (.iconst 0, 1) := by decide +kernel
theorem dX0_clear_14 : decode cX0_clear 14 = .ok (.iastore, 1) := by decide +kernel
theorem dX0_clear_15 : decode cX0_clear 15 = .ok (.iinc 1 1, 3) := by decide +kernel
theorem dX0_clear_18 : decode cX0_clear 18 = .ok (.goto (-16), 3) := by decide +kernel
theorem dX0_clear_21 : decode cX0_clear 21 = .ok (.aload_n 0, 1) := by decide +kernel
theorem dX0_clear_22 : decode cX0_clear 22 = .ok (.iconst 0, 1) := by decide +kernel
theorem dX0_clear_23 : decode cX0_clear 23 = .ok (.putfield 28, 3) := by decide +kernel
theorem dX0_clear_26 : decode cX0_clear 26 = .ok (.aload_n 0, 1) := by decide +kernel
theorem dX0_clear_27 : decode cX0_clear 27 = .ok (.iconst 0, 1) := by decide +kernel
theorem dX0_clear_28 : decode cX0_clear 28 = .ok (.putfield 18, 3) := by decide +kernel
theorem dX0_clear_31 : decode cX0_clear 31 = .ok (.aload_n 0, 1) := by decide +kernel
theorem dX0_clear_32 : decode cX0_clear 32 = .ok (.iconst 0, 1) := by decide +kernel
theorem dX0_clear_33 : decode cX0_clear 33 = .ok (.putfield 22, 3) := by decide +kernel
theorem dX0_clear_36 : decode cX0_clear 36 = .ok (.aload_n 0, 1) := by decide +kernel
theorem dX0_clear_37 : decode cX0_clear 37 = .ok (.iconst 0, 1) := by decide +kernel
theorem dX0_clear_38 : decode cX0_clear 38 = .ok (.putfield 25, 3) := by decide +kernel
theorem dX0_clear_41 : decode cX0_clear 41 = .ok (.return_, 1) := by decide +kernel
set_option maxRecDepth 20000 in
theorem ggX0_castFor_X1_placesOf : GoodIn wsX0_castFor wsX1_placesOf := goodIn_r _ [8, 9, 22, 23, 24, 25] (by decide +kernel) (by decide +kernel)
set_option maxRecDepth 20000 in
theorem gX0_castFor_X1_placesOf : GoodIn wsX0_castFor (wsV RX0 54 RX1 yX1_placesOf wsX1_placesOf) := goodIn_app (goodIn_of _ (by decide +kernel)) ggX0_castFor_X1_placesOf
set_option maxRecDepth 20000 in
theorem ggX0_castFor_X1_placeOf : GoodIn wsX0_castFor wsX1_placeOf := goodIn_r _ [13, 14, 9, 15, 5, 6, 7, 8, 22, 23, 24, 25] (by decide +kernel) (by decide +kernel)
set_option maxRecDepth 20000 in
theorem gX0_castFor_X1_placeOf : GoodIn wsX0_castFor (wsV RX0 59 RX1 yX1_placeOf wsX1_placeOf) := goodIn_app (goodIn_of _ (by decide +kernel)) ggX0_castFor_X1_placeOf
theorem dX0_castFor_0 : decode cX0_castFor 0 = .ok (.aload_n 1, 1) := by decide +kernel
theorem dX0_castFor_1 : decode cX0_castFor 1 = .ok (.iload_n 2, 1) := by decide +kernel
theorem dX0_castFor_2 : decode cX0_castFor 2 = .ok (.invokevirtual 54, 3) := by decide +kernel
theorem dX0_castFor_5 : decode cX0_castFor 5 = .ok (.istore 4, 2) := by decide +kernel
theorem dX0_castFor_7 : decode cX0_castFor 7 = .ok (.iload 4, 2) := by decide +kernel
theorem dX0_castFor_9 : decode cX0_castFor 9 = .ok (.ifCond .le 13, 3) := by decide +kernel
theorem dX0_castFor_12 : decode cX0_castFor 12 = .ok (.aload_n 0, 1) := by decide +kernel
theorem dX0_castFor_13 : decode cX0_castFor 13 = .ok (.dup, 1) := by decide +kernel
theorem dX0_castFor_14 : decode cX0_castFor 14 = .ok (.getfield 22, 3) := by decide +kernel
theorem dX0_castFor_17 : decode cX0_castFor 17 = .ok (.iconst 1, 1) := by decide +kernel
theorem dX0_castFor_18 : decode cX0_castFor 18 = .ok (.iadd, 1) := by decide +kernel
theorem dX0_castFor_19 : decode cX0_castFor 19 = .ok (.putfield 22, 3) := by decide +kernel
theorem dX0_castFor_22 : decode cX0_castFor 22 = .ok (.iconst 0, 1) := by decide +kernel
theorem dX0_castFor_23 : decode cX0_castFor 23 = .ok (.istore 5, 2) := by decide +kernel
theorem dX0_castFor_25 : decode cX0_castFor 25 = .ok (.iload 5, 2) := by decide +kernel
theorem dX0_castFor_27 : decode cX0_castFor 27 = .ok (.iload 4, 2) := by decide +kernel
theorem dX0_castFor_29 : decode cX0_castFor 29 = .ok (.if_icmp .ge 66, 3) := by decide +kernel
theorem dX0_castFor_32 : decode cX0_castFor 32 = .ok (.aload_n 1, 1) := by decide +kernel
theorem dX0_castFor_33 : decode cX0_castFor 33 = .ok (.iload_n 2, 1) := by decide +kernel
theorem dX0_castFor_34 : decode cX0_castFor 34 = .ok (.iload 5, 2) := by decide +kernel
theorem dX0_castFor_36 : decode cX0_castFor 36 = .ok (.invokevirtual 59, 3) := by decide +kernel
theorem dX0_castFor_39 : decode cX0_castFor 39 = .ok (.istore 6, 2) := by decide +kernel
theorem dX0_castFor_41 : decode cX0_castFor 41 = .ok (.iload 6, 2) := by decide +kernel
theorem dX0_castFor_43 : decode cX0_castFor 43 = .ok (.sipush 1000, 3) := by decide +kernel
theorem dX0_castFor_46 : decode cX0_castFor 46 = .ok (.idiv, 1) := by decide +kernel
theorem dX0_castFor_47 : decode cX0_castFor 47 = .ok (.istore 7, 2) := by decide +kernel
theorem dX0_castFor_49 : decode cX0_castFor 49 = .ok (.iload 6, 2) := by decide +kernel
theorem dX0_castFor_51 : decode cX0_castFor 51 = .ok (.sipush 1000, 3) := by decide +kernel
theorem dX0_castFor_54 : decode cX0_castFor 54 = .ok (.irem, 1) := by decide +kernel
theorem dX0_castFor_55 : decode cX0_castFor 55 = .ok (.iload_n 3, 1) := by decide +kernel
theorem dX0_castFor_56 : decode cX0_castFor 56 = .ok (.isub, 1) := by decide +kernel
theorem dX0_castFor_57 : decode cX0_castFor 57 = .ok (.istore 8, 2) := by decide +kernel
theorem dX0_castFor_59 : decode cX0_castFor 59 = .ok (.aload_n 0, 1) := by decide +kernel
theorem dX0_castFor_60 : decode cX0_castFor 60 = .ok (.getfield 9, 3) := by decide +kernel
theorem dX0_castFor_63 : decode cX0_castFor 63 = .ok (.iload 7, 2) := by decide +kernel
theorem dX0_castFor_65 : decode cX0_castFor 65 = .ok (.bipush 31, 2) := by decide +kernel
theorem dX0_castFor_67 : decode cX0_castFor 67 = .ok (.imul, 1) := by decide +kernel
theorem dX0_castFor_68 : decode cX0_castFor 68 = .ok (.iload 8, 2) := by decide +kernel
theorem dX0_castFor_70 : decode cX0_castFor 70 = .ok (.iadd, 1) := by decide +kernel
theorem dX0_castFor_71 : decode cX0_castFor 71 = .ok (.bipush 15, 2) := by decide +kernel
theorem dX0_castFor_73 : decode cX0_castFor 73 = .ok (.iadd, 1) := by decide +kernel
theorem dX0_castFor_74 : decode cX0_castFor 74 = .ok (.dup2, 1) := by decide +kernel
theorem dX0_castFor_75 : decode cX0_castFor 75 = .ok (.iaload, 1) := by decide +kernel
theorem dX0_castFor_76 : decode cX0_castFor 76 = .ok (.iconst 1, 1) := by decide +kernel
theorem dX0_castFor_77 : decode cX0_castFor 77 = .ok (.iadd, 1) := by decide +kernel
theorem dX0_castFor_78 : decode cX0_castFor 78 = .ok (.iastore, 1) := by decide +kernel
theorem dX0_castFor_79 : decode cX0_castFor 79 = .ok (.aload_n 0, 1) := by decide +kernel
theorem dX0_castFor_80 : decode cX0_castFor 80 = .ok (.dup, 1) := by decide +kernel
theorem dX0_castFor_81 : decode cX0_castFor 81 = .ok (.getfield 25, 3) := by decide +kernel
theorem dX0_castFor_84 : decode cX0_castFor 84 = .ok (.iconst 1, 1) := by decide +kernel
theorem dX0_castFor_85 : decode cX0_castFor 85 = .ok (.iadd, 1) := by decide +kernel
theorem dX0_castFor_86 : decode cX0_castFor 86 = .ok (.putfield 25, 3) := by decide +kernel
theorem dX0_castFor_89 : decode cX0_castFor 89 = .ok (.iinc 5 1, 3) := by decide +kernel
theorem dX0_castFor_92 : decode cX0_castFor 92 = .ok (.goto (-67), 3) := by decide +kernel
theorem dX0_castFor_95 : decode cX0_castFor 95 = .ok (.return_, 1) := by decide +kernel
theorem dX0_rankCells_0 : decode cX0_rankCells 0 = .ok (.iconst 0, 1) := by decide +kernel
theorem dX0_rankCells_1 : decode cX0_rankCells 1 = .ok (.istore_n 1, 1) := by decide +kernel
theorem dX0_rankCells_2 : decode cX0_rankCells 2 = .ok (.iload_n 1, 1) := by decide +kernel
theorem dX0_rankCells_3 : decode cX0_rankCells 3 = .ok (.bipush 124, 2) := by decide +kernel
theorem dX0_rankCells_5 : decode cX0_rankCells 5 = .ok (.if_icmp .ge 86, 3) := by decide +kernel
theorem dX0_rankCells_8 : decode cX0_rankCells 8 = .ok (.aload_n 0, 1) := by decide +kernel
theorem dX0_rankCells_9 : decode cX0_rankCells 9 = .ok (.getfield 9, 3) := by decide +kernel
theorem dX0_rankCells_12 : decode cX0_rankCells 12 = .ok (.iload_n 1, 1) := by decide +kernel
theorem dX0_rankCells_13 : decode cX0_rankCells 13 = .ok (.iaload, 1) := by decide +kernel
theorem dX0_rankCells_14 : decode cX0_rankCells 14 = .ok (.ifCond .le 71, 3) := by decide +kernel
theorem dX0_rankCells_17 : decode cX0_rankCells 17 = .ok (.aload_n 0, 1) := by decide +kernel
theorem dX0_rankCells_18 : decode cX0_rankCells 18 = .ok (.getfield 28, 3) := by decide +kernel
theorem dX0_rankCells_21 : decode cX0_rankCells 21 = .ok (.istore_n 2, 1) := by decide +kernel
theorem dX0_rankCells_22 : decode cX0_rankCells 22 = .ok (.iload_n 2, 1) := by decide +kernel
theorem dX0_rankCells_23 : decode cX0_rankCells 23 = .ok (.ifCond .le 45, 3) := by decide +kernel
theorem dX0_rankCells_26 : decode cX0_rankCells 26 = .ok (.aload_n 0, 1) := by decide +kernel
theorem dX0_rankCells_27 : decode cX0_rankCells 27 = .ok (.getfield 9, 3) := by decide +kernel
theorem dX0_rankCells_30 : decode cX0_rankCells 30 = .ok (.aload_n 0, 1) := by decide +kernel
theorem dX0_rankCells_31 : decode cX0_rankCells 31 = .ok (.getfield 15, 3) := by decide +kernel
theorem dX0_rankCells_34 : decode cX0_rankCells 34 = .ok (.iload_n 2, 1) := by decide +kernel
theorem dX0_rankCells_35 : decode cX0_rankCells 35 = .ok (.iconst 1, 1) := by decide +kernel
theorem dX0_rankCells_36 : decode cX0_rankCells 36 = .ok (.isub, 1) := by decide +kernel
theorem dX0_rankCells_37 : decode cX0_rankCells 37 = .ok (.iaload, 1) := by decide +kernel
theorem dX0_rankCells_38 : decode cX0_rankCells 38 = .ok (.iaload, 1) := by decide +kernel
theorem dX0_rankCells_39 : decode cX0_rankCells 39 = .ok (.aload_n 0, 1) := by decide +kernel
theorem dX0_rankCells_40 : decode cX0_rankCells 40 = .ok (.getfield 9, 3) := by decide +kernel
theorem dX0_rankCells_43 : decode cX0_rankCells 43 = .ok (.iload_n 1, 1) := by decide +kernel
theorem dX0_rankCells_44 : decode cX0_rankCells 44 = .ok (.iaload, 1) := by decide +kernel
theorem dX0_rankCells_45 : decode cX0_rankCells 45 = .ok (.if_icmp .ge 23, 3) := by decide +kernel
theorem dX0_rankCells_48 : decode cX0_rankCells 48 = .ok (.aload_n 0, 1) := by decide +kernel
theorem dX0_rankCells_49 : decode cX0_rankCells 49 = .ok (.getfield 15, 3) := by decide +kernel
theorem dX0_rankCells_52 : decode cX0_rankCells 52 = .ok (.iload_n 2, 1) := by decide +kernel
theorem dX0_rankCells_53 : decode cX0_rankCells 53 = .ok (.aload_n 0, 1) := by decide +kernel
theorem dX0_rankCells_54 : decode cX0_rankCells 54 = .ok (.getfield 15, 3) := by decide +kernel
theorem dX0_rankCells_57 : decode cX0_rankCells 57 = .ok (.iload_n 2, 1) := by decide +kernel
theorem dX0_rankCells_58 : decode cX0_rankCells 58 = .ok (.iconst 1, 1) := by decide +kernel
theorem dX0_rankCells_59 : decode cX0_rankCells 59 = .ok (.isub, 1) := by decide +kernel
theorem dX0_rankCells_60 : decode cX0_rankCells 60 = .ok (.iaload, 1) := by decide +kernel
theorem dX0_rankCells_61 : decode cX0_rankCells 61 = .ok (.iastore, 1) := by decide +kernel
theorem dX0_rankCells_62 : decode cX0_rankCells 62 = .ok (.iinc 2 (-1), 3) := by decide +kernel
theorem dX0_rankCells_65 : decode cX0_rankCells 65 = .ok (.goto (-43), 3) := by decide +kernel
theorem dX0_rankCells_68 : decode cX0_rankCells 68 = .ok (.aload_n 0, 1) := by decide +kernel
theorem dX0_rankCells_69 : decode cX0_rankCells 69 = .ok (.getfield 15, 3) := by decide +kernel
theorem dX0_rankCells_72 : decode cX0_rankCells 72 = .ok (.iload_n 2, 1) := by decide +kernel
theorem dX0_rankCells_73 : decode cX0_rankCells 73 = .ok (.iload_n 1, 1) := by decide +kernel
theorem dX0_rankCells_74 : decode cX0_rankCells 74 = .ok (.iastore, 1) := by decide +kernel
theorem dX0_rankCells_75 : decode cX0_rankCells 75 = .ok (.aload_n 0, 1) := by decide +kernel
theorem dX0_rankCells_76 : decode cX0_rankCells 76 = .ok (.dup, 1) := by decide +kernel
theorem dX0_rankCells_77 : decode cX0_rankCells 77 = .ok (.getfield 28, 3) := by decide +kernel
theorem dX0_rankCells_80 : decode cX0_rankCells 80 = .ok (.iconst 1, 1) := by decide +kernel
theorem dX0_rankCells_81 : decode cX0_rankCells 81 = .ok (.iadd, 1) := by decide +kernel
theorem dX0_rankCells_82 : decode cX0_rankCells 82 = .ok (.putfield 28, 3) := by decide +kernel
theorem dX0_rankCells_85 : decode cX0_rankCells 85 = .ok (.iinc 1 1, 3) := by decide +kernel
theorem dX0_rankCells_88 : decode cX0_rankCells 88 = .ok (.goto (-86), 3) := by decide +kernel
theorem dX0_rankCells_91 : decode cX0_rankCells 91 = .ok (.return_, 1) := by decide +kernel
theorem dX1_init_0 : decode cX1_init 0 = .ok (.aload_n 0, 1) := by decide +kernel
theorem dX1_init_1 : decode cX1_init 1 = .ok (.invokespecial 3, 3) := by decide +kernel
theorem dX1_init_4 : decode cX1_init 4 = .ok (.aload_n 0, 1) := by decide +kernel
theorem dX1_init_5 : decode cX1_init 5 = .ok (.sipush 385, 3) := by decide +kernel
theorem dX1_init_8 : decode cX1_init 8 = .ok (.newarray .int, 2) := by decide +kernel
theorem dX1_init_10 : decode cX1_init 10 = .ok (.putfield 9, 3) := by decide +kernel
theorem dX1_init_13 : decode cX1_init 13 = .ok (.aload_n 0, 1) := by decide +kernel
theorem dX1_init_14 : decode cX1_init 14 = .ok (.sipush 384, 3) := by decide +kernel
theorem dX1_init_17 : decode cX1_init 17 = .ok (.newarray .int, 2) := by decide +kernel
theorem dX1_init_19 : decode cX1_init 19 = .ok (.putfield 15, 3) := by decide +kernel
theorem dX1_init_22 : decode cX1_init 22 = .ok (.aload_n 0, 1) := by decide +kernel
theorem dX1_init_23 : decode cX1_init 23 = .ok (.sipush 320, 3) := by decide +kernel
theorem dX1_init_26 : decode cX1_init 26 = .ok (.newarray .int, 2) := by decide +kernel
theorem dX1_init_28 : decode cX1_init 28 = .ok (.putfield 18, 3) := by decide +kernel
theorem dX1_init_31 : decode cX1_init 31 = .ok (.return_, 1) := by decide +kernel
theorem dX1_unlikeKeys_0 : decode cX1_unlikeKeys 0 = .ok (.aload_n 0, 1) := by decide +kernel
theorem dX1_unlikeKeys_1 : decode cX1_unlikeKeys 1 = .ok (.getfield 21, 3) := by decide +kernel
theorem dX1_unlikeKeys_4 : decode cX1_unlikeKeys 4 = .ok (.ireturn, 1) := by decide +kernel
theorem dX1_allPlaces_0 : decode cX1_allPlaces 0 = .ok (.aload_n 0, 1) := by decide +kernel
theorem dX1_allPlaces_1 : decode cX1_allPlaces 1 = .ok (.getfield 9, 3) := by decide +kernel
theorem dX1_allPlaces_4 : decode cX1_allPlaces 4 = .ok (.sipush 384, 3) := by decide +kernel
theorem dX1_allPlaces_7 : decode cX1_allPlaces 7 = .ok (.iaload, 1) := by decide +kernel
theorem dX1_allPlaces_8 : decode cX1_allPlaces 8 = .ok (.ireturn, 1) := by decide +kernel
theorem dX1_placesOf_0 : decode cX1_placesOf 0 = .ok (.aload_n 0, 1) := by decide +kernel
theorem dX1_placesOf_1 : decode cX1_placesOf 1 = .ok (.getfield 9, 3) := by decide +kernel
theorem dX1_placesOf_4 : decode cX1_placesOf 4 = .ok (.iload_n 1, 1) := by decide +kernel
theorem dX1_placesOf_5 : decode cX1_placesOf 5 = .ok (.iconst 1, 1) := by decide +kernel
theorem dX1_placesOf_6 : decode cX1_placesOf 6 = .ok (.iadd, 1) := by decide +kernel
theorem dX1_placesOf_7 : decode cX1_placesOf 7 = .ok (.iaload, 1) := by decide +kernel
theorem dX1_placesOf_8 : decode cX1_placesOf 8 = .ok (.aload_n 0, 1) := by decide +kernel
theorem dX1_placesOf_9 : decode cX1_placesOf 9 = .ok (.getfield 9, 3) := by decide +kernel
theorem dX1_placesOf_12 : decode cX1_placesOf 12 = .ok (.iload_n 1, 1) := by decide +kernel
theorem dX1_placesOf_13 : decode cX1_placesOf 13 = .ok (.iaload, 1) := by decide +kernel
theorem dX1_placesOf_14 : decode cX1_placesOf 14 = .ok (.isub, 1) := by decide +kernel
theorem dX1_placesOf_15 : decode cX1_placesOf 15 = .ok (.ireturn, 1) := by decide +kernel
set_option maxRecDepth 20000 in
theorem ggX1_placeOf_X1_placesOf : GoodIn wsX1_placeOf wsX1_placesOf := goodIn_r _ [7, 2, 8, 9, 10, 11] (by decide +kernel) (by decide +kernel)
set_option maxRecDepth 20000 in
theorem gX1_placeOf_X1_placesOf : GoodIn wsX1_placeOf (wsV RX1 25 RX1 yX1_placesOf wsX1_placesOf) := goodIn_app (goodIn_of _ (by decide +kernel)) ggX1_placeOf_X1_placesOf
theorem dX1_placeOf_0 : decode cX1_placeOf 0 = .ok (.iload_n 2, 1) := by decide +kernel
theorem dX1_placeOf_1 : decode cX1_placeOf 1 = .ok (.aload_n 0, 1) := by decide +kernel
theorem dX1_placeOf_2 : decode cX1_placeOf 2 = .ok (.iload_n 1, 1) := by decide +kernel
theorem dX1_placeOf_3 : decode cX1_placeOf 3 = .ok (.invokevirtual 25, 3) := by decide +kernel
theorem dX1_placeOf_6 : decode cX1_placeOf 6 = .ok (.if_icmp .ge 19, 3) := by decide +kernel
theorem dX1_placeOf_9 : decode cX1_placeOf 9 = .ok (.aload_n 0, 1) := by decide +kernel
theorem dX1_placeOf_10 : decode cX1_placeOf 10 = .ok (.getfield 18, 3) := by decide +kernel
theorem dX1_placeOf_13 : decode cX1_placeOf 13 = .ok (.aload_n 0, 1) := by decide +kernel
theorem dX1_placeOf_14 : decode cX1_placeOf 14 = .ok (.getfield 9, 3) := by decide +kernel
theorem dX1_placeOf_17 : decode cX1_placeOf 17 = .ok (.iload_n 1, 1) := by decide +kernel
theorem dX1_placeOf_18 : decode cX1_placeOf 18 = .ok (.iaload, 1) := by decide +kernel
theorem dX1_placeOf_19 : decode cX1_placeOf 19 = .ok (.iload_n 2, 1) := by decide +kernel
theorem dX1_placeOf_20 : decode cX1_placeOf 20 = .ok (.iadd, 1) := by decide +kernel
theorem dX1_placeOf_21 : decode cX1_placeOf 21 = .ok (.iaload, 1) := by decide +kernel
theorem dX1_placeOf_22 : decode cX1_placeOf 22 = .ok (.goto 4, 3) := by decide +kernel
theorem dX1_placeOf_25 : decode cX1_placeOf 25 = .ok (.iconst (-1), 1) := by decide +kernel
theorem dX1_placeOf_26 : decode cX1_placeOf 26 = .ok (.ireturn, 1) := by decide +kernel
set_option maxRecDepth 20000 in
theorem ggX1_keyByRise_X1_placesOf : GoodIn wsX1_keyByRise wsX1_placesOf := goodIn_r _ [5, 6, 7, 8, 9, 10] (by decide +kernel) (by decide +kernel)
set_option maxRecDepth 20000 in
theorem gX1_keyByRise_X1_placesOf : GoodIn wsX1_keyByRise (wsV RX1 25 RX1 yX1_placesOf wsX1_placesOf) := goodIn_app (goodIn_of _ (by decide +kernel)) ggX1_keyByRise_X1_placesOf
theorem dX1_keyByRise_0 : decode cX1_keyByRise 0 = .ok (.iload_n 1, 1) := by decide +kernel
theorem dX1_keyByRise_1 : decode cX1_keyByRise 1 = .ok (.istore_n 2, 1) := by decide +kernel
theorem dX1_keyByRise_2 : decode cX1_keyByRise 2 = .ok (.bipush 64, 2) := by decide +kernel
theorem dX1_keyByRise_4 : decode cX1_keyByRise 4 = .ok (.istore_n 3, 1) := by decide +kernel
theorem dX1_keyByRise_5 : decode cX1_keyByRise 5 = .ok (.iload_n 3, 1) := by decide +kernel
theorem dX1_keyByRise_6 : decode cX1_keyByRise 6 = .ok (.sipush 383, 3) := by decide +kernel
theorem dX1_keyByRise_9 : decode cX1_keyByRise 9 = .ok (.if_icmp .gt 26, 3) := by decide +kernel
theorem dX1_keyByRise_12 : decode cX1_keyByRise 12 = .ok (.aload_n 0, 1) := by decide +kernel
theorem dX1_keyByRise_13 : decode cX1_keyByRise 13 = .ok (.iload_n 3, 1) := by decide +kernel
theorem dX1_keyByRise_14 : decode cX1_keyByRise 14 = .ok (.invokevirtual 25, 3) := by decide +kernel
theorem dX1_keyByRise_17 : decode cX1_keyByRise 17 = .ok (.ifCond .le 12, 3) := by decide +kernel
theorem dX1_keyByRise_20 : decode cX1_keyByRise 20 = .ok (.iload_n 2, 1) := by decide +kernel
theorem dX1_keyByRise_21 : decode cX1_keyByRise 21 = .ok (.ifCond .ne 5, 3) := by decide +kernel
theorem dX1_keyByRise_24 : decode cX1_keyByRise 24 = .ok (.iload_n 3, 1) := by decide +kernel
theorem dX1_keyByRise_25 : decode cX1_keyByRise 25 = .ok (.ireturn, 1) := by decide +kernel
theorem dX1_keyByRise_26 : decode cX1_keyByRise 26 = .ok (.iinc 2 (-1), 3) := by decide +kernel
theorem dX1_keyByRise_29 : decode cX1_keyByRise 29 = .ok (.iinc 3 1, 3) := by decide +kernel
theorem dX1_keyByRise_32 : decode cX1_keyByRise 32 = .ok (.goto (-27), 3) := by decide +kernel
theorem dX1_keyByRise_35 : decode cX1_keyByRise 35 = .ok (.iconst (-1), 1) := by decide +kernel
theorem dX1_keyByRise_36 : decode cX1_keyByRise 36 = .ok (.ireturn, 1) := by decide +kernel
set_option maxRecDepth 20000 in
theorem ggX1_write_X1_countKeys : GoodIn wsX1_write wsX1_countKeys := goodIn_r _ [5, 6, 7, 8, 9, 10, 11, 12, 13, 14, 15, 16, 28, 29, 30, 31, 32, 33, 34] (by decide +kernel) (by decide +kernel)
set_option maxRecDepth 20000 in
theorem gX1_write_X1_countKeys : GoodIn wsX1_write (wsV RX1 29 RX1 yX1_countKeys wsX1_countKeys) := goodIn_app (goodIn_of _ (by decide +kernel)) ggX1_write_X1_countKeys
set_option maxRecDepth 20000 in
theorem ggX1_write_X1_setStarts : GoodIn wsX1_write wsX1_setStarts := goodIn_r _ [20, 21, 22, 6, 28, 29, 30, 31] (by decide +kernel) (by decide +kernel)
set_option maxRecDepth 20000 in
theorem gX1_write_X1_setStarts : GoodIn wsX1_write (wsV RX1 33 RX1 yX1_setStarts wsX1_setStarts) := goodIn_app (goodIn_of _ (by decide +kernel)) ggX1_write_X1_setStarts
set_option maxRecDepth 20000 in
theorem ggX1_write_X1_fillEntries : GoodIn wsX1_write wsX1_fillEntries := goodIn_r _ [26, 27, 22, 6, 7, 8, 9, 10, 11, 12, 13, 14, 15, 16, 28, 29, 30, 31, 32, 33, 34] (by decide +kernel) (by decide +kernel)
set_option maxRecDepth 20000 in
theorem gX1_write_X1_fillEntries : GoodIn wsX1_write (wsV RX1 36 RX1 yX1_fillEntries wsX1_fillEntries) := goodIn_app (goodIn_of _ (by decide +kernel)) ggX1_write_X1_fillEntries
theorem dX1_write_0 : decode cX1_write 0 = .ok (.aload_n 0, 1) := by decide +kernel
theorem dX1_write_1 : decode cX1_write 1 = .ok (.aload_n 1, 1) := by decide +kernel
theorem dX1_write_2 : decode cX1_write 2 = .ok (.iload_n 2, 1) := by decide +kernel
theorem dX1_write_3 : decode cX1_write 3 = .ok (.invokevirtual 29, 3) := by decide +kernel
theorem dX1_write_6 : decode cX1_write 6 = .ok (.aload_n 0, 1) := by decide +kernel
theorem dX1_write_7 : decode cX1_write 7 = .ok (.invokevirtual 33, 3) := by decide +kernel
theorem dX1_write_10 : decode cX1_write 10 = .ok (.aload_n 0, 1) := by decide +kernel
theorem dX1_write_11 : decode cX1_write 11 = .ok (.aload_n 1, 1) := by decide +kernel
theorem dX1_write_12 : decode cX1_write 12 = .ok (.iload_n 2, 1) := by decide +kernel
theorem dX1_write_13 : decode cX1_write 13 = .ok (.invokevirtual 36, 3) := by decide +kernel
theorem dX1_write_16 : decode cX1_write 16 = .ok (.return_, 1) := by decide +kernel
set_option maxRecDepth 20000 in
theorem ggX1_countKeys_X3_keyOf : GoodIn wsX1_countKeys wsX3_keyOf := goodIn_r _ [6, 7, 8, 9, 5, 10, 11, 16, 17, 18] (by decide +kernel) (by decide +kernel)
set_option maxRecDepth 20000 in
theorem gX1_countKeys_X3_keyOf : GoodIn wsX1_countKeys (wsV RX1 39 RX3 yX3_keyOf wsX3_keyOf) := goodIn_app (goodIn_of _ (by decide +kernel)) ggX1_countKeys_X3_keyOf
theorem dX1_countKeys_0 : decode cX1_countKeys 0 = .ok (.iconst 0, 1) := by decide +kernel
theorem dX1_countKeys_1 : decode cX1_countKeys 1 = .ok (.istore_n 3, 1) := by decide +kernel
theorem dX1_countKeys_2 : decode cX1_countKeys 2 = .ok (.iload_n 3, 1) := by decide +kernel
theorem dX1_countKeys_3 : decode cX1_countKeys 3 = .ok (.sipush 383, 3) := by decide +kernel
theorem dX1_countKeys_6 : decode cX1_countKeys 6 = .ok (.if_icmp .gt 16, 3) := by decide +kernel
theorem dX1_countKeys_9 : decode cX1_countKeys 9 = .ok (.aload_n 0, 1) := by decide +kernel
theorem dX1_countKeys_10 : decode cX1_countKeys 10 = .ok (.getfield 15, 3) := by decide +kernel
theorem dX1_countKeys_13 : decode cX1_countKeys 13 = .ok (.iload_n 3, 1) := by decide +kernel
theorem dX1_countKeys_14 : decode cX1_countKeys 14 = .ok (.iconst 0, 1) := by decide +kernel
theorem dX1_countKeys_15 : decode cX1_countKeys 15 = .ok (.iastore, 1) := by decide +kernel
theorem dX1_countKeys_16 : decode cX1_countKeys 16 = .ok (.iinc 3 1, 3) := by decide +kernel
theorem dX1_countKeys_19 : decode cX1_countKeys 19 = .ok (.goto (-17), 3) := by decide +kernel
theorem dX1_countKeys_22 : decode cX1_countKeys 22 = .ok (.iconst 0, 1) := by decide +kernel
theorem dX1_countKeys_23 : decode cX1_countKeys 23 = .ok (.istore_n 3, 1) := by decide +kernel
theorem dX1_countKeys_24 : decode cX1_countKeys 24 = .ok (.iload_n 3, 1) := by decide +kernel
theorem dX1_countKeys_25 : decode cX1_countKeys 25 = .ok (.iconst 4, 1) := by decide +kernel
theorem dX1_countKeys_26 : decode cX1_countKeys 26 = .ok (.if_icmp .ge 72, 3) := by decide +kernel
theorem dX1_countKeys_29 : decode cX1_countKeys 29 = .ok (.iconst 0, 1) := by decide +kernel
theorem dX1_countKeys_30 : decode cX1_countKeys 30 = .ok (.istore 4, 2) := by decide +kernel
theorem dX1_countKeys_32 : decode cX1_countKeys 32 = .ok (.iload 4, 2) := by decide +kernel
theorem dX1_countKeys_34 : decode cX1_countKeys 34 = .ok (.bipush 16, 2) := by decide +kernel
theorem dX1_countKeys_36 : decode cX1_countKeys 36 = .ok (.if_icmp .ge 56, 3) := by decide +kernel
theorem dX1_countKeys_39 : decode cX1_countKeys 39 = .ok (.iconst 1, 1) := by decide +kernel
theorem dX1_countKeys_40 : decode cX1_countKeys 40 = .ok (.istore 5, 2) := by decide +kernel
theorem dX1_countKeys_42 : decode cX1_countKeys 42 = .ok (.iload 5, 2) := by decide +kernel
theorem dX1_countKeys_44 : decode cX1_countKeys 44 = .ok (.iload_n 2, 1) := by decide +kernel
theorem dX1_countKeys_45 : decode cX1_countKeys 45 = .ok (.if_icmp .gt 41, 3) := by decide +kernel
theorem dX1_countKeys_48 : decode cX1_countKeys 48 = .ok (.aload_n 1, 1) := by decide +kernel
theorem dX1_countKeys_49 : decode cX1_countKeys 49 = .ok (.iload_n 3, 1) := by decide +kernel
theorem dX1_countKeys_50 : decode cX1_countKeys 50 = .ok (.iload 4, 2) := by decide +kernel
theorem dX1_countKeys_52 : decode cX1_countKeys 52 = .ok (.iload 4, 2) := by decide +kernel
theorem dX1_countKeys_54 : decode cX1_countKeys 54 = .ok (.iload 5, 2) := by decide +kernel
theorem dX1_countKeys_56 : decode cX1_countKeys 56 = .ok (.iadd, 1) := by decide +kernel
theorem dX1_countKeys_57 : decode cX1_countKeys 57 = .ok (.iload_n 2, 1) := by decide +kernel
theorem dX1_countKeys_58 : decode cX1_countKeys 58 = .ok (.invokevirtual 39, 3) := by decide +kernel
theorem dX1_countKeys_61 : decode cX1_countKeys 61 = .ok (.istore 6, 2) := by decide +kernel
theorem dX1_countKeys_63 : decode cX1_countKeys 63 = .ok (.iload 6, 2) := by decide +kernel
theorem dX1_countKeys_65 : decode cX1_countKeys 65 = .ok (.iconst (-1), 1) := by decide +kernel
theorem dX1_countKeys_66 : decode cX1_countKeys 66 = .ok (.if_icmp .eq 14, 3) := by decide +kernel
theorem dX1_countKeys_69 : decode cX1_countKeys 69 = .ok (.aload_n 0, 1) := by decide +kernel
theorem dX1_countKeys_70 : decode cX1_countKeys 70 = .ok (.getfield 15, 3) := by decide +kernel
theorem dX1_countKeys_73 : decode cX1_countKeys 73 = .ok (.iload 6, 2) := by decide +kernel
theorem dX1_countKeys_75 : decode cX1_countKeys 75 = .ok (.dup2, 1) := by decide +kernel
theorem dX1_countKeys_76 : decode cX1_countKeys 76 = .ok (.iaload, 1) := by decide +kernel
theorem dX1_countKeys_77 : decode cX1_countKeys 77 = .ok (.iconst 1, 1) := by decide +kernel
theorem dX1_countKeys_78 : decode cX1_countKeys 78 = .ok (.iadd, 1) := by decide +kernel
theorem dX1_countKeys_79 : decode cX1_countKeys 79 = .ok (.iastore, 1) := by decide +kernel
theorem dX1_countKeys_80 : decode cX1_countKeys 80 = .ok (.iinc 5 1, 3) := by decide +kernel
theorem dX1_countKeys_83 : decode cX1_countKeys 83 = .ok (.goto (-41), 3) := by decide +kernel
theorem dX1_countKeys_86 : decode cX1_countKeys 86 = .ok (.iinc 4 1, 3) := by decide +kernel
theorem dX1_countKeys_89 : decode cX1_countKeys 89 = .ok (.goto (-57), 3) := by decide +kernel
theorem dX1_countKeys_92 : decode cX1_countKeys 92 = .ok (.iinc 3 1, 3) := by decide +kernel
theorem dX1_countKeys_95 : decode cX1_countKeys 95 = .ok (.goto (-71), 3) := by decide +kernel
theorem dX1_countKeys_98 : decode cX1_countKeys 98 = .ok (.return_, 1) := by decide +kernel
theorem dX1_setStarts_0 : decode cX1_setStarts 0 = .ok (.aload_n 0, 1) := by decide +kernel
theorem dX1_setStarts_1 : decode cX1_setStarts 1 = .ok (.iconst 0, 1) := by decide +kernel
theorem dX1_setStarts_2 : decode cX1_setStarts 2 = .ok (.putfield 21, 3) := by decide +kernel
theorem dX1_setStarts_5 : decode cX1_setStarts 5 = .ok (.aload_n 0, 1) := by decide +kernel
theorem dX1_setStarts_6 : decode cX1_setStarts 6 = .ok (.getfield 9, 3) := by decide +kernel
theorem dX1_setStarts_9 : decode cX1_setStarts 9 = .ok (.iconst 0, 1) := by decide +kernel
theorem dX1_setStarts_10 : decode cX1_setStarts 10 = .ok (.iconst 0, 1) := by decide +kernel
theorem dX1_setStarts_11 : decode cX1_setStarts 11 = .ok (.iastore, 1) := by decide +kernel
theorem dX1_setStarts_12 : decode cX1_setStarts 12 = .ok (.iconst 0, 1) := by decide +kernel
theorem dX1_setStarts_13 : decode cX1_setStarts 13 = .ok (.istore_n 1, 1) := by decide +kernel
theorem dX1_setStarts_14 : decode cX1_setStarts 14 = .ok (.iload_n 1, 1) := by decide +kernel
theorem dX1_setStarts_15 : decode cX1_setStarts 15 = .ok (.sipush 383, 3) := by decide +kernel
theorem dX1_setStarts_18 : decode cX1_setStarts 18 = .ok (.if_icmp .gt 56, 3) := by decide +kernel
theorem dX1_setStarts_21 : decode cX1_setStarts 21 = .ok (.aload_n 0, 1) := by decide +kernel
theorem dX1_setStarts_22 : decode cX1_setStarts 22 = .ok (.getfield 9, 3) := by decide +kernel
theorem dX1_setStarts_25 : decode cX1_setStarts 25 = .ok (.iload_n 1, 1) := by decide +kernel
theorem dX1_setStarts_26 : decode cX1_setStarts 26 = .ok (.iconst 1, 1) := by decide +kernel
theorem dX1_setStarts_27 : decode cX1_setStarts 27 = .ok (.iadd, 1) := by decide +kernel
theorem dX1_setStarts_28 : decode cX1_setStarts 28 = .ok (.aload_n 0, 1) := by decide +kernel
theorem dX1_setStarts_29 : decode cX1_setStarts 29 = .ok (.getfield 9, 3) := by decide +kernel
theorem dX1_setStarts_32 : decode cX1_setStarts 32 = .ok (.iload_n 1, 1) := by decide +kernel
theorem dX1_setStarts_33 : decode cX1_setStarts 33 = .ok (.iaload, 1) := by decide +kernel
theorem dX1_setStarts_34 : decode cX1_setStarts 34 = .ok (.aload_n 0, 1) := by decide +kernel
theorem dX1_setStarts_35 : decode cX1_setStarts 35 = .ok (.getfield 15, 3) := by decide +kernel
theorem dX1_setStarts_38 : decode cX1_setStarts 38 = .ok (.iload_n 1, 1) := by decide +kernel
theorem dX1_setStarts_39 : decode cX1_setStarts 39 = .ok (.iaload, 1) := by decide +kernel
theorem dX1_setStarts_40 : decode cX1_setStarts 40 = .ok (.iadd, 1) := by decide +kernel
theorem dX1_setStarts_41 : decode cX1_setStarts 41 = .ok (.iastore, 1) := by decide +kernel
theorem dX1_setStarts_42 : decode cX1_setStarts 42 = .ok (.aload_n 0, 1) := by decide +kernel
theorem dX1_setStarts_43 : decode cX1_setStarts 43 = .ok (.getfield 15, 3) := by decide +kernel
theorem dX1_setStarts_46 : decode cX1_setStarts 46 = .ok (.iload_n 1, 1) := by decide +kernel
theorem dX1_setStarts_47 : decode cX1_setStarts 47 = .ok (.iaload, 1) := by decide +kernel
theorem dX1_setStarts_48 : decode cX1_setStarts 48 = .ok (.ifCond .le 13, 3) := by decide +kernel
theorem dX1_setStarts_51 : decode cX1_setStarts 51 = .ok (.aload_n 0, 1) := by decide +kernel
theorem dX1_setStarts_52 : decode cX1_setStarts 52 = .ok (.dup, 1) := by decide +kernel
theorem dX1_setStarts_53 : decode cX1_setStarts 53 = .ok (.getfield 21, 3) := by decide +kernel
theorem dX1_setStarts_56 : decode cX1_setStarts 56 = .ok (.iconst 1, 1) := by decide +kernel
theorem dX1_setStarts_57 : decode cX1_setStarts 57 = .ok (.iadd, 1) := by decide +kernel
theorem dX1_setStarts_58 : decode cX1_setStarts 58 = .ok (.putfield 21, 3) := by decide +kernel
theorem dX1_setStarts_61 : decode cX1_setStarts 61 = .ok (.aload_n 0, 1) := by decide +kernel
theorem dX1_setStarts_62 : decode cX1_setStarts 62 = .ok (.getfield 15, 3) := by decide +kernel
theorem dX1_setStarts_65 : decode cX1_setStarts 65 = .ok (.iload_n 1, 1) := by decide +kernel
theorem dX1_setStarts_66 : decode cX1_setStarts 66 = .ok (.iconst 0, 1) := by decide +kernel
theorem dX1_setStarts_67 : decode cX1_setStarts 67 = .ok (.iastore, 1) := by decide +kernel
theorem dX1_setStarts_68 : decode cX1_setStarts 68 = .ok (.iinc 1 1, 3) := by decide +kernel
theorem dX1_setStarts_71 : decode cX1_setStarts 71 = .ok (.goto (-57), 3) := by decide +kernel
theorem dX1_setStarts_74 : decode cX1_setStarts 74 = .ok (.return_, 1) := by decide +kernel
set_option maxRecDepth 20000 in
theorem ggX1_fillEntries_X3_keyOf : GoodIn wsX1_fillEntries wsX3_keyOf := goodIn_r _ [8, 9, 10, 11, 7, 12, 13, 18, 19, 20] (by decide +kernel) (by decide +kernel)
set_option maxRecDepth 20000 in
theorem gX1_fillEntries_X3_keyOf : GoodIn wsX1_fillEntries (wsV RX1 39 RX3 yX3_keyOf wsX3_keyOf) := goodIn_app (goodIn_of _ (by decide +kernel)) ggX1_fillEntries_X3_keyOf
theorem dX1_fillEntries_0 : decode cX1_fillEntries 0 = .ok (.iconst 0, 1) := by decide +kernel
theorem dX1_fillEntries_1 : decode cX1_fillEntries 1 = .ok (.istore_n 3, 1) := by decide +kernel
theorem dX1_fillEntries_2 : decode cX1_fillEntries 2 = .ok (.iload_n 3, 1) := by decide +kernel
theorem dX1_fillEntries_3 : decode cX1_fillEntries 3 = .ok (.iconst 4, 1) := by decide +kernel
theorem dX1_fillEntries_4 : decode cX1_fillEntries 4 = .ok (.if_icmp .ge 100, 3) := by decide +kernel
theorem dX1_fillEntries_7 : decode cX1_fillEntries 7 = .ok (.iconst 0, 1) := by decide +kernel
theorem dX1_fillEntries_8 : decode cX1_fillEntries 8 = .ok (.istore 4, 2) := by decide +kernel
theorem dX1_fillEntries_10 : decode cX1_fillEntries 10 = .ok (.iload 4, 2) := by decide +kernel
theorem dX1_fillEntries_12 : decode cX1_fillEntries 12 = .ok (.bipush 16, 2) := by decide +kernel
theorem dX1_fillEntries_14 : decode cX1_fillEntries 14 = .ok (.if_icmp .ge 84, 3) := by decide +kernel
theorem dX1_fillEntries_17 : decode cX1_fillEntries 17 = .ok (.iconst 1, 1) := by decide +kernel
theorem dX1_fillEntries_18 : decode cX1_fillEntries 18 = .ok (.istore 5, 2) := by decide +kernel
theorem dX1_fillEntries_20 : decode cX1_fillEntries 20 = .ok (.iload 5, 2) := by decide +kernel
theorem dX1_fillEntries_22 : decode cX1_fillEntries 22 = .ok (.iload_n 2, 1) := by decide +kernel
theorem dX1_fillEntries_23 : decode cX1_fillEntries 23 = .ok (.if_icmp .gt 69, 3) := by decide +kernel
theorem dX1_fillEntries_26 : decode cX1_fillEntries 26 = .ok (.aload_n 1, 1) := by decide +kernel
theorem dX1_fillEntries_27 : decode cX1_fillEntries 27 = .ok (.iload_n 3, 1) := by decide +kernel
theorem dX1_fillEntries_28 : decode cX1_fillEntries 28 = .ok (.iload 4, 2) := by decide +kernel
theorem dX1_fillEntries_30 : decode cX1_fillEntries 30 = .ok (.iload 4, 2) := by decide +kernel
theorem dX1_fillEntries_32 : decode cX1_fillEntries 32 = .ok (.iload 5, 2) := by decide +kernel
theorem dX1_fillEntries_34 : decode cX1_fillEntries 34 = .ok (.iadd, 1) := by decide +kernel
theorem dX1_fillEntries_35 : decode cX1_fillEntries 35 = .ok (.iload_n 2, 1) := by decide +kernel
theorem dX1_fillEntries_36 : decode cX1_fillEntries 36 = .ok (.invokevirtual 39, 3) := by decide +kernel
theorem dX1_fillEntries_39 : decode cX1_fillEntries 39 = .ok (.istore 6, 2) := by decide +kernel
theorem dX1_fillEntries_41 : decode cX1_fillEntries 41 = .ok (.iload 6, 2) := by decide +kernel
theorem dX1_fillEntries_43 : decode cX1_fillEntries 43 = .ok (.iconst (-1), 1) := by decide +kernel
theorem dX1_fillEntries_44 : decode cX1_fillEntries 44 = .ok (.if_icmp .eq 42, 3) := by decide +kernel
theorem dX1_fillEntries_47 : decode cX1_fillEntries 47 = .ok (.aload_n 0, 1) := by decide +kernel
theorem dX1_fillEntries_48 : decode cX1_fillEntries 48 = .ok (.getfield 18, 3) := by decide +kernel
theorem dX1_fillEntries_51 : decode cX1_fillEntries 51 = .ok (.aload_n 0, 1) := by decide +kernel
theorem dX1_fillEntries_52 : decode cX1_fillEntries 52 = .ok (.getfield 9, 3) := by decide +kernel
theorem dX1_fillEntries_55 : decode cX1_fillEntries 55 = .ok (.iload 6, 2) := by decide +kernel
theorem dX1_fillEntries_57 : decode cX1_fillEntries 57 = .ok (.iaload, 1) := by decide +kernel
theorem dX1_fillEntries_58 : decode cX1_fillEntries 58 = .ok (.aload_n 0, 1) := by decide +kernel
theorem dX1_fillEntries_59 : decode cX1_fillEntries 59 = .ok (.getfield 15, 3) := by decide +kernel
theorem dX1_fillEntries_62 : decode cX1_fillEntries 62 = .ok (.iload 6, 2) := by decide +kernel
theorem dX1_fillEntries_64 : decode cX1_fillEntries 64 = .ok (.iaload, 1) := by decide +kernel
theorem dX1_fillEntries_65 : decode cX1_fillEntries 65 = .ok (.iadd, 1) := by decide +kernel
theorem dX1_fillEntries_66 : decode cX1_fillEntries 66 = .ok (.sipush 1000, 3) := by decide +kernel
theorem dX1_fillEntries_69 : decode cX1_fillEntries 69 = .ok (.iload_n 3, 1) := by decide +kernel
theorem dX1_fillEntries_70 : decode cX1_fillEntries 70 = .ok (.imul, 1) := by decide +kernel
theorem dX1_fillEntries_71 : decode cX1_fillEntries 71 = .ok (.iload 4, 2) := by decide +kernel
theorem dX1_fillEntries_73 : decode cX1_fillEntries 73 = .ok (.iadd, 1) := by decide +kernel
theorem dX1_fillEntries_74 : decode cX1_fillEntries 74 = .ok (.iastore, 1) := by decide +kernel
theorem dX1_fillEntries_75 : decode cX1_fillEntries 75 = .ok (.aload_n 0, 1) := by decide +kernel
theorem dX1_fillEntries_76 : decode cX1_fillEntries 76 = .ok (.getfield 15, 3) := by decide +kernel
theorem dX1_fillEntries_79 : decode cX1_fillEntries 79 = .ok (.iload 6, 2) := by decide +kernel
theorem dX1_fillEntries_81 : decode cX1_fillEntries 81 = .ok (.dup2, 1) := by decide +kernel
theorem dX1_fillEntries_82 : decode cX1_fillEntries 82 = .ok (.iaload, 1) := by decide +kernel
theorem dX1_fillEntries_83 : decode cX1_fillEntries 83 = .ok (.iconst 1, 1) := by decide +kernel
theorem dX1_fillEntries_84 : decode cX1_fillEntries 84 = .ok (.iadd, 1) := by decide +kernel
theorem dX1_fillEntries_85 : decode cX1_fillEntries 85 = .ok (.iastore, 1) := by decide +kernel
theorem dX1_fillEntries_86 : decode cX1_fillEntries 86 = .ok (.iinc 5 1, 3) := by decide +kernel
theorem dX1_fillEntries_89 : decode cX1_fillEntries 89 = .ok (.goto (-69), 3) := by decide +kernel
theorem dX1_fillEntries_92 : decode cX1_fillEntries 92 = .ok (.iinc 4 1, 3) := by decide +kernel
theorem dX1_fillEntries_95 : decode cX1_fillEntries 95 = .ok (.goto (-85), 3) := by decide +kernel
theorem dX1_fillEntries_98 : decode cX1_fillEntries 98 = .ok (.iinc 3 1, 3) := by decide +kernel
theorem dX1_fillEntries_101 : decode cX1_fillEntries 101 = .ok (.goto (-99), 3) := by decide +kernel
theorem dX1_fillEntries_104 : decode cX1_fillEntries 104 = .ok (.return_, 1) := by decide +kernel
theorem dX2_init_0 : decode cX2_init 0 = .ok (.aload_n 0, 1) := by decide +kernel
theorem dX2_init_1 : decode cX2_init 1 = .ok (.invokespecial 3, 3) := by decide +kernel
theorem dX2_init_4 : decode cX2_init 4 = .ok (.aload_n 0, 1) := by decide +kernel
theorem dX2_init_5 : decode cX2_init 5 = .ok (.sipush 1024, 3) := by decide +kernel
theorem dX2_init_8 : decode cX2_init 8 = .ok (.newarray .int, 2) := by decide +kernel
theorem dX2_init_10 : decode cX2_init 10 = .ok (.putfield 9, 3) := by decide +kernel
theorem dX2_init_13 : decode cX2_init 13 = .ok (.aload_n 0, 1) := by decide +kernel
theorem dX2_init_14 : decode cX2_init 14 = .ok (.bipush 8, 2) := by decide +kernel
theorem dX2_init_16 : decode cX2_init 16 = .ok (.newarray .int, 2) := by decide +kernel
theorem dX2_init_18 : decode cX2_init 18 = .ok (.putfield 15, 3) := by decide +kernel
theorem dX2_init_21 : decode cX2_init 21 = .ok (.aload_n 0, 1) := by decide +kernel
theorem dX2_init_22 : decode cX2_init 22 = .ok (.bipush 8, 2) := by decide +kernel
theorem dX2_init_24 : decode cX2_init 24 = .ok (.newarray .int, 2) := by decide +kernel
theorem dX2_init_26 : decode cX2_init 26 = .ok (.putfield 18, 3) := by decide +kernel
theorem dX2_init_29 : decode cX2_init 29 = .ok (.aload_n 0, 1) := by decide +kernel
theorem dX2_init_30 : decode cX2_init 30 = .ok (.bipush 8, 2) := by decide +kernel
theorem dX2_init_32 : decode cX2_init 32 = .ok (.newarray .int, 2) := by decide +kernel
theorem dX2_init_34 : decode cX2_init 34 = .ok (.putfield 21, 3) := by decide +kernel
theorem dX2_init_37 : decode cX2_init 37 = .ok (.aload_n 0, 1) := by decide +kernel
theorem dX2_init_38 : decode cX2_init 38 = .ok (.bipush 8, 2) := by decide +kernel
theorem dX2_init_40 : decode cX2_init 40 = .ok (.newarray .int, 2) := by decide +kernel
theorem dX2_init_42 : decode cX2_init 42 = .ok (.putfield 24, 3) := by decide +kernel
theorem dX2_init_45 : decode cX2_init 45 = .ok (.return_, 1) := by decide +kernel
theorem dX2_depth_0 : decode cX2_depth 0 = .ok (.aload_n 0, 1) := by decide +kernel
theorem dX2_depth_1 : decode cX2_depth 1 = .ok (.getfield 27, 3) := by decide +kernel
theorem dX2_depth_4 : decode cX2_depth 4 = .ok (.ireturn, 1) := by decide +kernel
theorem dX2_forget_0 : decode cX2_forget 0 = .ok (.aload_n 0, 1) := by decide +kernel
theorem dX2_forget_1 : decode cX2_forget 1 = .ok (.iconst 0, 1) := by decide +kernel
theorem dX2_forget_2 : decode cX2_forget 2 = .ok (.putfield 27, 3) := by decide +kernel
theorem dX2_forget_5 : decode cX2_forget 5 = .ok (.return_, 1) := by decide +kernel
set_option maxRecDepth 20000 in
theorem ggX2_remember_X4_copyRowTo : GoodIn wsX2_remember wsX4_copyRowTo := goodIn_r _ [16, 17, 18, 19, 20, 21, 44, 45, 46, 47] (by decide +kernel) (by decide +kernel)
set_option maxRecDepth 20000 in
theorem gX2_remember_X4_copyRowTo : GoodIn wsX2_remember (wsV RX2 34 RX4 yX4_copyRowTo wsX4_copyRowTo) := goodIn_app (goodIn_of _ (by decide +kernel)) ggX2_remember_X4_copyRowTo
set_option maxRecDepth 20000 in
theorem ggX2_remember_X4_sizeOf : GoodIn wsX2_remember wsX4_sizeOf := goodIn_r _ [25, 26, 44, 45, 46, 47] (by decide +kernel) (by decide +kernel)
set_option maxRecDepth 20000 in
theorem gX2_remember_X4_sizeOf : GoodIn wsX2_remember (wsV RX2 40 RX4 yX4_sizeOf wsX4_sizeOf) := goodIn_app (goodIn_of _ (by decide +kernel)) ggX2_remember_X4_sizeOf
set_option maxRecDepth 20000 in
theorem ggX2_remember_X4_floor : GoodIn wsX2_remember wsX4_floor := goodIn_r _ [30, 31, 44, 45, 46, 47] (by decide +kernel) (by decide +kernel)
set_option maxRecDepth 20000 in
theorem gX2_remember_X4_floor : GoodIn wsX2_remember (wsV RX2 44 RX4 yX4_floor wsX4_floor) := goodIn_app (goodIn_of _ (by decide +kernel)) ggX2_remember_X4_floor
set_option maxRecDepth 20000 in
theorem ggX2_remember_X4_reach : GoodIn wsX2_remember wsX4_reach := goodIn_r _ [35, 36, 44, 45, 46, 47] (by decide +kernel) (by decide +kernel)
set_option maxRecDepth 20000 in
theorem gX2_remember_X4_reach : GoodIn wsX2_remember (wsV RX2 48 RX4 yX4_reach wsX4_reach) := goodIn_app (goodIn_of _ (by decide +kernel)) ggX2_remember_X4_reach
theorem dX2_remember_0 : decode cX2_remember 0 = .ok (.aload_n 1, 1) := by decide +kernel
theorem dX2_remember_1 : decode cX2_remember 1 = .ok (.iload_n 2, 1) := by decide +kernel
theorem dX2_remember_2 : decode cX2_remember 2 = .ok (.aload_n 0, 1) := by decide +kernel
theorem dX2_remember_3 : decode cX2_remember 3 = .ok (.getfield 9, 3) := by decide +kernel
theorem dX2_remember_6 : decode cX2_remember 6 = .ok (.aload_n 0, 1) := by decide +kernel
theorem dX2_remember_7 : decode cX2_remember 7 = .ok (.getfield 31, 3) := by decide +kernel
theorem dX2_remember_10 : decode cX2_remember 10 = .ok (.sipush 128, 3) := by decide +kernel
theorem dX2_remember_13 : decode cX2_remember 13 = .ok (.imul, 1) := by decide +kernel
theorem dX2_remember_14 : decode cX2_remember 14 = .ok (.invokevirtual 34, 3) := by decide +kernel
theorem dX2_remember_17 : decode cX2_remember 17 = .ok (.aload_n 0, 1) := by decide +kernel
theorem dX2_remember_18 : decode cX2_remember 18 = .ok (.getfield 15, 3) := by decide +kernel
theorem dX2_remember_21 : decode cX2_remember 21 = .ok (.aload_n 0, 1) := by decide +kernel
theorem dX2_remember_22 : decode cX2_remember 22 = .ok (.getfield 31, 3) := by decide +kernel
theorem dX2_remember_25 : decode cX2_remember 25 = .ok (.iload_n 2, 1) := by decide +kernel
theorem dX2_remember_26 : decode cX2_remember 26 = .ok (.iastore, 1) := by decide +kernel
theorem dX2_remember_27 : decode cX2_remember 27 = .ok (.aload_n 0, 1) := by decide +kernel
theorem dX2_remember_28 : decode cX2_remember 28 = .ok (.getfield 18, 3) := by decide +kernel
theorem dX2_remember_31 : decode cX2_remember 31 = .ok (.aload_n 0, 1) := by decide +kernel
theorem dX2_remember_32 : decode cX2_remember 32 = .ok (.getfield 31, 3) := by decide +kernel
theorem dX2_remember_35 : decode cX2_remember 35 = .ok (.aload_n 1, 1) := by decide +kernel
theorem dX2_remember_36 : decode cX2_remember 36 = .ok (.iload_n 2, 1) := by decide +kernel
theorem dX2_remember_37 : decode cX2_remember 37 = .ok (.invokevirtual 40, 3) := by decide +kernel
theorem dX2_remember_40 : decode cX2_remember 40 = .ok (.iastore, 1) := by decide +kernel
theorem dX2_remember_41 : decode cX2_remember 41 = .ok (.aload_n 0, 1) := by decide +kernel
theorem dX2_remember_42 : decode cX2_remember 42 = .ok (.getfield 21, 3) := by decide +kernel
theorem dX2_remember_45 : decode cX2_remember 45 = .ok (.aload_n 0, 1) := by decide +kernel
theorem dX2_remember_46 : decode cX2_remember 46 = .ok (.getfield 31, 3) := by decide +kernel
theorem dX2_remember_49 : decode cX2_remember 49 = .ok (.aload_n 1, 1) := by decide +kernel
theorem dX2_remember_50 : decode cX2_remember 50 = .ok (.invokevirtual 44, 3) := by decide +kernel
theorem dX2_remember_53 : decode cX2_remember 53 = .ok (.iastore, 1) := by decide +kernel
theorem dX2_remember_54 : decode cX2_remember 54 = .ok (.aload_n 0, 1) := by decide +kernel
theorem dX2_remember_55 : decode cX2_remember 55 = .ok (.getfield 24, 3) := by decide +kernel
theorem dX2_remember_58 : decode cX2_remember 58 = .ok (.aload_n 0, 1) := by decide +kernel
theorem dX2_remember_59 : decode cX2_remember 59 = .ok (.getfield 31, 3) := by decide +kernel
theorem dX2_remember_62 : decode cX2_remember 62 = .ok (.aload_n 1, 1) := by decide +kernel
theorem dX2_remember_63 : decode cX2_remember 63 = .ok (.invokevirtual 48, 3) := by decide +kernel
theorem dX2_remember_66 : decode cX2_remember 66 = .ok (.iastore, 1) := by decide +kernel
theorem dX2_remember_67 : decode cX2_remember 67 = .ok (.aload_n 0, 1) := by decide +kernel
theorem dX2_remember_68 : decode cX2_remember 68 = .ok (.aload_n 0, 1) := by decide +kernel
theorem dX2_remember_69 : decode cX2_remember 69 = .ok (.getfield 31, 3) := by decide +kernel
theorem dX2_remember_72 : decode cX2_remember 72 = .ok (.iconst 1, 1) := by decide +kernel
theorem dX2_remember_73 : decode cX2_remember 73 = .ok (.iadd, 1) := by decide +kernel
theorem dX2_remember_74 : decode cX2_remember 74 = .ok (.bipush 8, 2) := by decide +kernel
theorem dX2_remember_76 : decode cX2_remember 76 = .ok (.irem, 1) := by decide +kernel
theorem dX2_remember_77 : decode cX2_remember 77 = .ok (.putfield 31, 3) := by decide +kernel
theorem dX2_remember_80 : decode cX2_remember 80 = .ok (.aload_n 0, 1) := by decide +kernel
theorem dX2_remember_81 : decode cX2_remember 81 = .ok (.aload_n 0, 1) := by decide +kernel
theorem dX2_remember_82 : decode cX2_remember 82 = .ok (.getfield 27, 3) := by decide +kernel
theorem dX2_remember_85 : decode cX2_remember 85 = .ok (.iconst 1, 1) := by decide +kernel
theorem dX2_remember_86 : decode cX2_remember 86 = .ok (.iadd, 1) := by decide +kernel
theorem dX2_remember_87 : decode cX2_remember 87 = .ok (.bipush 8, 2) := by decide +kernel
theorem dX2_remember_89 : decode cX2_remember 89 = .ok (.invokestatic 51, 3) := by decide +kernel
theorem dX2_remember_92 : decode cX2_remember 92 = .ok (.putfield 27, 3) := by decide +kernel
theorem dX2_remember_95 : decode cX2_remember 95 = .ok (.return_, 1) := by decide +kernel
set_option maxRecDepth 20000 in
theorem ggX2_restoreLatest_X4_takeRow : GoodIn wsX2_restoreLatest wsX4_takeRow := goodIn_r _ [12, 13, 14, 15, 16, 17, 18, 36, 37, 38, 39] (by decide +kernel) (by decide +kernel)
set_option maxRecDepth 20000 in
theorem gX2_restoreLatest_X4_takeRow : GoodIn wsX2_restoreLatest (wsV RX2 57 RX4 yX4_takeRow wsX4_takeRow) := goodIn_app (goodIn_of _ (by decide +kernel)) ggX2_restoreLatest_X4_takeRow
set_option maxRecDepth 20000 in
theorem ggX2_restoreLatest_X4_setFloor : GoodIn wsX2_restoreLatest wsX4_setFloor := goodIn_r _ [22, 23, 36, 37, 38, 39] (by decide +kernel) (by decide +kernel)
set_option maxRecDepth 20000 in
theorem gX2_restoreLatest_X4_setFloor : GoodIn wsX2_restoreLatest (wsV RX2 61 RX4 yX4_setFloor wsX4_setFloor) := goodIn_app (goodIn_of _ (by decide +kernel)) ggX2_restoreLatest_X4_setFloor
set_option maxRecDepth 20000 in
theorem ggX2_restoreLatest_X4_setReach : GoodIn wsX2_restoreLatest wsX4_setReach := goodIn_r _ [27, 28, 36, 37, 38, 39] (by decide +kernel) (by decide +kernel)
set_option maxRecDepth 20000 in
theorem gX2_restoreLatest_X4_setReach : GoodIn wsX2_restoreLatest (wsV RX2 65 RX4 yX4_setReach wsX4_setReach) := goodIn_app (goodIn_of _ (by decide +kernel)) ggX2_restoreLatest_X4_setReach
theorem dX2_restoreLatest_0 : decode cX2_restoreLatest 0 = .ok (.aload_n 0, 1) := by decide +kernel
theorem dX2_restoreLatest_1 : decode cX2_restoreLatest 1 = .ok (.getfield 27, 3) := by decide +kernel
theorem dX2_restoreLatest_4 : decode cX2_restoreLatest 4 = .ok (.ifCond .ne 4, 3) := by decide +kernel
theorem dX2_restoreLatest_7 : decode cX2_restoreLatest 7 = .ok (.return_, 1) := by decide +kernel
theorem dX2_restoreLatest_8 : decode cX2_restoreLatest 8 = .ok (.aload_n 0, 1) := by decide +kernel
theorem dX2_restoreLatest_9 : decode cX2_restoreLatest 9 = .ok (.aload_n 0, 1) := by decide +kernel
theorem dX2_restoreLatest_10 : decode cX2_restoreLatest 10 = .ok (.getfield 31, 3) := by decide +kernel
theorem dX2_restoreLatest_13 : decode cX2_restoreLatest 13 = .ok (.bipush 8, 2) := by decide +kernel
theorem dX2_restoreLatest_15 : decode cX2_restoreLatest 15 = .ok (.iadd, 1) := by decide +kernel
theorem dX2_restoreLatest_16 : decode cX2_restoreLatest 16 = .ok (.iconst 1, 1) := by decide +kernel
theorem dX2_restoreLatest_17 : decode cX2_restoreLatest 17 = .ok (.isub, 1) := by decide +kernel
theorem dX2_restoreLatest_18 : decode cX2_restoreLatest 18 = .ok (.bipush 8, 2) := by decide +kernel
theorem dX2_restoreLatest_20 : decode cX2_restoreLatest 20 = .ok (.irem, 1) := by decide +kernel
theorem dX2_restoreLatest_21 : decode cX2_restoreLatest 21 = .ok (.putfield 31, 3) := by decide +kernel
theorem dX2_restoreLatest_24 : decode cX2_restoreLatest 24 = .ok (.aload_n 0, 1) := by decide +kernel
theorem dX2_restoreLatest_25 : decode cX2_restoreLatest 25 = .ok (.dup, 1) := by decide +kernel
theorem dX2_restoreLatest_26 : decode cX2_restoreLatest 26 = .ok (.getfield 27, 3) := by decide +kernel
theorem dX2_restoreLatest_29 : decode cX2_restoreLatest 29 = .ok (.iconst 1, 1) := by decide +kernel
theorem dX2_restoreLatest_30 : decode cX2_restoreLatest 30 = .ok (.isub, 1) := by decide +kernel
theorem dX2_restoreLatest_31 : decode cX2_restoreLatest 31 = .ok (.putfield 27, 3) := by decide +kernel
theorem dX2_restoreLatest_34 : decode cX2_restoreLatest 34 = .ok (.aload_n 1, 1) := by decide +kernel
theorem dX2_restoreLatest_35 : decode cX2_restoreLatest 35 = .ok (.aload_n 0, 1) := by decide +kernel
theorem dX2_restoreLatest_36 : decode cX2_restoreLatest 36 = .ok (.getfield 15, 3) := by decide +kernel
theorem dX2_restoreLatest_39 : decode cX2_restoreLatest 39 = .ok (.aload_n 0, 1) := by decide +kernel
theorem dX2_restoreLatest_40 : decode cX2_restoreLatest 40 = .ok (.getfield 31, 3) := by decide +kernel
theorem dX2_restoreLatest_43 : decode cX2_restoreLatest 43 = .ok (.iaload, 1) := by decide +kernel
theorem dX2_restoreLatest_44 : decode cX2_restoreLatest 44 = .ok (.aload_n 0, 1) := by decide +kernel
theorem dX2_restoreLatest_45 : decode cX2_restoreLatest 45 = .ok (.getfield 9, 3) := by decide +kernel
theorem dX2_restoreLatest_48 : decode cX2_restoreLatest 48 = .ok (.aload_n 0, 1) := by decide +kernel
theorem dX2_restoreLatest_49 : decode cX2_restoreLatest 49 = .ok (.getfield 31, 3) := by decide +kernel
theorem dX2_restoreLatest_52 : decode cX2_restoreLatest 52 = .ok (.sipush 128, 3) := by decide +kernel
theorem dX2_restoreLatest_55 : decode cX2_restoreLatest 55 = .ok (.imul, 1) := by decide +kernel
theorem dX2_restoreLatest_56 : decode cX2_restoreLatest 56 = .ok (.aload_n 0, 1) := by decide +kernel
theorem dX2_restoreLatest_57 : decode cX2_restoreLatest 57 = .ok (.getfield 18, 3) := by decide +kernel
theorem dX2_restoreLatest_60 : decode cX2_restoreLatest 60 = .ok (.aload_n 0, 1) := by decide +kernel
theorem dX2_restoreLatest_61 : decode cX2_restoreLatest 61 = .ok (.getfield 31, 3) := by decide +kernel
theorem dX2_restoreLatest_64 : decode cX2_restoreLatest 64 = .ok (.iaload, 1) := by decide +kernel
theorem dX2_restoreLatest_65 : decode cX2_restoreLatest 65 = .ok (.invokevirtual 57, 3) := by decide +kernel
theorem dX2_restoreLatest_68 : decode cX2_restoreLatest 68 = .ok (.aload_n 1, 1) := by decide +kernel
theorem dX2_restoreLatest_69 : decode cX2_restoreLatest 69 = .ok (.aload_n 0, 1) := by decide +kernel
theorem dX2_restoreLatest_70 : decode cX2_restoreLatest 70 = .ok (.getfield 21, 3) := by decide +kernel
theorem dX2_restoreLatest_73 : decode cX2_restoreLatest 73 = .ok (.aload_n 0, 1) := by decide +kernel
theorem dX2_restoreLatest_74 : decode cX2_restoreLatest 74 = .ok (.getfield 31, 3) := by decide +kernel
theorem dX2_restoreLatest_77 : decode cX2_restoreLatest 77 = .ok (.iaload, 1) := by decide +kernel
theorem dX2_restoreLatest_78 : decode cX2_restoreLatest 78 = .ok (.invokevirtual 61, 3) := by decide +kernel
theorem dX2_restoreLatest_81 : decode cX2_restoreLatest 81 = .ok (.aload_n 1, 1) := by decide +kernel
theorem dX2_restoreLatest_82 : decode cX2_restoreLatest 82 = .ok (.aload_n 0, 1) := by decide +kernel
theorem dX2_restoreLatest_83 : decode cX2_restoreLatest 83 = .ok (.getfield 24, 3) := by decide +kernel
theorem dX2_restoreLatest_86 : decode cX2_restoreLatest 86 = .ok (.aload_n 0, 1) := by decide +kernel
theorem dX2_restoreLatest_87 : decode cX2_restoreLatest 87 = .ok (.getfield 31, 3) := by decide +kernel
theorem dX2_restoreLatest_90 : decode cX2_restoreLatest 90 = .ok (.iaload, 1) := by decide +kernel
theorem dX2_restoreLatest_91 : decode cX2_restoreLatest 91 = .ok (.invokevirtual 65, 3) := by decide +kernel
theorem dX2_restoreLatest_94 : decode cX2_restoreLatest 94 = .ok (.return_, 1) := by decide +kernel
theorem dX3_init_0 : decode cX3_init 0 = .ok (.aload_n 0, 1) := by decide +kernel
theorem dX3_init_1 : decode cX3_init 1 = .ok (.invokespecial 3, 3) := by decide +kernel
theorem dX3_init_4 : decode cX3_init 4 = .ok (.aload_n 0, 1) := by decide +kernel
theorem dX3_init_5 : decode cX3_init 5 = .ok (.bipush 8, 2) := by decide +kernel
theorem dX3_init_7 : decode cX3_init 7 = .ok (.newarray .int, 2) := by decide +kernel
theorem dX3_init_9 : decode cX3_init 9 = .ok (.putfield 9, 3) := by decide +kernel
theorem dX3_init_12 : decode cX3_init 12 = .ok (.aload_n 0, 1) := by decide +kernel
theorem dX3_init_13 : decode cX3_init 13 = .ok (.bipush 80, 2) := by decide +kernel
theorem dX3_init_15 : decode cX3_init 15 = .ok (.newarray .int, 2) := by decide +kernel
theorem dX3_init_17 : decode cX3_init 17 = .ok (.putfield 15, 3) := by decide +kernel
theorem dX3_init_20 : decode cX3_init 20 = .ok (.aload_n 0, 1) := by decide +kernel
theorem dX3_init_21 : decode cX3_init 21 = .ok (.bipush 8, 2) := by decide +kernel
theorem dX3_init_23 : decode cX3_init 23 = .ok (.newarray .int, 2) := by decide +kernel
theorem dX3_init_25 : decode cX3_init 25 = .ok (.putfield 18, 3) := by decide +kernel
theorem dX3_init_28 : decode cX3_init 28 = .ok (.return_, 1) := by decide +kernel
set_option maxRecDepth 20000 in
theorem ggX3_look_X4_windowsOf : GoodIn wsX3_look wsX4_windowsOf := goodIn_r _ [6, 7, 39, 40, 41, 42] (by decide +kernel) (by decide +kernel)
set_option maxRecDepth 20000 in
theorem gX3_look_X4_windowsOf : GoodIn wsX3_look (wsV RX3 21 RX4 yX4_windowsOf wsX4_windowsOf) := goodIn_app (goodIn_of _ (by decide +kernel)) ggX3_look_X4_windowsOf
set_option maxRecDepth 20000 in
theorem ggX3_look_X3_findPeak : GoodIn wsX3_look wsX3_findPeak := goodIn_r _ [12, 13, 14, 15, 11, 16, 17, 18, 19, 20, 5, 21, 22, 23, 24, 25, 26, 27, 28, 29, 30, 31, 32, 33, 34, 35, 36, 37, 38, 39, 40, 41, 42] (by decide +kernel) (by decide +kernel)
set_option maxRecDepth 20000 in
theorem gX3_look_X3_findPeak : GoodIn wsX3_look (wsV RX3 27 RX3 yX3_findPeak wsX3_findPeak) := goodIn_app (goodIn_of _ (by decide +kernel)) ggX3_look_X3_findPeak
theorem dX3_look_0 : decode cX3_look 0 = .ok (.iconst 0, 1) := by decide +kernel
theorem dX3_look_1 : decode cX3_look 1 = .ok (.istore_n 2, 1) := by decide +kernel
theorem dX3_look_2 : decode cX3_look 2 = .ok (.iload_n 2, 1) := by decide +kernel
theorem dX3_look_3 : decode cX3_look 3 = .ok (.iconst 5, 1) := by decide +kernel
theorem dX3_look_4 : decode cX3_look 4 = .ok (.if_icmp .ge 65, 3) := by decide +kernel
theorem dX3_look_7 : decode cX3_look 7 = .ok (.aload_n 1, 1) := by decide +kernel
theorem dX3_look_8 : decode cX3_look 8 = .ok (.iload_n 2, 1) := by decide +kernel
theorem dX3_look_9 : decode cX3_look 9 = .ok (.invokevirtual 21, 3) := by decide +kernel
theorem dX3_look_12 : decode cX3_look 12 = .ok (.istore_n 3, 1) := by decide +kernel
theorem dX3_look_13 : decode cX3_look 13 = .ok (.iconst 0, 1) := by decide +kernel
theorem dX3_look_14 : decode cX3_look 14 = .ok (.istore 4, 2) := by decide +kernel
theorem dX3_look_16 : decode cX3_look 16 = .ok (.iload 4, 2) := by decide +kernel
theorem dX3_look_18 : decode cX3_look 18 = .ok (.bipush 16, 2) := by decide +kernel
theorem dX3_look_20 : decode cX3_look 20 = .ok (.if_icmp .ge 43, 3) := by decide +kernel
theorem dX3_look_23 : decode cX3_look 23 = .ok (.iload_n 2, 1) := by decide +kernel
theorem dX3_look_24 : decode cX3_look 24 = .ok (.bipush 16, 2) := by decide +kernel
theorem dX3_look_26 : decode cX3_look 26 = .ok (.imul, 1) := by decide +kernel
theorem dX3_look_27 : decode cX3_look 27 = .ok (.iload 4, 2) := by decide +kernel
theorem dX3_look_29 : decode cX3_look 29 = .ok (.iadd, 1) := by decide +kernel
theorem dX3_look_30 : decode cX3_look 30 = .ok (.istore 5, 2) := by decide +kernel
theorem dX3_look_32 : decode cX3_look 32 = .ok (.aload_n 0, 1) := by decide +kernel
theorem dX3_look_33 : decode cX3_look 33 = .ok (.getfield 15, 3) := by decide +kernel
theorem dX3_look_36 : decode cX3_look 36 = .ok (.iload 5, 2) := by decide +kernel
theorem dX3_look_38 : decode cX3_look 38 = .ok (.iload 4, 2) := by decide +kernel
theorem dX3_look_40 : decode cX3_look 40 = .ok (.iload_n 3, 1) := by decide +kernel
theorem dX3_look_41 : decode cX3_look 41 = .ok (.if_icmp .ge 14, 3) := by decide +kernel
theorem dX3_look_44 : decode cX3_look 44 = .ok (.aload_n 0, 1) := by decide +kernel
theorem dX3_look_45 : decode cX3_look 45 = .ok (.aload_n 1, 1) := by decide +kernel
theorem dX3_look_46 : decode cX3_look 46 = .ok (.iload_n 2, 1) := by decide +kernel
theorem dX3_look_47 : decode cX3_look 47 = .ok (.iload 4, 2) := by decide +kernel
theorem dX3_look_49 : decode cX3_look 49 = .ok (.invokevirtual 27, 3) := by decide +kernel
theorem dX3_look_52 : decode cX3_look 52 = .ok (.goto 4, 3) := by decide +kernel
theorem dX3_look_55 : decode cX3_look 55 = .ok (.iconst (-1), 1) := by decide +kernel
theorem dX3_look_56 : decode cX3_look 56 = .ok (.iastore, 1) := by decide +kernel
theorem dX3_look_57 : decode cX3_look 57 = .ok (.iinc 4 1, 3) := by decide +kernel
theorem dX3_look_60 : decode cX3_look 60 = .ok (.goto (-44), 3) := by decide +kernel
theorem dX3_look_63 : decode cX3_look 63 = .ok (.iinc 2 1, 3) := by decide +kernel
theorem dX3_look_66 : decode cX3_look 66 = .ok (.goto (-64), 3) := by decide +kernel
theorem dX3_look_69 : decode cX3_look 69 = .ok (.return_, 1) := by decide +kernel
set_option maxRecDepth 20000 in
theorem ggX3_shareIn_X3_turn : GoodIn wsX3_shareIn wsX3_turn := goodIn_r _ [5, 6, 7, 8, 9, 10, 11, 12, 13, 14, 15, 4, 16, 21, 22, 23, 24, 25, 26, 27] (by decide +kernel) (by decide +kernel)
set_option maxRecDepth 20000 in
theorem gX3_shareIn_X3_turn : GoodIn wsX3_shareIn (wsV RX3 31 RX3 yX3_turn wsX3_turn) := goodIn_app (goodIn_of _ (by decide +kernel)) ggX3_shareIn_X3_turn
set_option maxRecDepth 20000 in
theorem ggX3_shareIn_X3_shareOf : GoodIn wsX3_shareIn wsX3_shareOf := goodIn_r _ [20, 6, 21, 22, 23] (by decide +kernel) (by decide +kernel)
set_option maxRecDepth 20000 in
theorem gX3_shareIn_X3_shareOf : GoodIn wsX3_shareIn (wsV RX3 35 RX3 yX3_shareOf wsX3_shareOf) := goodIn_app (goodIn_of _ (by decide +kernel)) ggX3_shareIn_X3_shareOf
theorem dX3_shareIn_0 : decode cX3_shareIn 0 = .ok (.aload_n 0, 1) := by decide +kernel
theorem dX3_shareIn_1 : decode cX3_shareIn 1 = .ok (.aload_n 1, 1) := by decide +kernel
theorem dX3_shareIn_2 : decode cX3_shareIn 2 = .ok (.iload_n 2, 1) := by decide +kernel
theorem dX3_shareIn_3 : decode cX3_shareIn 3 = .ok (.iload_n 3, 1) := by decide +kernel
theorem dX3_shareIn_4 : decode cX3_shareIn 4 = .ok (.invokevirtual 31, 3) := by decide +kernel
theorem dX3_shareIn_7 : decode cX3_shareIn 7 = .ok (.aload_n 0, 1) := by decide +kernel
theorem dX3_shareIn_8 : decode cX3_shareIn 8 = .ok (.iload 4, 2) := by decide +kernel
theorem dX3_shareIn_10 : decode cX3_shareIn 10 = .ok (.invokevirtual 35, 3) := by decide +kernel
theorem dX3_shareIn_13 : decode cX3_shareIn 13 = .ok (.ireturn, 1) := by decide +kernel
set_option maxRecDepth 20000 in
theorem ggX3_allSharesIn_X4_windowsOf : GoodIn wsX3_allSharesIn wsX4_windowsOf := goodIn_r _ [5, 6, 26, 27, 28, 29] (by decide +kernel) (by decide +kernel)
set_option maxRecDepth 20000 in
theorem gX3_allSharesIn_X4_windowsOf : GoodIn wsX3_allSharesIn (wsV RX3 21 RX4 yX4_windowsOf wsX4_windowsOf) := goodIn_app (goodIn_of _ (by decide +kernel)) ggX3_allSharesIn_X4_windowsOf
set_option maxRecDepth 20000 in
theorem ggX3_allSharesIn_X3_turn : GoodIn wsX3_allSharesIn wsX3_turn := goodIn_r _ [11, 12, 13, 14, 15, 4, 16, 17, 18, 19, 20, 10, 21, 30, 31, 32, 26, 27, 28, 29] (by decide +kernel) (by decide +kernel)
set_option maxRecDepth 20000 in
theorem gX3_allSharesIn_X3_turn : GoodIn wsX3_allSharesIn (wsV RX3 31 RX3 yX3_turn wsX3_turn) := goodIn_app (goodIn_of _ (by decide +kernel)) ggX3_allSharesIn_X3_turn
set_option maxRecDepth 20000 in
theorem ggX3_allSharesIn_X3_shareOf : GoodIn wsX3_allSharesIn wsX3_shareOf := goodIn_r _ [25, 12, 30, 31, 32] (by decide +kernel) (by decide +kernel)
set_option maxRecDepth 20000 in
theorem gX3_allSharesIn_X3_shareOf : GoodIn wsX3_allSharesIn (wsV RX3 35 RX3 yX3_shareOf wsX3_shareOf) := goodIn_app (goodIn_of _ (by decide +kernel)) ggX3_allSharesIn_X3_shareOf
theorem dX3_allSharesIn_0 : decode cX3_allSharesIn 0 = .ok (.aload_n 1, 1) := by decide +kernel
theorem dX3_allSharesIn_1 : decode cX3_allSharesIn 1 = .ok (.iload_n 2, 1) := by decide +kernel
theorem dX3_allSharesIn_2 : decode cX3_allSharesIn 2 = .ok (.invokevirtual 21, 3) := by decide +kernel
theorem dX3_allSharesIn_5 : decode cX3_allSharesIn 5 = .ok (.istore_n 3, 1) := by decide +kernel
theorem dX3_allSharesIn_6 : decode cX3_allSharesIn 6 = .ok (.iconst 0, 1) := by decide +kernel
theorem dX3_allSharesIn_7 : decode cX3_allSharesIn 7 = .ok (.istore 4, 2) := by decide +kernel
theorem dX3_allSharesIn_9 : decode cX3_allSharesIn 9 = .ok (.iconst 0, 1) := by decide +kernel
theorem dX3_allSharesIn_10 : decode cX3_allSharesIn 10 = .ok (.istore 5, 2) := by decide +kernel
theorem dX3_allSharesIn_12 : decode cX3_allSharesIn 12 = .ok (.iload 5, 2) := by decide +kernel
theorem dX3_allSharesIn_14 : decode cX3_allSharesIn 14 = .ok (.iload_n 3, 1) := by decide +kernel
theorem dX3_allSharesIn_15 : decode cX3_allSharesIn 15 = .ok (.if_icmp .ge 44, 3) := by decide +kernel
theorem dX3_allSharesIn_18 : decode cX3_allSharesIn 18 = .ok (.aload_n 0, 1) := by decide +kernel
theorem dX3_allSharesIn_19 : decode cX3_allSharesIn 19 = .ok (.aload_n 1, 1) := by decide +kernel
theorem dX3_allSharesIn_20 : decode cX3_allSharesIn 20 = .ok (.iload_n 2, 1) := by decide +kernel
theorem dX3_allSharesIn_21 : decode cX3_allSharesIn 21 = .ok (.iload 5, 2) := by decide +kernel
theorem dX3_allSharesIn_23 : decode cX3_allSharesIn 23 = .ok (.invokevirtual 31, 3) := by decide +kernel
theorem dX3_allSharesIn_26 : decode cX3_allSharesIn 26 = .ok (.iconst 0, 1) := by decide +kernel
theorem dX3_allSharesIn_27 : decode cX3_allSharesIn 27 = .ok (.istore 6, 2) := by decide +kernel
theorem dX3_allSharesIn_29 : decode cX3_allSharesIn 29 = .ok (.iload 6, 2) := by decide +kernel
theorem dX3_allSharesIn_31 : decode cX3_allSharesIn 31 = .ok (.bipush 8, 2) := by decide +kernel
theorem dX3_allSharesIn_33 : decode cX3_allSharesIn 33 = .ok (.if_icmp .ge 20, 3) := by decide +kernel
theorem dX3_allSharesIn_36 : decode cX3_allSharesIn 36 = .ok (.iload 4, 2) := by decide +kernel
theorem dX3_allSharesIn_38 : decode cX3_allSharesIn 38 = .ok (.aload_n 0, 1) := by decide +kernel
theorem dX3_allSharesIn_39 : decode cX3_allSharesIn 39 = .ok (.iload 6, 2) := by decide +kernel
theorem dX3_allSharesIn_41 : decode cX3_allSharesIn 41 = .ok (.invokevirtual 35, 3) := by decide +kernel
theorem dX3_allSharesIn_44 : decode cX3_allSharesIn 44 = .ok (.iadd, 1) := by decide +kernel
theorem dX3_allSharesIn_45 : decode cX3_allSharesIn 45 = .ok (.istore 4, 2) := by decide +kernel
theorem dX3_allSharesIn_47 : decode cX3_allSharesIn 47 = .ok (.iinc 6 1, 3) := by decide +kernel
theorem dX3_allSharesIn_50 : decode cX3_allSharesIn 50 = .ok (.goto (-21), 3) := by decide +kernel
theorem dX3_allSharesIn_53 : decode cX3_allSharesIn 53 = .ok (.iinc 5 1, 3) := by decide +kernel
theorem dX3_allSharesIn_56 : decode cX3_allSharesIn 56 = .ok (.goto (-44), 3) := by decide +kernel
theorem dX3_allSharesIn_59 : decode cX3_allSharesIn 59 = .ok (.iload 4, 2) := by decide +kernel
theorem dX3_allSharesIn_61 : decode cX3_allSharesIn 61 = .ok (.ireturn, 1) := by decide +kernel
theorem dX3_peakOf_0 : decode cX3_peakOf 0 = .ok (.aload_n 0, 1) := by decide +kernel
theorem dX3_peakOf_1 : decode cX3_peakOf 1 = .ok (.getfield 15, 3) := by decide +kernel
theorem dX3_peakOf_4 : decode cX3_peakOf 4 = .ok (.iload_n 1, 1) := by decide +kernel
theorem dX3_peakOf_5 : decode cX3_peakOf 5 = .ok (.bipush 16, 2) := by decide +kernel
theorem dX3_peakOf_7 : decode cX3_peakOf 7 = .ok (.imul, 1) := by decide +kernel
theorem dX3_peakOf_8 : decode cX3_peakOf 8 = .ok (.iload_n 2, 1) := by decide +kernel
theorem dX3_peakOf_9 : decode cX3_peakOf 9 = .ok (.iadd, 1) := by decide +kernel
theorem dX3_peakOf_10 : decode cX3_peakOf 10 = .ok (.iaload, 1) := by decide +kernel
theorem dX3_peakOf_11 : decode cX3_peakOf 11 = .ok (.ireturn, 1) := by decide +kernel
set_option maxRecDepth 20000 in
theorem ggX3_keyOf_X3_peakOf : GoodIn wsX3_keyOf wsX3_peakOf := goodIn_r _ [5, 6, 7, 8, 9] (by decide +kernel) (by decide +kernel)
set_option maxRecDepth 20000 in
theorem gX3_keyOf_X3_peakOf : GoodIn wsX3_keyOf (wsV RX3 38 RX3 yX3_peakOf wsX3_peakOf) := goodIn_app (goodIn_of _ (by decide +kernel)) ggX3_keyOf_X3_peakOf
theorem dX3_keyOf_0 : decode cX3_keyOf 0 = .ok (.iload_n 2, 1) := by decide +kernel
theorem dX3_keyOf_1 : decode cX3_keyOf 1 = .ok (.ifCond .lt 22, 3) := by decide +kernel
theorem dX3_keyOf_4 : decode cX3_keyOf 4 = .ok (.iload_n 2, 1) := by decide +kernel
theorem dX3_keyOf_5 : decode cX3_keyOf 5 = .ok (.iload_n 3, 1) := by decide +kernel
theorem dX3_keyOf_6 : decode cX3_keyOf 6 = .ok (.if_icmp .ge 17, 3) := by decide +kernel
theorem dX3_keyOf_9 : decode cX3_keyOf 9 = .ok (.iload_n 3, 1) := by decide +kernel
theorem dX3_keyOf_10 : decode cX3_keyOf 10 = .ok (.bipush 16, 2) := by decide +kernel
theorem dX3_keyOf_12 : decode cX3_keyOf 12 = .ok (.if_icmp .ge 11, 3) := by decide +kernel
theorem dX3_keyOf_15 : decode cX3_keyOf 15 = .ok (.iload_n 3, 1) := by decide +kernel
theorem dX3_keyOf_16 : decode cX3_keyOf 16 = .ok (.iload_n 2, 1) := by decide +kernel
theorem dX3_keyOf_17 : decode cX3_keyOf 17 = .ok (.isub, 1) := by decide +kernel
theorem dX3_keyOf_18 : decode cX3_keyOf 18 = .ok (.iload 4, 2) := by decide +kernel
theorem dX3_keyOf_20 : decode cX3_keyOf 20 = .ok (.if_icmp .le 5, 3) := by decide +kernel
theorem dX3_keyOf_23 : decode cX3_keyOf 23 = .ok (.iconst (-1), 1) := by decide +kernel
theorem dX3_keyOf_24 : decode cX3_keyOf 24 = .ok (.ireturn, 1) := by decide +kernel
theorem dX3_keyOf_25 : decode cX3_keyOf 25 = .ok (.aload_n 0, 1) := by decide +kernel
theorem dX3_keyOf_26 : decode cX3_keyOf 26 = .ok (.iload_n 1, 1) := by decide +kernel
theorem dX3_keyOf_27 : decode cX3_keyOf 27 = .ok (.iload_n 2, 1) := by decide +kernel
theorem dX3_keyOf_28 : decode cX3_keyOf 28 = .ok (.invokevirtual 38, 3) := by decide +kernel
theorem dX3_keyOf_31 : decode cX3_keyOf 31 = .ok (.istore 5, 2) := by decide +kernel
theorem dX3_keyOf_33 : decode cX3_keyOf 33 = .ok (.aload_n 0, 1) := by decide +kernel
theorem dX3_keyOf_34 : decode cX3_keyOf 34 = .ok (.iload_n 1, 1) := by decide +kernel
theorem dX3_keyOf_35 : decode cX3_keyOf 35 = .ok (.iload_n 3, 1) := by decide +kernel
theorem dX3_keyOf_36 : decode cX3_keyOf 36 = .ok (.invokevirtual 38, 3) := by decide +kernel
theorem dX3_keyOf_39 : decode cX3_keyOf 39 = .ok (.istore 6, 2) := by decide +kernel
theorem dX3_keyOf_41 : decode cX3_keyOf 41 = .ok (.iload 5, 2) := by decide +kernel
theorem dX3_keyOf_43 : decode cX3_keyOf 43 = .ok (.iconst (-1), 1) := by decide +kernel
theorem dX3_keyOf_44 : decode cX3_keyOf 44 = .ok (.if_icmp .eq 9, 3) := by decide +kernel
theorem dX3_keyOf_47 : decode cX3_keyOf 47 = .ok (.iload 6, 2) := by decide +kernel
theorem dX3_keyOf_49 : decode cX3_keyOf 49 = .ok (.iconst (-1), 1) := by decide +kernel
theorem dX3_keyOf_50 : decode cX3_keyOf 50 = .ok (.if_icmp .ne 7, 3) := by decide +kernel
theorem dX3_keyOf_53 : decode cX3_keyOf 53 = .ok (.iconst (-1), 1) := by decide +kernel
theorem dX3_keyOf_54 : decode cX3_keyOf 54 = .ok (.goto 18, 3) := by decide +kernel
theorem dX3_keyOf_57 : decode cX3_keyOf 57 = .ok (.bipush 64, 2) := by decide +kernel
theorem dX3_keyOf_59 : decode cX3_keyOf 59 = .ok (.iload_n 3, 1) := by decide +kernel
theorem dX3_keyOf_60 : decode cX3_keyOf 60 = .ok (.iload_n 2, 1) := by decide +kernel
theorem dX3_keyOf_61 : decode cX3_keyOf 61 = .ok (.isub, 1) := by decide +kernel
theorem dX3_keyOf_62 : decode cX3_keyOf 62 = .ok (.imul, 1) := by decide +kernel
theorem dX3_keyOf_63 : decode cX3_keyOf 63 = .ok (.bipush 8, 2) := by decide +kernel
theorem dX3_keyOf_65 : decode cX3_keyOf 65 = .ok (.iload 5, 2) := by decide +kernel
theorem dX3_keyOf_67 : decode cX3_keyOf 67 = .ok (.imul, 1) := by decide +kernel
theorem dX3_keyOf_68 : decode cX3_keyOf 68 = .ok (.iadd, 1) := by decide +kernel
theorem dX3_keyOf_69 : decode cX3_keyOf 69 = .ok (.iload 6, 2) := by decide +kernel
theorem dX3_keyOf_71 : decode cX3_keyOf 71 = .ok (.iadd, 1) := by decide +kernel
theorem dX3_keyOf_72 : decode cX3_keyOf 72 = .ok (.ireturn, 1) := by decide +kernel
set_option maxRecDepth 20000 in
theorem ggX3_countIn_X3_peakOf : GoodIn wsX3_countIn wsX3_peakOf := goodIn_r _ [5, 6, 7, 8, 9] (by decide +kernel) (by decide +kernel)
set_option maxRecDepth 20000 in
theorem gX3_countIn_X3_peakOf : GoodIn wsX3_countIn (wsV RX3 38 RX3 yX3_peakOf wsX3_peakOf) := goodIn_app (goodIn_of _ (by decide +kernel)) ggX3_countIn_X3_peakOf
theorem dX3_countIn_0 : decode cX3_countIn 0 = .ok (.iconst 0, 1) := by decide +kernel
theorem dX3_countIn_1 : decode cX3_countIn 1 = .ok (.istore_n 2, 1) := by decide +kernel
theorem dX3_countIn_2 : decode cX3_countIn 2 = .ok (.iconst 0, 1) := by decide +kernel
theorem dX3_countIn_3 : decode cX3_countIn 3 = .ok (.istore_n 3, 1) := by decide +kernel
theorem dX3_countIn_4 : decode cX3_countIn 4 = .ok (.iload_n 3, 1) := by decide +kernel
theorem dX3_countIn_5 : decode cX3_countIn 5 = .ok (.bipush 16, 2) := by decide +kernel
theorem dX3_countIn_7 : decode cX3_countIn 7 = .ok (.if_icmp .ge 22, 3) := by decide +kernel
theorem dX3_countIn_10 : decode cX3_countIn 10 = .ok (.aload_n 0, 1) := by decide +kernel
theorem dX3_countIn_11 : decode cX3_countIn 11 = .ok (.iload_n 1, 1) := by decide +kernel
theorem dX3_countIn_12 : decode cX3_countIn 12 = .ok (.iload_n 3, 1) := by decide +kernel
theorem dX3_countIn_13 : decode cX3_countIn 13 = .ok (.invokevirtual 38, 3) := by decide +kernel
theorem dX3_countIn_16 : decode cX3_countIn 16 = .ok (.iconst (-1), 1) := by decide +kernel
theorem dX3_countIn_17 : decode cX3_countIn 17 = .ok (.if_icmp .eq 6, 3) := by decide +kernel
theorem dX3_countIn_20 : decode cX3_countIn 20 = .ok (.iinc 2 1, 3) := by decide +kernel
theorem dX3_countIn_23 : decode cX3_countIn 23 = .ok (.iinc 3 1, 3) := by decide +kernel
theorem dX3_countIn_26 : decode cX3_countIn 26 = .ok (.goto (-22), 3) := by decide +kernel
theorem dX3_countIn_29 : decode cX3_countIn 29 = .ok (.iload_n 2, 1) := by decide +kernel
theorem dX3_countIn_30 : decode cX3_countIn 30 = .ok (.ireturn, 1) := by decide +kernel
set_option maxRecDepth 20000 in
theorem ggX3_countKeysIn_X3_keyOf : GoodIn wsX3_countKeysIn wsX3_keyOf := goodIn_r _ [5, 6, 7, 8, 4, 9, 10, 11, 12, 13] (by decide +kernel) (by decide +kernel)
set_option maxRecDepth 20000 in
theorem gX3_countKeysIn_X3_keyOf : GoodIn wsX3_countKeysIn (wsV RX3 42 RX3 yX3_keyOf wsX3_keyOf) := goodIn_app (goodIn_of _ (by decide +kernel)) ggX3_countKeysIn_X3_keyOf
theorem dX3_countKeysIn_0 : decode cX3_countKeysIn 0 = .ok (.iconst 0, 1) := by decide +kernel
theorem dX3_countKeysIn_1 : decode cX3_countKeysIn 1 = .ok (.istore_n 3, 1) := by decide +kernel
theorem dX3_countKeysIn_2 : decode cX3_countKeysIn 2 = .ok (.iconst 0, 1) := by decide +kernel
theorem dX3_countKeysIn_3 : decode cX3_countKeysIn 3 = .ok (.istore 4, 2) := by decide +kernel
theorem dX3_countKeysIn_5 : decode cX3_countKeysIn 5 = .ok (.iload 4, 2) := by decide +kernel
theorem dX3_countKeysIn_7 : decode cX3_countKeysIn 7 = .ok (.bipush 16, 2) := by decide +kernel
theorem dX3_countKeysIn_9 : decode cX3_countKeysIn 9 = .ok (.if_icmp .ge 44, 3) := by decide +kernel
theorem dX3_countKeysIn_12 : decode cX3_countKeysIn 12 = .ok (.iconst 1, 1) := by decide +kernel
theorem dX3_countKeysIn_13 : decode cX3_countKeysIn 13 = .ok (.istore 5, 2) := by decide +kernel
theorem dX3_countKeysIn_15 : decode cX3_countKeysIn 15 = .ok (.iload 5, 2) := by decide +kernel
theorem dX3_countKeysIn_17 : decode cX3_countKeysIn 17 = .ok (.iload_n 2, 1) := by decide +kernel
theorem dX3_countKeysIn_18 : decode cX3_countKeysIn 18 = .ok (.if_icmp .gt 29, 3) := by decide +kernel
theorem dX3_countKeysIn_21 : decode cX3_countKeysIn 21 = .ok (.aload_n 0, 1) := by decide +kernel
theorem dX3_countKeysIn_22 : decode cX3_countKeysIn 22 = .ok (.iload_n 1, 1) := by decide +kernel
theorem dX3_countKeysIn_23 : decode cX3_countKeysIn 23 = .ok (.iload 4, 2) := by decide +kernel
theorem dX3_countKeysIn_25 : decode cX3_countKeysIn 25 = .ok (.iload 4, 2) := by decide +kernel
theorem dX3_countKeysIn_27 : decode cX3_countKeysIn 27 = .ok (.iload 5, 2) := by decide +kernel
theorem dX3_countKeysIn_29 : decode cX3_countKeysIn 29 = .ok (.iadd, 1) := by decide +kernel
theorem dX3_countKeysIn_30 : decode cX3_countKeysIn 30 = .ok (.iload_n 2, 1) := by decide +kernel
theorem dX3_countKeysIn_31 : decode cX3_countKeysIn 31 = .ok (.invokevirtual 42, 3) := by decide +kernel
theorem dX3_countKeysIn_34 : decode cX3_countKeysIn 34 = .ok (.iconst (-1), 1) := by decide +kernel
theorem dX3_countKeysIn_35 : decode cX3_countKeysIn 35 = .ok (.if_icmp .eq 6, 3) := by decide +kernel
theorem dX3_countKeysIn_38 : decode cX3_countKeysIn 38 = .ok (.iinc 3 1, 3) := by decide +kernel
theorem dX3_countKeysIn_41 : decode cX3_countKeysIn 41 = .ok (.iinc 5 1, 3) := by decide +kernel
theorem dX3_countKeysIn_44 : decode cX3_countKeysIn 44 = .ok (.goto (-29), 3) := by decide +kernel
theorem dX3_countKeysIn_47 : decode cX3_countKeysIn 47 = .ok (.iinc 4 1, 3) := by decide +kernel
theorem dX3_countKeysIn_50 : decode cX3_countKeysIn 50 = .ok (.goto (-45), 3) := by decide +kernel
theorem dX3_countKeysIn_53 : decode cX3_countKeysIn 53 = .ok (.iload_n 3, 1) := by decide +kernel
theorem dX3_countKeysIn_54 : decode cX3_countKeysIn 54 = .ok (.ireturn, 1) := by decide +kernel
set_option maxRecDepth 20000 in
theorem ggX3_mostOftenIn_X3_peakOf : GoodIn wsX3_mostOftenIn wsX3_peakOf := goodIn_r _ [6, 7, 8, 9, 10] (by decide +kernel) (by decide +kernel)
set_option maxRecDepth 20000 in
theorem gX3_mostOftenIn_X3_peakOf : GoodIn wsX3_mostOftenIn (wsV RX3 38 RX3 yX3_peakOf wsX3_peakOf) := goodIn_app (goodIn_of _ (by decide +kernel)) ggX3_mostOftenIn_X3_peakOf
theorem dX3_mostOftenIn_0 : decode cX3_mostOftenIn 0 = .ok (.iconst 0, 1) := by decide +kernel
theorem dX3_mostOftenIn_1 : decode cX3_mostOftenIn 1 = .ok (.istore_n 2, 1) := by decide +kernel
theorem dX3_mostOftenIn_2 : decode cX3_mostOftenIn 2 = .ok (.iload_n 2, 1) := by decide +kernel
theorem dX3_mostOftenIn_3 : decode cX3_mostOftenIn 3 = .ok (.bipush 8, 2) := by decide +kernel
theorem dX3_mostOftenIn_5 : decode cX3_mostOftenIn 5 = .ok (.if_icmp .ge 16, 3) := by decide +kernel
theorem dX3_mostOftenIn_8 : decode cX3_mostOftenIn 8 = .ok (.aload_n 0, 1) := by decide +kernel
theorem dX3_mostOftenIn_9 : decode cX3_mostOftenIn 9 = .ok (.getfield 18, 3) := by decide +kernel
theorem dX3_mostOftenIn_12 : decode cX3_mostOftenIn 12 = .ok (.iload_n 2, 1) := by decide +kernel
theorem dX3_mostOftenIn_13 : decode cX3_mostOftenIn 13 = .ok (.iconst 0, 1) := by decide +kernel
theorem dX3_mostOftenIn_14 : decode cX3_mostOftenIn 14 = .ok (.iastore, 1) := by decide +kernel
theorem dX3_mostOftenIn_15 : decode cX3_mostOftenIn 15 = .ok (.iinc 2 1, 3) := by decide +kernel
theorem dX3_mostOftenIn_18 : decode cX3_mostOftenIn 18 = .ok (.goto (-16), 3) := by decide +kernel
theorem dX3_mostOftenIn_21 : decode cX3_mostOftenIn 21 = .ok (.iconst 0, 1) := by decide +kernel
theorem dX3_mostOftenIn_22 : decode cX3_mostOftenIn 22 = .ok (.istore_n 2, 1) := by decide +kernel
theorem dX3_mostOftenIn_23 : decode cX3_mostOftenIn 23 = .ok (.iload_n 2, 1) := by decide +kernel
theorem dX3_mostOftenIn_24 : decode cX3_mostOftenIn 24 = .ok (.bipush 16, 2) := by decide +kernel
theorem dX3_mostOftenIn_26 : decode cX3_mostOftenIn 26 = .ok (.if_icmp .ge 31, 3) := by decide +kernel
theorem dX3_mostOftenIn_29 : decode cX3_mostOftenIn 29 = .ok (.aload_n 0, 1) := by decide +kernel
theorem dX3_mostOftenIn_30 : decode cX3_mostOftenIn 30 = .ok (.iload_n 1, 1) := by decide +kernel
theorem dX3_mostOftenIn_31 : decode cX3_mostOftenIn 31 = .ok (.iload_n 2, 1) := by decide +kernel
theorem dX3_mostOftenIn_32 : decode cX3_mostOftenIn 32 = .ok (.invokevirtual 38, 3) := by decide +kernel
theorem dX3_mostOftenIn_35 : decode cX3_mostOftenIn 35 = .ok (.istore_n 3, 1) := by decide +kernel
theorem dX3_mostOftenIn_36 : decode cX3_mostOftenIn 36 = .ok (.iload_n 3, 1) := by decide +kernel
theorem dX3_mostOftenIn_37 : decode cX3_mostOftenIn 37 = .ok (.iconst (-1), 1) := by decide +kernel
theorem dX3_mostOftenIn_38 : decode cX3_mostOftenIn 38 = .ok (.if_icmp .eq 13, 3) := by decide +kernel
theorem dX3_mostOftenIn_41 : decode cX3_mostOftenIn 41 = .ok (.aload_n 0, 1) := by decide +kernel
theorem dX3_mostOftenIn_42 : decode cX3_mostOftenIn 42 = .ok (.getfield 18, 3) := by decide +kernel
theorem dX3_mostOftenIn_45 : decode cX3_mostOftenIn 45 = .ok (.iload_n 3, 1) := by decide +kernel
theorem dX3_mostOftenIn_46 : decode cX3_mostOftenIn 46 = .ok (.dup2, 1) := by decide +kernel
theorem dX3_mostOftenIn_47 : decode cX3_mostOftenIn 47 = .ok (.iaload, 1) := by decide +kernel
theorem dX3_mostOftenIn_48 : decode cX3_mostOftenIn 48 = .ok (.iconst 1, 1) := by decide +kernel
theorem dX3_mostOftenIn_49 : decode cX3_mostOftenIn 49 = .ok (.iadd, 1) := by decide +kernel
theorem dX3_mostOftenIn_50 : decode cX3_mostOftenIn 50 = .ok (.iastore, 1) := by decide +kernel
theorem dX3_mostOftenIn_51 : decode cX3_mostOftenIn 51 = .ok (.iinc 2 1, 3) := by decide +kernel
theorem dX3_mostOftenIn_54 : decode cX3_mostOftenIn 54 = .ok (.goto (-31), 3) := by decide +kernel
theorem dX3_mostOftenIn_57 : decode cX3_mostOftenIn 57 = .ok (.iconst (-1), 1) := by decide +kernel
theorem dX3_mostOftenIn_58 : decode cX3_mostOftenIn 58 = .ok (.istore_n 2, 1) := by decide +kernel
theorem dX3_mostOftenIn_59 : decode cX3_mostOftenIn 59 = .ok (.iconst 0, 1) := by decide +kernel
theorem dX3_mostOftenIn_60 : decode cX3_mostOftenIn 60 = .ok (.istore_n 3, 1) := by decide +kernel
theorem dX3_mostOftenIn_61 : decode cX3_mostOftenIn 61 = .ok (.iconst 0, 1) := by decide +kernel
theorem dX3_mostOftenIn_62 : decode cX3_mostOftenIn 62 = .ok (.istore 4, 2) := by decide +kernel
theorem dX3_mostOftenIn_64 : decode cX3_mostOftenIn 64 = .ok (.iload 4, 2) := by decide +kernel
theorem dX3_mostOftenIn_66 : decode cX3_mostOftenIn 66 = .ok (.bipush 8, 2) := by decide +kernel
theorem dX3_mostOftenIn_68 : decode cX3_mostOftenIn 68 = .ok (.if_icmp .ge 31, 3) := by decide +kernel
theorem dX3_mostOftenIn_71 : decode cX3_mostOftenIn 71 = .ok (.aload_n 0, 1) := by decide +kernel
theorem dX3_mostOftenIn_72 : decode cX3_mostOftenIn 72 = .ok (.getfield 18, 3) := by decide +kernel
theorem dX3_mostOftenIn_75 : decode cX3_mostOftenIn 75 = .ok (.iload 4, 2) := by decide +kernel
theorem dX3_mostOftenIn_77 : decode cX3_mostOftenIn 77 = .ok (.iaload, 1) := by decide +kernel
theorem dX3_mostOftenIn_78 : decode cX3_mostOftenIn 78 = .ok (.iload_n 3, 1) := by decide +kernel
theorem dX3_mostOftenIn_79 : decode cX3_mostOftenIn 79 = .ok (.if_icmp .le 14, 3) := by decide +kernel
theorem dX3_mostOftenIn_82 : decode cX3_mostOftenIn 82 = .ok (.aload_n 0, 1) := by decide +kernel
theorem dX3_mostOftenIn_83 : decode cX3_mostOftenIn 83 = .ok (.getfield 18, 3) := by decide +kernel
theorem dX3_mostOftenIn_86 : decode cX3_mostOftenIn 86 = .ok (.iload 4, 2) := by decide +kernel
theorem dX3_mostOftenIn_88 : decode cX3_mostOftenIn 88 = .ok (.iaload, 1) := by decide +kernel
theorem dX3_mostOftenIn_89 : decode cX3_mostOftenIn 89 = .ok (.istore_n 3, 1) := by decide +kernel
theorem dX3_mostOftenIn_90 : decode cX3_mostOftenIn 90 = .ok (.iload 4, 2) := by decide +kernel
theorem dX3_mostOftenIn_92 : decode cX3_mostOftenIn 92 = .ok (.istore_n 2, 1) := by decide +kernel
theorem dX3_mostOftenIn_93 : decode cX3_mostOftenIn 93 = .ok (.iinc 4 1, 3) := by decide +kernel
theorem dX3_mostOftenIn_96 : decode cX3_mostOftenIn 96 = .ok (.goto (-32), 3) := by decide +kernel
theorem dX3_mostOftenIn_99 : decode cX3_mostOftenIn 99 = .ok (.iload_n 2, 1) := by decide +kernel
theorem dX3_mostOftenIn_100 : decode cX3_mostOftenIn 100 = .ok (.ireturn, 1) := by decide +kernel
set_option maxRecDepth 20000 in
theorem ggX3_findPeak_X3_turn : GoodIn wsX3_findPeak wsX3_turn := goodIn_r _ [5, 6, 7, 8, 9, 10, 11, 12, 13, 14, 15, 4, 16, 26, 27, 28, 29, 30, 31, 32] (by decide +kernel) (by decide +kernel)
set_option maxRecDepth 20000 in
theorem gX3_findPeak_X3_turn : GoodIn wsX3_findPeak (wsV RX3 31 RX3 yX3_turn wsX3_turn) := goodIn_app (goodIn_of _ (by decide +kernel)) ggX3_findPeak_X3_turn
set_option maxRecDepth 20000 in
theorem ggX3_findPeak_X3_shareOf : GoodIn wsX3_findPeak wsX3_shareOf := goodIn_r _ [20, 6, 26, 27, 28] (by decide +kernel) (by decide +kernel)
set_option maxRecDepth 20000 in
theorem gX3_findPeak_X3_shareOf : GoodIn wsX3_findPeak (wsV RX3 35 RX3 yX3_shareOf wsX3_shareOf) := goodIn_app (goodIn_of _ (by decide +kernel)) ggX3_findPeak_X3_shareOf
set_option maxRecDepth 20000 in
theorem ggX3_findPeak_X4_floor : GoodIn wsX3_findPeak wsX4_floor := goodIn_r _ [24, 25, 29, 30, 31, 32] (by decide +kernel) (by decide +kernel)
set_option maxRecDepth 20000 in
theorem gX3_findPeak_X4_floor : GoodIn wsX3_findPeak (wsV RX3 46 RX4 yX4_floor wsX4_floor) := goodIn_app (goodIn_of _ (by decide +kernel)) ggX3_findPeak_X4_floor
theorem dX3_findPeak_0 : decode cX3_findPeak 0 = .ok (.aload_n 0, 1) := by decide +kernel
theorem dX3_findPeak_1 : decode cX3_findPeak 1 = .ok (.aload_n 1, 1) := by decide +kernel
theorem dX3_findPeak_2 : decode cX3_findPeak 2 = .ok (.iload_n 2, 1) := by decide +kernel
theorem dX3_findPeak_3 : decode cX3_findPeak 3 = .ok (.iload_n 3, 1) := by decide +kernel
theorem dX3_findPeak_4 : decode cX3_findPeak 4 = .ok (.invokevirtual 31, 3) := by decide +kernel
theorem dX3_findPeak_7 : decode cX3_findPeak 7 = .ok (.iconst 1, 1) := by decide +kernel
theorem dX3_findPeak_8 : decode cX3_findPeak 8 = .ok (.istore 4, 2) := by decide +kernel
theorem dX3_findPeak_10 : decode cX3_findPeak 10 = .ok (.iconst 2, 1) := by decide +kernel
theorem dX3_findPeak_11 : decode cX3_findPeak 11 = .ok (.istore 5, 2) := by decide +kernel
theorem dX3_findPeak_13 : decode cX3_findPeak 13 = .ok (.iload 5, 2) := by decide +kernel
theorem dX3_findPeak_15 : decode cX3_findPeak 15 = .ok (.bipush 8, 2) := by decide +kernel
theorem dX3_findPeak_17 : decode cX3_findPeak 17 = .ok (.if_icmp .ge 28, 3) := by decide +kernel
theorem dX3_findPeak_20 : decode cX3_findPeak 20 = .ok (.aload_n 0, 1) := by decide +kernel
theorem dX3_findPeak_21 : decode cX3_findPeak 21 = .ok (.iload 5, 2) := by decide +kernel
theorem dX3_findPeak_23 : decode cX3_findPeak 23 = .ok (.invokevirtual 35, 3) := by decide +kernel
theorem dX3_findPeak_26 : decode cX3_findPeak 26 = .ok (.aload_n 0, 1) := by decide +kernel
theorem dX3_findPeak_27 : decode cX3_findPeak 27 = .ok (.iload 4, 2) := by decide +kernel
theorem dX3_findPeak_29 : decode cX3_findPeak 29 = .ok (.invokevirtual 35, 3) := by decide +kernel
theorem dX3_findPeak_32 : decode cX3_findPeak 32 = .ok (.if_icmp .le 7, 3) := by decide +kernel
theorem dX3_findPeak_35 : decode cX3_findPeak 35 = .ok (.iload 5, 2) := by decide +kernel
theorem dX3_findPeak_37 : decode cX3_findPeak 37 = .ok (.istore 4, 2) := by decide +kernel
theorem dX3_findPeak_39 : decode cX3_findPeak 39 = .ok (.iinc 5 1, 3) := by decide +kernel
theorem dX3_findPeak_42 : decode cX3_findPeak 42 = .ok (.goto (-29), 3) := by decide +kernel
theorem dX3_findPeak_45 : decode cX3_findPeak 45 = .ok (.aload_n 0, 1) := by decide +kernel
theorem dX3_findPeak_46 : decode cX3_findPeak 46 = .ok (.iload 4, 2) := by decide +kernel
theorem dX3_findPeak_48 : decode cX3_findPeak 48 = .ok (.invokevirtual 35, 3) := by decide +kernel
theorem dX3_findPeak_51 : decode cX3_findPeak 51 = .ok (.aload_n 1, 1) := by decide +kernel
theorem dX3_findPeak_52 : decode cX3_findPeak 52 = .ok (.invokevirtual 46, 3) := by decide +kernel
theorem dX3_findPeak_55 : decode cX3_findPeak 55 = .ok (.if_icmp .lt 8, 3) := by decide +kernel
theorem dX3_findPeak_58 : decode cX3_findPeak 58 = .ok (.iload 4, 2) := by decide +kernel
theorem dX3_findPeak_60 : decode cX3_findPeak 60 = .ok (.goto 4, 3) := by decide +kernel
theorem dX3_findPeak_63 : decode cX3_findPeak 63 = .ok (.iconst (-1), 1) := by decide +kernel
theorem dX3_findPeak_64 : decode cX3_findPeak 64 = .ok (.ireturn, 1) := by decide +kernel
theorem dX3_shareOf_0 : decode cX3_shareOf 0 = .ok (.aload_n 0, 1) := by decide +kernel
theorem dX3_shareOf_1 : decode cX3_shareOf 1 = .ok (.getfield 9, 3) := by decide +kernel
theorem dX3_shareOf_4 : decode cX3_shareOf 4 = .ok (.iload_n 1, 1) := by decide +kernel
theorem dX3_shareOf_5 : decode cX3_shareOf 5 = .ok (.iaload, 1) := by decide +kernel
theorem dX3_shareOf_6 : decode cX3_shareOf 6 = .ok (.aload_n 0, 1) := by decide +kernel
theorem dX3_shareOf_7 : decode cX3_shareOf 7 = .ok (.getfield 9, 3) := by decide +kernel
theorem dX3_shareOf_10 : decode cX3_shareOf 10 = .ok (.iload_n 1, 1) := by decide +kernel
theorem dX3_shareOf_11 : decode cX3_shareOf 11 = .ok (.iaload, 1) := by decide +kernel
theorem dX3_shareOf_12 : decode cX3_shareOf 12 = .ok (.imul, 1) := by decide +kernel
theorem dX3_shareOf_13 : decode cX3_shareOf 13 = .ok (.bipush 64, 2) := by decide +kernel
theorem dX3_shareOf_15 : decode cX3_shareOf 15 = .ok (.idiv, 1) := by decide +kernel
theorem dX3_shareOf_16 : decode cX3_shareOf 16 = .ok (.ireturn, 1) := by decide +kernel
set_option maxRecDepth 20000 in
theorem ggX3_turn_X4_numberAt : GoodIn wsX3_turn wsX4_numberAt := goodIn_r _ [6, 7, 16, 17, 18, 19] (by decide +kernel) (by decide +kernel)
set_option maxRecDepth 20000 in
theorem gX3_turn_X4_numberAt : GoodIn wsX3_turn (wsV RX3 50 RX4 yX4_numberAt wsX4_numberAt) := goodIn_app (goodIn_of _ (by decide +kernel)) ggX3_turn_X4_numberAt
set_option maxRecDepth 20000 in
theorem ggX3_turn_X3_turnPairs : GoodIn wsX3_turn wsX3_turnPairs := goodIn_r _ [12, 1, 13, 14, 15] (by decide +kernel) (by decide +kernel)
set_option maxRecDepth 20000 in
theorem gX3_turn_X3_turnPairs : GoodIn wsX3_turn (wsV RX3 53 RX3 yX3_turnPairs wsX3_turnPairs) := goodIn_app (goodIn_of _ (by decide +kernel)) ggX3_turn_X3_turnPairs
theorem dX3_turn_0 : decode cX3_turn 0 = .ok (.iconst 0, 1) := by decide +kernel
theorem dX3_turn_1 : decode cX3_turn 1 = .ok (.istore 4, 2) := by decide +kernel
theorem dX3_turn_3 : decode cX3_turn 3 = .ok (.iload 4, 2) := by decide +kernel
theorem dX3_turn_5 : decode cX3_turn 5 = .ok (.bipush 8, 2) := by decide +kernel
theorem dX3_turn_7 : decode cX3_turn 7 = .ok (.if_icmp .ge 28, 3) := by decide +kernel
theorem dX3_turn_10 : decode cX3_turn 10 = .ok (.aload_n 0, 1) := by decide +kernel
theorem dX3_turn_11 : decode cX3_turn 11 = .ok (.getfield 9, 3) := by decide +kernel
theorem dX3_turn_14 : decode cX3_turn 14 = .ok (.iload 4, 2) := by decide +kernel
theorem dX3_turn_16 : decode cX3_turn 16 = .ok (.aload_n 1, 1) := by decide +kernel
theorem dX3_turn_17 : decode cX3_turn 17 = .ok (.iload_n 2, 1) := by decide +kernel
theorem dX3_turn_18 : decode cX3_turn 18 = .ok (.iload_n 3, 1) := by decide +kernel
theorem dX3_turn_19 : decode cX3_turn 19 = .ok (.bipush 8, 2) := by decide +kernel
theorem dX3_turn_21 : decode cX3_turn 21 = .ok (.imul, 1) := by decide +kernel
