theorem lw_mem_r {big : List Cond} (ws : List Cond) (ps : List Nat) (hp : ws = ps.filterMap (fun i => big[i]?)) : ∀ w ∈ ws, w ∈ big := by
  intro w hw
  rw [hp] at hw
  obtain ⟨i, -, hi⟩ := List.mem_filterMap.mp hw
  exact List.mem_of_getElem? hi
set_option maxRecDepth 20000 in
theorem lwm_wsL_law0_r1 : ∀ w ∈ wsL_law0_r1, w ∈ lw_tbl := lw_mem_r (big := lw_tbl) wsL_law0_r1 [47, 48, 35, 540, 541, 38, 441, 810, 49, 50, 51, 52, 53, 54, 55, 145, 57, 146, 59, 60, 36, 147, 148, 61] (by decide +kernel)
set_option maxRecDepth 20000 in
theorem lwm_wsL_law0_r2 : ∀ w ∈ wsL_law0_r2, w ∈ lw_tbl := lw_mem_r (big := lw_tbl) wsL_law0_r2 [62, 63, 64, 65, 66, 37, 90, 68, 69, 70, 542, 543, 544, 545, 548, 549, 440, 550, 551, 552, 553, 554, 555, 558] (by decide +kernel)
set_option maxRecDepth 20000 in
theorem lwm_wsL_law0_r3 : ∀ w ∈ wsL_law0_r3, w ∈ lw_tbl := lw_mem_r (big := lw_tbl) wsL_law0_r3 [559, 560, 561, 562, 580, 581, 287, 288, 34, 289, 290, 291, 292, 293, 294, 295, 308, 42, 375, 43, 296, 303, 149, 391] (by decide +kernel)
set_option maxRecDepth 20000 in
theorem lwm_wsL_law0_r4 : ∀ w ∈ wsL_law0_r4, w ∈ lw_tbl := lw_mem_r (big := lw_tbl) wsL_law0_r4 [44, 297, 298, 299, 300, 301, 302, 304, 305, 306, 307, 392, 393, 394, 395, 397, 399, 401, 403, 405, 407, 409, 396, 411] (by decide +kernel)
set_option maxRecDepth 20000 in
theorem lwm_wsL_law0_r5 : ∀ w ∈ wsL_law0_r5, w ∈ lw_tbl := lw_mem_r (big := lw_tbl) wsL_law0_r5 [413, 662, 663, 664, 665, 666, 673, 674, 675, 547, 546, 667, 668, 669, 670, 671, 672, 658, 659, 660, 661, 442, 443, 444] (by decide +kernel)
set_option maxRecDepth 20000 in
theorem lwm_wsL_law0_r6 : ∀ w ∈ wsL_law0_r6, w ∈ lw_tbl := lw_mem_r (big := lw_tbl) wsL_law0_r6 [445, 446, 447, 448, 410, 175, 177, 1, 178, 179, 181, 2, 182, 183, 185, 3, 186, 402, 412, 474, 252, 187, 188, 189] (by decide +kernel)
set_option maxRecDepth 20000 in
theorem lwm_wsL_law0_r7 : ∀ w ∈ wsL_law0_r7, w ∈ lw_tbl := lw_mem_r (big := lw_tbl) wsL_law0_r7 [190, 406, 91, 408, 92, 398, 93, 95, 97, 99, 400, 101, 404, 103, 105, 106, 107, 109, 110, 112, 191, 193, 4, 194] (by decide +kernel)
set_option maxRecDepth 20000 in
theorem lwm_wsL_law0_r8 : ∀ w ∈ wsL_law0_r8, w ∈ lw_tbl := lw_mem_r (big := lw_tbl) wsL_law0_r8 [199, 200, 45, 201, 195, 196, 197, 198, 202, 203, 204, 205, 71, 72, 73, 74, 75, 76, 206, 207, 208, 209, 210, 211] (by decide +kernel)
set_option maxRecDepth 20000 in
theorem lwm_wsL_law0_r9 : ∀ w ∈ wsL_law0_r9, w ∈ lw_tbl := lw_mem_r (big := lw_tbl) wsL_law0_r9 [212, 213, 214, 473, 215, 217, 5, 218, 476, 219, 221, 6, 222, 479, 223, 225, 7, 226, 227, 229, 8, 230, 231, 232] (by decide +kernel)
set_option maxRecDepth 20000 in
theorem lwm_wsL_law0_r10 : ∀ w ∈ wsL_law0_r10, w ∈ lw_tbl := lw_mem_r (big := lw_tbl) wsL_law0_r10 [233, 234, 236, 9, 237, 238, 240, 10, 241, 242, 244, 11, 245, 246, 251, 248, 249, 250, 253, 254, 255, 256, 257, 259] (by decide +kernel)
set_option maxRecDepth 20000 in
theorem lwm_wsL_law0_r11 : ∀ w ∈ wsL_law0_r11, w ∈ lw_tbl := lw_mem_r (big := lw_tbl) wsL_law0_r11 [12, 260, 261, 262, 263, 264, 265, 267, 13, 268, 274, 270, 271, 272, 273, 676, 677, 678, 679, 680, 682, 15, 683, 684] (by decide +kernel)
set_option maxRecDepth 20000 in
theorem lwm_wsL_law0_r12 : ∀ w ∈ wsL_law0_r12, w ∈ lw_tbl := lw_mem_r (big := lw_tbl) wsL_law0_r12 [686, 16, 687, 582, 688, 690, 17, 691, 563, 567, 568, 692, 694, 18, 695, 564, 565, 566, 569, 570, 571, 578, 579, 696] (by decide +kernel)
set_option maxRecDepth 20000 in
theorem lwm_wsL_law0_r13 : ∀ w ∈ wsL_law0_r13, w ∈ lw_tbl := lw_mem_r (big := lw_tbl) wsL_law0_r13 [698, 19, 699, 572, 573, 574, 575, 576, 577, 700, 702, 20, 703, 704, 706, 21, 707, 557, 708, 710, 22, 711, 712, 714] (by decide +kernel)
set_option maxRecDepth 20000 in
theorem lwm_wsL_law0_r14 : ∀ w ∈ wsL_law0_r14, w ∈ lw_tbl := lw_mem_r (big := lw_tbl) wsL_law0_r14 [23, 715, 716, 718, 24, 719, 720, 722, 25, 723, 724, 726, 26, 727, 728, 730, 27, 731, 739, 732, 733, 734, 735, 736] (by decide +kernel)
set_option maxRecDepth 20000 in
theorem lwm_wsL_law0_r15 : ∀ w ∈ wsL_law0_r15, w ∈ lw_tbl := lw_mem_r (big := lw_tbl) wsL_law0_r15 [737, 738, 740, 742, 28, 743, 744, 746, 29, 747, 748, 750, 30, 751, 451, 452, 453, 454, 455, 456, 457, 415, 150, 463] (by decide +kernel)
set_option maxRecDepth 20000 in
theorem lwm_wsL_law0_r16 : ∀ w ∈ wsL_law0_r16, w ∈ lw_tbl := lw_mem_r (big := lw_tbl) wsL_law0_r16 [46, 458, 459, 460, 464, 465, 466, 467, 468, 470, 472, 475, 477, 752, 753, 754, 755, 756, 757, 759, 31, 760, 167, 168] (by decide +kernel)
set_option maxRecDepth 20000 in
theorem lwm_wsL_law0_r17 : ∀ w ∈ wsL_law0_r17, w ∈ lw_tbl := lw_mem_r (big := lw_tbl) wsL_law0_r17 [169, 170, 469, 471, 171, 173, 0, 174, 761, 762, 763, 764, 765, 767, 32, 768, 275, 276, 277, 278, 478, 769, 770, 771] (by decide +kernel)
set_option maxRecDepth 20000 in
theorem lwm_wsL_law0_r18 : ∀ w ∈ wsL_law0_r18, w ∈ lw_tbl := lw_mem_r (big := lw_tbl) wsL_law0_r18 [772, 492, 493, 494, 495, 496, 497, 498, 499, 501, 773, 774, 775, 776, 502, 503, 504, 505, 506, 507, 508, 777, 778, 779] (by decide +kernel)
set_option maxRecDepth 20000 in
theorem lwm_wsL_law0_r19 : ∀ w ∈ wsL_law0_r19, w ∈ lw_tbl := lw_mem_r (big := lw_tbl) wsL_law0_r19 [780, 510, 511, 512, 513, 514, 515, 516, 781, 782, 783, 784, 785, 517, 518, 519, 520, 521, 522, 523, 151, 414, 416, 786] (by decide +kernel)
set_option maxRecDepth 20000 in
theorem lwm_wsL_law0_r20 : ∀ w ∈ wsL_law0_r20, w ∈ lw_tbl := lw_mem_r (big := lw_tbl) wsL_law0_r20 [787, 788, 789, 556, 790, 792, 33, 793, 279, 280, 281, 282, 794, 795, 796, 797, 525, 526, 527, 528, 529, 530, 531, 798] (by decide +kernel)
set_option maxRecDepth 20000 in
theorem lwm_wsL_law0_r21 : ∀ w ∈ wsL_law0_r21, w ∈ lw_tbl := lw_mem_r (big := lw_tbl) wsL_law0_r21 [799, 800, 801, 532, 533, 534, 535, 536, 537, 538, 802, 803, 804, 805, 283, 284, 285, 286, 806, 807, 808, 809] (by decide +kernel)
set_option maxRecDepth 20000 in
theorem lwm_wsX40 : ∀ w ∈ wsX40, w ∈ lw_tbl := lw_mem_r (big := lw_tbl) wsX40 [152, 154, 156, 158, 160, 162, 164] (by decide +kernel)
set_option maxRecDepth 20000 in
theorem lwm_wsX50 : ∀ w ∈ wsX50, w ∈ lw_tbl := lw_mem_r (big := lw_tbl) wsX50 [583, 585, 587, 589, 591, 593, 595, 597, 599, 601, 603, 605, 607, 609, 611, 613, 615, 617, 619, 621, 623, 625, 627, 629, 631, 633, 635, 637, 639, 641, 643, 645, 647, 649, 651, 653, 655] (by decide +kernel)
set_option maxRecDepth 20000 in
theorem lwm_wsX00 : ∀ w ∈ wsX00, w ∈ lw_tbl := lw_mem_r (big := lw_tbl) wsX00 [114, 116, 118, 120, 122, 124, 126, 128, 130, 132, 134, 136, 138, 140, 142] (by decide +kernel)
set_option maxRecDepth 20000 in
theorem lwm_wsX30 : ∀ w ∈ wsX30, w ∈ lw_tbl := lw_mem_r (big := lw_tbl) wsX30 [77, 79, 81, 83, 85, 87] (by decide +kernel)
set_option maxRecDepth 20000 in
theorem lwm_wsX20 : ∀ w ∈ wsX20, w ∈ lw_tbl := lw_mem_r (big := lw_tbl) wsX20 [417, 419, 421, 423, 425, 427, 429, 431, 433, 435, 437] (by decide +kernel)
set_option maxRecDepth 20000 in
theorem lwm_wsX10 : ∀ w ∈ wsX10, w ∈ lw_tbl := lw_mem_r (big := lw_tbl) wsX10 [480, 482, 484, 486, 488] (by decide +kernel)
