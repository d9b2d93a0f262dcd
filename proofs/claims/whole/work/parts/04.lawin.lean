theorem in_pl {big ws : List Cond} (ps : List Nat) (hp : ws = ps.filterMap (fun i => big[i]?)) : ∀ w ∈ ws, w ∈ big := by
  intro w hw
  rw [hp] at hw
  obtain ⟨i, -, hi⟩ := List.mem_filterMap.mp hw
  exact List.mem_of_getElem? hi
set_option maxRecDepth 20000 in
theorem p_wsL_law0_r1 : ∀ w ∈ wsL_law0_r1, w ∈ lw_tbl := in_pl [41, 42, 27, 597, 598, 33, 847, 43, 44, 45, 46, 47, 48, 49, 50, 28, 154, 60, 61, 29, 155, 156, 88, 89] (by decide +kernel)
set_option maxRecDepth 20000 in
theorem p_wsL_law0_r2 : ∀ w ∈ wsL_law0_r2, w ∈ lw_tbl := in_pl [30, 157, 116, 117, 31, 158, 138, 139, 32, 159, 52, 53, 54, 59, 55, 63, 64, 65, 87, 66, 68, 70, 72, 91] (by decide +kernel)
set_option maxRecDepth 20000 in
theorem p_wsL_law0_r3 : ∀ w ∈ wsL_law0_r3, w ∈ lw_tbl := in_pl [92, 93, 94, 95, 96, 97, 99, 119, 120, 121, 122, 124, 126, 141, 142, 143, 144, 145, 146, 599, 600, 601, 602, 606] (by decide +kernel)
set_option maxRecDepth 20000 in
theorem p_wsL_law0_r4 : ∀ w ∈ wsL_law0_r4, w ∈ lw_tbl := in_pl [607, 608, 609, 610, 611, 612, 613, 615, 616, 617, 618, 619, 620, 622, 623, 624, 625, 626, 627, 187, 188, 26, 189, 190] (by decide +kernel)
set_option maxRecDepth 20000 in
theorem p_wsL_law0_r5 : ∀ w ∈ wsL_law0_r5, w ∈ lw_tbl := in_pl [191, 192, 193, 194, 195, 267, 38, 75, 196, 197, 198, 199, 37, 283, 284, 285, 286, 74, 288, 289, 290, 291, 686, 687] (by decide +kernel)
set_option maxRecDepth 20000 in
theorem p_wsL_law0_r6 : ∀ w ∈ wsL_law0_r6, w ∈ lw_tbl := in_pl [688, 689, 605, 690, 691, 692, 693, 694, 695, 696, 698, 10, 699, 700, 702, 11, 703, 603, 682, 683, 684, 685, 292, 293] (by decide +kernel)
set_option maxRecDepth 20000 in
theorem p_wsL_law0_r7 : ∀ w ∈ wsL_law0_r7, w ∈ lw_tbl := in_pl [294, 295, 296, 297, 298, 71, 299, 301, 1, 302, 704, 705, 706, 707, 708, 710, 12, 711, 304, 305, 306, 307, 308, 309] (by decide +kernel)
set_option maxRecDepth 20000 in
theorem p_wsL_law0_r8 : ∀ w ∈ wsL_law0_r8, w ∈ lw_tbl := in_pl [310, 311, 315, 39, 73, 312, 313, 314, 712, 713, 714, 715, 332, 333, 334, 335, 336, 337, 338, 339, 340, 341, 342, 716] (by decide +kernel)
set_option maxRecDepth 20000 in
theorem p_wsL_law0_r9 : ∀ w ∈ wsL_law0_r9, w ∈ lw_tbl := in_pl [717, 718, 719, 343, 344, 345, 346, 347, 348, 349, 351, 352, 353, 354, 720, 721, 722, 723, 355, 356, 357, 358, 359, 360] (by decide +kernel)
set_option maxRecDepth 20000 in
theorem p_wsL_law0_r10 : ∀ w ∈ wsL_law0_r10, w ∈ lw_tbl := in_pl [361, 67, 724, 725, 726, 727, 362, 363, 364, 365, 366, 367, 368, 69, 728, 729, 730, 731, 369, 370, 371, 372, 373, 374] (by decide +kernel)
set_option maxRecDepth 20000 in
theorem p_wsL_law0_r11 : ∀ w ∈ wsL_law0_r11, w ∈ lw_tbl := in_pl [375, 732, 733, 734, 735, 376, 377, 378, 379, 380, 381, 382, 160, 384, 385, 386, 387, 388, 390, 2, 391, 392, 393, 394] (by decide +kernel)
set_option maxRecDepth 20000 in
theorem p_wsL_law0_r12 : ∀ w ∈ wsL_law0_r12, w ∈ lw_tbl := in_pl [395, 396, 398, 3, 399, 400, 402, 4, 403, 404, 405, 406, 407, 408, 409, 101, 410, 412, 5, 413, 414, 415, 416, 417] (by decide +kernel)
set_option maxRecDepth 20000 in
theorem p_wsL_law0_r13 : ∀ w ∈ wsL_law0_r13, w ∈ lw_tbl := in_pl [418, 736, 737, 738, 739, 604, 740, 742, 13, 743, 614, 744, 746, 14, 747, 748, 750, 15, 751, 752, 754, 16, 755, 756] (by decide +kernel)
set_option maxRecDepth 20000 in
theorem p_wsL_law0_r14 : ∀ w ∈ wsL_law0_r14, w ∈ lw_tbl := in_pl [758, 17, 759, 760, 762, 18, 763, 179, 180, 181, 182, 764, 765, 766, 767, 419, 420, 421, 422, 423, 424, 425, 426, 427] (by decide +kernel)
set_option maxRecDepth 20000 in
theorem p_wsL_law0_r15 : ∀ w ∈ wsL_law0_r15, w ∈ lw_tbl := in_pl [428, 429, 768, 769, 770, 771, 430, 431, 432, 433, 434, 435, 436, 102, 437, 438, 439, 443, 444, 445, 446, 447, 448, 449] (by decide +kernel)
set_option maxRecDepth 20000 in
theorem p_wsL_law0_r16 : ∀ w ∈ wsL_law0_r16, w ∈ lw_tbl := in_pl [450, 772, 773, 774, 775, 451, 452, 453, 454, 455, 456, 457, 776, 777, 778, 779, 780, 782, 19, 783, 458, 459, 460, 461] (by decide +kernel)
set_option maxRecDepth 20000 in
theorem p_wsL_law0_r17 : ∀ w ∈ wsL_law0_r17, w ∈ lw_tbl := in_pl [462, 463, 464, 465, 784, 785, 786, 787, 466, 467, 468, 469, 470, 471, 472, 100, 98, 473, 475, 6, 476, 788, 789, 790] (by decide +kernel)
set_option maxRecDepth 20000 in
theorem p_wsL_law0_r18 : ∀ w ∈ wsL_law0_r18, w ∈ lw_tbl := in_pl [791, 792, 794, 20, 795, 478, 479, 480, 481, 482, 483, 484, 796, 797, 798, 799, 485, 486, 487, 488, 489, 490, 491, 128] (by decide +kernel)
set_option maxRecDepth 20000 in
theorem p_wsL_law0_r19 : ∀ w ∈ wsL_law0_r19, w ∈ lw_tbl := in_pl [492, 493, 494, 495, 496, 497, 501, 503, 7, 504, 125, 505, 506, 507, 509, 510, 511, 512, 127, 513, 515, 8, 516, 800] (by decide +kernel)
set_option maxRecDepth 20000 in
theorem p_wsL_law0_r20 : ∀ w ∈ wsL_law0_r20, w ∈ lw_tbl := in_pl [801, 802, 803, 621, 804, 805, 806, 807, 809, 21, 810, 811, 813, 22, 814, 517, 518, 519, 520, 521, 522, 523, 527, 528] (by decide +kernel)
set_option maxRecDepth 20000 in
theorem p_wsL_law0_r21 : ∀ w ∈ wsL_law0_r21, w ∈ lw_tbl := in_pl [529, 530, 815, 816, 817, 818, 531, 532, 533, 534, 535, 536, 537, 123, 538, 540, 9, 541, 543, 544, 545, 546, 547, 548] (by decide +kernel)
set_option maxRecDepth 20000 in
theorem p_wsL_law0_r22 : ∀ w ∈ wsL_law0_r22, w ∈ lw_tbl := in_pl [549, 550, 551, 552, 553, 555, 556, 557, 558, 560, 561, 562, 563, 564, 819, 820, 821, 822, 823, 825, 23, 826, 827, 829] (by decide +kernel)
set_option maxRecDepth 20000 in
theorem p_wsL_law0_r23 : ∀ w ∈ wsL_law0_r23, w ∈ lw_tbl := in_pl [24, 830, 831, 833, 25, 834, 565, 566, 567, 568, 569, 570, 571, 161, 573, 574, 575, 576, 580, 581, 40, 582, 577, 578] (by decide +kernel)
set_option maxRecDepth 20000 in
theorem p_wsL_law0_r24 : ∀ w ∈ wsL_law0_r24, w ∈ lw_tbl := in_pl [579, 835, 836, 837, 838, 628, 583, 584, 585, 586, 587, 588, 589, 592, 593, 594, 595, 596, 839, 840, 841, 842, 183, 184] (by decide +kernel)
set_option maxRecDepth 20000 in
theorem p_wsL_law0_r25 : ∀ w ∈ wsL_law0_r25, w ∈ lw_tbl := in_pl [185, 186, 843, 844, 845, 846] (by decide +kernel)
set_option maxRecDepth 20000 in
theorem p_wsX50 : ∀ w ∈ wsX50, w ∈ lw_tbl := in_pl [162, 164, 166, 168, 170, 172, 174, 176] (by decide +kernel)
set_option maxRecDepth 20000 in
theorem p_wsX60 : ∀ w ∈ wsX60, w ∈ lw_tbl := in_pl [629, 631, 633, 635, 637, 639, 641, 643, 645, 647, 649, 651, 653, 655, 657, 659, 661, 663, 665, 667, 669, 671, 673, 675, 677, 679] (by decide +kernel)
set_option maxRecDepth 20000 in
theorem p_wsX20 : ∀ w ∈ wsX20, w ∈ lw_tbl := in_pl [56] (by decide +kernel)
set_option maxRecDepth 20000 in
theorem p_wsX30 : ∀ w ∈ wsX30, w ∈ lw_tbl := in_pl [76, 78, 80, 82, 84] (by decide +kernel)
set_option maxRecDepth 20000 in
theorem p_wsX00 : ∀ w ∈ wsX00, w ∈ lw_tbl := in_pl [103, 105, 107, 109, 111, 113] (by decide +kernel)
set_option maxRecDepth 20000 in
theorem p_wsX40 : ∀ w ∈ wsX40, w ∈ lw_tbl := in_pl [129, 131, 133, 135] (by decide +kernel)
set_option maxRecDepth 20000 in
theorem p_wsX10 : ∀ w ∈ wsX10, w ∈ lw_tbl := in_pl [147, 149, 151] (by decide +kernel)
theorem wsL_law_in0 : ∀ w ∈ wsL_law0, w ∈ lw_tbl := by
  unfold wsL_law0
  exact (List.forall_mem_append.mpr ⟨(List.forall_mem_append.mpr ⟨(List.forall_mem_append.mpr ⟨(List.forall_mem_append.mpr ⟨(List.forall_mem_append.mpr ⟨(List.forall_mem_append.mpr ⟨(List.forall_mem_append.mpr ⟨(List.forall_mem_append.mpr ⟨(List.forall_mem_append.mpr ⟨p_wsL_law0_r1, (List.forall_mem_append.mpr ⟨p_wsL_law0_r2, (List.forall_mem_append.mpr ⟨p_wsL_law0_r3, (List.forall_mem_append.mpr ⟨p_wsL_law0_r4, (List.forall_mem_append.mpr ⟨p_wsL_law0_r5, (List.forall_mem_append.mpr ⟨p_wsL_law0_r6, (List.forall_mem_append.mpr ⟨p_wsL_law0_r7, (List.forall_mem_append.mpr ⟨p_wsL_law0_r8, (List.forall_mem_append.mpr ⟨p_wsL_law0_r9, (List.forall_mem_append.mpr ⟨p_wsL_law0_r10, (List.forall_mem_append.mpr ⟨p_wsL_law0_r11, (List.forall_mem_append.mpr ⟨p_wsL_law0_r12, (List.forall_mem_append.mpr ⟨p_wsL_law0_r13, (List.forall_mem_append.mpr ⟨p_wsL_law0_r14, (List.forall_mem_append.mpr ⟨p_wsL_law0_r15, (List.forall_mem_append.mpr ⟨p_wsL_law0_r16, (List.forall_mem_append.mpr ⟨p_wsL_law0_r17, (List.forall_mem_append.mpr ⟨p_wsL_law0_r18, (List.forall_mem_append.mpr ⟨p_wsL_law0_r19, (List.forall_mem_append.mpr ⟨p_wsL_law0_r20, (List.forall_mem_append.mpr ⟨p_wsL_law0_r21, (List.forall_mem_append.mpr ⟨p_wsL_law0_r22, (List.forall_mem_append.mpr ⟨p_wsL_law0_r23, (List.forall_mem_append.mpr ⟨p_wsL_law0_r24, p_wsL_law0_r25⟩)⟩)⟩)⟩)⟩)⟩)⟩)⟩)⟩)⟩)⟩)⟩)⟩)⟩)⟩)⟩)⟩)⟩)⟩)⟩)⟩)⟩)⟩)⟩), p_wsX50⟩), p_wsX60⟩), p_wsX20⟩), p_wsX30⟩), p_wsX00⟩), p_wsX40⟩), p_wsX10⟩), fun _ h => absurd h List.not_mem_nil⟩)
theorem wsL_law_x0 : ∀ w ∈ (vx_atS RX5 59 "java/lang/IllegalStateException" ["java/lang/RuntimeException", "java/lang/Exception"]).filter goodWord, w ∈ lw_tbl := by decide +kernel
theorem wsL_law_x1 : ∀ w ∈ (vx_atS RX5 99 "java/lang/IndexOutOfBoundsException" ["java/lang/RuntimeException", "java/lang/Exception"]).filter goodWord, w ∈ lw_tbl := by decide +kernel
theorem wsL_law_x2 : ∀ w ∈ (vx_atS RX5 90 "java/lang/IllegalArgumentException" ["java/lang/RuntimeException", "java/lang/Exception"]).filter goodWord, w ∈ lw_tbl := by decide +kernel
theorem wsL_law_in : ∀ w ∈ wsL_law, w ∈ lw_tbl := fun w h => (List.mem_append.mp h).elim (fun h => (List.mem_append.mp h).elim (fun h => (List.mem_append.mp h).elim (fun h => wsL_law_in0 w h) (fun h => wsL_law_x0 w h)) (fun h => wsL_law_x1 w h)) (fun h => wsL_law_x2 w h)
theorem inlX0 : ∀ w ∈ wsX00, w ∈ wsL_law := fun _ h => List.mem_append_left _ (List.mem_append_left _ (List.mem_append_left _ (List.mem_append_left _ (List.mem_append_left _ (List.mem_append_left _ (List.mem_append_right _ h))))))
theorem inX0 : ∀ w ∈ wsX00, w ∈ lw_tbl := fun w h => wsL_law_in w (inlX0 w h)
theorem inlX1 : ∀ w ∈ wsX10, w ∈ wsL_law := fun _ h => List.mem_append_left _ (List.mem_append_left _ (List.mem_append_left _ (List.mem_append_left _ (List.mem_append_right _ h))))
theorem inX1 : ∀ w ∈ wsX10, w ∈ lw_tbl := fun w h => wsL_law_in w (inlX1 w h)
theorem inlX2 : ∀ w ∈ wsX20, w ∈ wsL_law := fun _ h => List.mem_append_left _ (List.mem_append_left _ (List.mem_append_left _ (List.mem_append_left _ (List.mem_append_left _ (List.mem_append_left _ (List.mem_append_left _ (List.mem_append_left _ (List.mem_append_right _ h))))))))
theorem inX2 : ∀ w ∈ wsX20, w ∈ lw_tbl := fun w h => wsL_law_in w (inlX2 w h)
theorem inlX3 : ∀ w ∈ wsX30, w ∈ wsL_law := fun _ h => List.mem_append_left _ (List.mem_append_left _ (List.mem_append_left _ (List.mem_append_left _ (List.mem_append_left _ (List.mem_append_left _ (List.mem_append_left _ (List.mem_append_right _ h)))))))
theorem inX3 : ∀ w ∈ wsX30, w ∈ lw_tbl := fun w h => wsL_law_in w (inlX3 w h)
theorem inlX4 : ∀ w ∈ wsX40, w ∈ wsL_law := fun _ h => List.mem_append_left _ (List.mem_append_left _ (List.mem_append_left _ (List.mem_append_left _ (List.mem_append_left _ (List.mem_append_right _ h)))))
theorem inX4 : ∀ w ∈ wsX40, w ∈ lw_tbl := fun w h => wsL_law_in w (inlX4 w h)
theorem inlX5 : ∀ w ∈ wsX50, w ∈ wsL_law := fun _ h => List.mem_append_left _ (List.mem_append_left _ (List.mem_append_left _ (List.mem_append_left _ (List.mem_append_left _ (List.mem_append_left _ (List.mem_append_left _ (List.mem_append_left _ (List.mem_append_left _ (List.mem_append_left _ (List.mem_append_right _ h))))))))))
theorem inX5 : ∀ w ∈ wsX50, w ∈ lw_tbl := fun w h => wsL_law_in w (inlX5 w h)
theorem inlX6 : ∀ w ∈ wsX60, w ∈ wsL_law := fun _ h => List.mem_append_left _ (List.mem_append_left _ (List.mem_append_left _ (List.mem_append_left _ (List.mem_append_left _ (List.mem_append_left _ (List.mem_append_left _ (List.mem_append_left _ (List.mem_append_left _ (List.mem_append_right _ h)))))))))
theorem inX6 : ∀ w ∈ wsX60, w ∈ lw_tbl := fun w h => wsL_law_in w (inlX6 w h)
theorem inJ9 : ∀ w ∈ wsJ90, w ∈ lw_tbl := by decide +kernel
theorem inJ0 : ∀ w ∈ wsJ00, w ∈ lw_tbl := by decide +kernel
