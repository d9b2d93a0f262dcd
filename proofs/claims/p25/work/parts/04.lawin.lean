theorem in_pl {big ws : List Cond} (ps : List Nat) (hp : ws = ps.filterMap (fun i => big[i]?)) : ∀ w ∈ ws, w ∈ big := by
  intro w hw
  rw [hp] at hw
  obtain ⟨i, -, hi⟩ := List.mem_filterMap.mp hw
  exact List.mem_of_getElem? hi
set_option maxRecDepth 20000 in
theorem p_wsL_law0_r1 : ∀ w ∈ wsL_law0_r1, w ∈ lw_tbl := in_pl [24, 25, 11, 475, 26, 27, 28, 29, 30, 31, 32, 33, 12, 137, 43, 44, 13, 138, 139, 71, 72, 14, 140, 99] (by decide +kernel)
set_option maxRecDepth 20000 in
theorem p_wsL_law0_r2 : ∀ w ∈ wsL_law0_r2, w ∈ lw_tbl := in_pl [100, 15, 141, 121, 122, 16, 142, 35, 36, 37, 42, 38, 46, 47, 48, 70, 49, 51, 53, 55, 74, 75, 76, 77] (by decide +kernel)
set_option maxRecDepth 20000 in
theorem p_wsL_law0_r3 : ∀ w ∈ wsL_law0_r3, w ∈ lw_tbl := in_pl [78, 79, 80, 82, 102, 103, 104, 105, 107, 109, 124, 125, 126, 127, 128, 129, 162, 163, 10, 164, 169, 170, 171, 165] (by decide +kernel)
set_option maxRecDepth 20000 in
theorem p_wsL_law0_r4 : ∀ w ∈ wsL_law0_r4, w ∈ lw_tbl := in_pl [166, 167, 168, 172, 173, 174, 175, 176, 177, 178, 179, 180, 181, 253, 21, 58, 182, 183, 184, 185, 20, 269, 270, 271] (by decide +kernel)
set_option maxRecDepth 20000 in
theorem p_wsL_law0_r5 : ∀ w ∈ wsL_law0_r5, w ∈ lw_tbl := in_pl [272, 57, 274, 275, 276, 277, 278, 279, 280, 281, 54, 282, 284, 1, 285, 287, 288, 289, 290, 294, 22, 56, 291, 292] (by decide +kernel)
set_option maxRecDepth 20000 in
theorem p_wsL_law0_r6 : ∀ w ∈ wsL_law0_r6, w ∈ lw_tbl := in_pl [293, 311, 312, 313, 314, 315, 316, 317, 318, 319, 320, 321, 322, 324, 325, 326, 327, 328, 329, 330, 331, 143, 333, 334] (by decide +kernel)
set_option maxRecDepth 20000 in
theorem p_wsL_law0_r7 : ∀ w ∈ wsL_law0_r7, w ∈ lw_tbl := in_pl [335, 336, 337, 339, 2, 340, 341, 342, 343, 344, 345, 347, 3, 348, 349, 351, 4, 352, 353, 354, 355, 356, 357, 358] (by decide +kernel)
set_option maxRecDepth 20000 in
theorem p_wsL_law0_r8 : ∀ w ∈ wsL_law0_r8, w ∈ lw_tbl := in_pl [84, 359, 361, 5, 362, 363, 364, 365, 366, 367, 368, 369, 370, 371, 85, 372, 373, 374, 378, 379, 380, 381, 382, 383] (by decide +kernel)
set_option maxRecDepth 20000 in
theorem p_wsL_law0_r9 : ∀ w ∈ wsL_law0_r9, w ∈ lw_tbl := in_pl [384, 385, 386, 387, 388, 389, 111, 390, 391, 392, 393, 394, 395, 399, 401, 6, 402, 108, 403, 404, 405, 407, 408, 409] (by decide +kernel)
set_option maxRecDepth 20000 in
theorem p_wsL_law0_r10 : ∀ w ∈ wsL_law0_r10, w ∈ lw_tbl := in_pl [410, 110, 411, 413, 7, 414, 415, 416, 417, 418, 419, 420, 421, 425, 426, 427, 428, 429, 430, 431, 432, 106, 433, 435] (by decide +kernel)
set_option maxRecDepth 20000 in
theorem p_wsL_law0_r11 : ∀ w ∈ wsL_law0_r11, w ∈ lw_tbl := in_pl [8, 436, 50, 438, 439, 440, 441, 442, 443, 444, 445, 446, 447, 448, 450, 451, 452, 453, 455, 456, 457, 458, 459, 460] (by decide +kernel)
set_option maxRecDepth 20000 in
theorem p_wsL_law0_r12 : ∀ w ∈ wsL_law0_r12, w ∈ lw_tbl := in_pl [461, 462, 463, 144, 465, 466, 467, 468, 472, 473, 23, 474, 469, 470, 471, 476, 477, 478, 479, 480, 481, 482, 483, 484] (by decide +kernel)
set_option maxRecDepth 20000 in
theorem p_wsL_law0_r13 : ∀ w ∈ wsL_law0_r13, w ∈ lw_tbl := in_pl [485, 486, 487, 488, 489, 490, 491, 492, 493, 494, 495, 496, 497, 52, 498, 499, 500, 501, 83, 81, 502, 504, 9, 505] (by decide +kernel)
set_option maxRecDepth 20000 in
theorem p_wsL_law0_r14 : ∀ w ∈ wsL_law0_r14, w ∈ lw_tbl := in_pl [507, 508, 509, 510, 511, 512, 513, 514, 517, 518, 519, 520, 521, 522, 523, 524, 525, 526, 527, 528, 529, 530, 531, 532] (by decide +kernel)
set_option maxRecDepth 20000 in
theorem p_wsL_law0_r15 : ∀ w ∈ wsL_law0_r15, w ∈ lw_tbl := in_pl [533, 534, 535, 536, 537, 538, 539, 540, 541, 542, 543, 544, 545, 546, 547, 548, 549, 550, 551, 552, 553, 554, 555, 556] (by decide +kernel)
set_option maxRecDepth 20000 in
theorem p_wsL_law0_r16 : ∀ w ∈ wsL_law0_r16, w ∈ lw_tbl := in_pl [557, 558, 559, 560] (by decide +kernel)
set_option maxRecDepth 20000 in
theorem p_wsX50 : ∀ w ∈ wsX50, w ∈ lw_tbl := in_pl [145, 147, 149, 151, 153, 155, 157, 159] (by decide +kernel)
set_option maxRecDepth 20000 in
theorem p_wsX20 : ∀ w ∈ wsX20, w ∈ lw_tbl := in_pl [39] (by decide +kernel)
set_option maxRecDepth 20000 in
theorem p_wsX30 : ∀ w ∈ wsX30, w ∈ lw_tbl := in_pl [59, 61, 63, 65, 67] (by decide +kernel)
set_option maxRecDepth 20000 in
theorem p_wsX00 : ∀ w ∈ wsX00, w ∈ lw_tbl := in_pl [86, 88, 90, 92, 94, 96] (by decide +kernel)
set_option maxRecDepth 20000 in
theorem p_wsX40 : ∀ w ∈ wsX40, w ∈ lw_tbl := in_pl [112, 114, 116, 118] (by decide +kernel)
set_option maxRecDepth 20000 in
theorem p_wsX10 : ∀ w ∈ wsX10, w ∈ lw_tbl := in_pl [130, 132, 134] (by decide +kernel)
theorem wsL_law_in0 : ∀ w ∈ wsL_law0, w ∈ lw_tbl := by
  unfold wsL_law0
  exact (List.forall_mem_append.mpr ⟨(List.forall_mem_append.mpr ⟨(List.forall_mem_append.mpr ⟨(List.forall_mem_append.mpr ⟨(List.forall_mem_append.mpr ⟨(List.forall_mem_append.mpr ⟨(List.forall_mem_append.mpr ⟨(List.forall_mem_append.mpr ⟨p_wsL_law0_r1, (List.forall_mem_append.mpr ⟨p_wsL_law0_r2, (List.forall_mem_append.mpr ⟨p_wsL_law0_r3, (List.forall_mem_append.mpr ⟨p_wsL_law0_r4, (List.forall_mem_append.mpr ⟨p_wsL_law0_r5, (List.forall_mem_append.mpr ⟨p_wsL_law0_r6, (List.forall_mem_append.mpr ⟨p_wsL_law0_r7, (List.forall_mem_append.mpr ⟨p_wsL_law0_r8, (List.forall_mem_append.mpr ⟨p_wsL_law0_r9, (List.forall_mem_append.mpr ⟨p_wsL_law0_r10, (List.forall_mem_append.mpr ⟨p_wsL_law0_r11, (List.forall_mem_append.mpr ⟨p_wsL_law0_r12, (List.forall_mem_append.mpr ⟨p_wsL_law0_r13, (List.forall_mem_append.mpr ⟨p_wsL_law0_r14, (List.forall_mem_append.mpr ⟨p_wsL_law0_r15, p_wsL_law0_r16⟩)⟩)⟩)⟩)⟩)⟩)⟩)⟩)⟩)⟩)⟩)⟩)⟩)⟩)⟩), p_wsX50⟩), p_wsX20⟩), p_wsX30⟩), p_wsX00⟩), p_wsX40⟩), p_wsX10⟩), fun _ h => absurd h List.not_mem_nil⟩)

