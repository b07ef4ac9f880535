set_option maxRecDepth 20000 in
theorem q_wsL_law_r1 : ∀ w ∈ wsL_law_r1, w ∈ lw_tbl := fun w h => (goodIn_r wsL_law_r1 [28, 29, 18, 61, 646, 639, 30, 31, 32, 33, 34, 35, 36, 37, 19, 235, 236, 171, 172, 24, 237, 188, 189, 25] (by decide +kernel) (by decide +kernel) w h).1
set_option maxRecDepth 20000 in
theorem q_wsL_law_r2 : ∀ w ∈ wsL_law_r2, w ∈ lw_tbl := fun w h => (goodIn_r wsL_law_r2 [238, 38, 39, 40, 41, 42, 43, 20, 150, 62, 63, 21, 152, 154, 156, 84, 85, 22, 158, 45, 46, 47, 48, 51] (by decide +kernel) (by decide +kernel) w h).1
set_option maxRecDepth 20000 in
theorem q_wsL_law_r3 : ∀ w ∈ wsL_law_r3, w ∈ lw_tbl := fun w h => (goodIn_r wsL_law_r3 [53, 65, 66, 67, 68, 72, 76, 87, 88, 89, 108, 109, 110, 111, 135, 136, 137, 138, 69, 73, 139, 140, 141, 142] (by decide +kernel) (by decide +kernel) w h).1
set_option maxRecDepth 20000 in
theorem q_wsL_law_r4 : ∀ w ∈ wsL_law_r4, w ∈ lw_tbl := fun w h => (goodIn_r wsL_law_r4 [143, 145, 146, 147, 148, 23, 149, 173, 174, 175, 176, 177, 180, 179, 191, 192, 193, 234, 196, 194, 199, 616, 617, 17] (by decide +kernel) (by decide +kernel) w h).1
set_option maxRecDepth 20000 in
theorem q_wsL_law_r5 : ∀ w ∈ wsL_law_r5, w ∈ lw_tbl := fun w h => (goodIn_r wsL_law_r5 [618, 456, 619, 620, 621, 470, 569, 570, 571, 622, 623, 624, 625, 151, 49, 252, 159, 90, 461, 626, 513, 514, 515, 607] (by decide +kernel) (by decide +kernel) w h).1
set_option maxRecDepth 20000 in
theorem q_wsL_law_r6 : ∀ w ∈ wsL_law_r6, w ∈ lw_tbl := fun w h => (goodIn_r wsL_law_r6 [313, 314, 315, 316, 317, 318, 319, 627, 518, 519, 628, 630, 16, 631, 632, 559, 560, 561, 528, 529, 530, 633, 525, 526] (by decide +kernel) (by decide +kernel) w h).1
set_option maxRecDepth 20000 in
theorem q_wsL_law_r7 : ∀ w ∈ wsL_law_r7, w ∈ lw_tbl := fun w h => (goodIn_r wsL_law_r7 [527, 489, 270, 271, 272, 273, 274, 634, 537, 538, 539, 635, 636, 637, 638, 496, 497, 498, 640, 641, 642, 572, 573, 574] (by decide +kernel) (by decide +kernel) w h).1
set_option maxRecDepth 20000 in
theorem q_wsL_law_r8 : ∀ w ∈ wsL_law_r8, w ∈ lw_tbl := fun w h => (goodIn_r wsL_law_r8 [566, 567, 568, 643, 644, 645, 248, 249, 250, 251, 153, 155, 253, 254, 255, 256, 257, 258, 259, 260, 261, 262, 263, 264] (by decide +kernel) (by decide +kernel) w h).1
set_option maxRecDepth 20000 in
theorem q_wsL_law_r9 : ∀ w ∈ wsL_law_r9, w ∈ lw_tbl := fun w h => (goodIn_r wsL_law_r9 [157, 265, 266, 267, 268, 269, 275, 276, 277, 278, 71, 75, 52, 95, 98, 105, 182, 198, 279, 280, 281, 282, 283, 284] (by decide +kernel) (by decide +kernel) w h).1
set_option maxRecDepth 20000 in
theorem q_wsL_law_r10 : ∀ w ∈ wsL_law_r10, w ∈ lw_tbl := fun w h => (goodIn_r wsL_law_r10 [285, 286, 287, 289, 0, 290, 50, 291, 292, 293, 294, 295, 296, 297, 298, 106, 103, 299, 300, 301, 302, 303, 304, 305] (by decide +kernel) (by decide +kernel) w h).1
set_option maxRecDepth 20000 in
theorem q_wsL_law_r11 : ∀ w ∈ wsL_law_r11, w ∈ lw_tbl := fun w h => (goodIn_r wsL_law_r11 [306, 307, 308, 309, 310, 311, 312, 380, 381, 382, 493, 494, 495, 575, 576, 577, 320, 321, 322, 323, 324, 325, 326, 327] (by decide +kernel) (by decide +kernel) w h).1
set_option maxRecDepth 20000 in
theorem q_wsL_law_r12 : ∀ w ∈ wsL_law_r12, w ∈ lw_tbl := fun w h => (goodIn_r wsL_law_r12 [328, 329, 330, 331, 332, 333, 334, 335, 336, 337, 338, 339, 340, 341, 342, 181, 343, 345, 1, 346, 347, 348, 349, 350] (by decide +kernel) (by decide +kernel) w h).1
set_option maxRecDepth 20000 in
theorem q_wsL_law_r13 : ∀ w ∈ wsL_law_r13, w ∈ lw_tbl := fun w h => (goodIn_r wsL_law_r13 [351, 352, 353, 354, 355, 357, 356, 26, 358, 359, 360, 361, 362, 363, 364, 365, 366, 92, 94, 97, 100, 102, 367, 368] (by decide +kernel) (by decide +kernel) w h).1
set_option maxRecDepth 20000 in
theorem q_wsL_law_r14 : ∀ w ∈ wsL_law_r14, w ∈ lw_tbl := fun w h => (goodIn_r wsL_law_r14 [369, 370, 371, 372, 373, 374, 375, 376, 377, 378, 379, 383, 384, 385, 386, 387, 388, 389, 390, 391, 392, 393, 394, 395] (by decide +kernel) (by decide +kernel) w h).1
set_option maxRecDepth 20000 in
theorem q_wsL_law_r15 : ∀ w ∈ wsL_law_r15, w ∈ lw_tbl := fun w h => (goodIn_r wsL_law_r15 [396, 397, 398, 197, 399, 400, 401, 402, 403, 404, 405, 204, 202, 406, 407, 408, 409, 203, 410, 412, 2, 413, 205, 206] (by decide +kernel) (by decide +kernel) w h).1
set_option maxRecDepth 20000 in
theorem q_wsL_law_r16 : ∀ w ∈ wsL_law_r16, w ∈ lw_tbl := fun w h => (goodIn_r wsL_law_r16 [207, 414, 415, 417, 3, 418, 208, 209, 210, 419, 421, 4, 422, 423, 425, 5, 426, 427, 429, 6, 430, 201, 431, 433] (by decide +kernel) (by decide +kernel) w h).1
set_option maxRecDepth 20000 in
theorem q_wsL_law_r17 : ∀ w ∈ wsL_law_r17, w ∈ lw_tbl := fun w h => (goodIn_r wsL_law_r17 [7, 434, 435, 436, 437, 438, 439, 440, 442, 8, 443, 444, 446, 9, 447, 448, 450, 10, 451, 452, 454, 11, 455, 70] (by decide +kernel) (by decide +kernel) w h).1
set_option maxRecDepth 20000 in
theorem q_wsL_law_r18 : ∀ w ∈ wsL_law_r18, w ∈ lw_tbl := fun w h => (goodIn_r wsL_law_r18 [74, 457, 458, 459, 460, 200, 462, 463, 464, 465, 466, 467, 468, 469, 471, 472, 473, 474, 475, 476, 477, 478, 479, 480] (by decide +kernel) (by decide +kernel) w h).1
set_option maxRecDepth 20000 in
theorem q_wsL_law_r19 : ∀ w ∈ wsL_law_r19, w ∈ lw_tbl := fun w h => (goodIn_r wsL_law_r19 [481, 482, 483, 91, 93, 96, 490, 491, 27, 492, 99, 101, 107, 484, 485, 486, 487, 488, 499, 500, 501, 502, 503, 504] (by decide +kernel) (by decide +kernel) w h).1
set_option maxRecDepth 20000 in
theorem q_wsL_law_r20 : ∀ w ∈ wsL_law_r20, w ∈ lw_tbl := fun w h => (goodIn_r wsL_law_r20 [505, 506, 507, 508, 510, 12, 511, 104, 512, 516, 517, 520, 522, 13, 523, 524, 531, 532, 534, 14, 535, 536, 540, 541] (by decide +kernel) (by decide +kernel) w h).1
set_option maxRecDepth 20000 in
theorem q_wsL_law_r21 : ∀ w ∈ wsL_law_r21, w ∈ lw_tbl := fun w h => (goodIn_r wsL_law_r21 [542, 543, 544, 545, 546, 547, 548, 549, 550, 551, 552, 553, 554, 555, 556, 557, 558, 562, 563, 564, 565, 578, 579, 580] (by decide +kernel) (by decide +kernel) w h).1
set_option maxRecDepth 20000 in
theorem q_wsL_law_r22 : ∀ w ∈ wsL_law_r22, w ∈ lw_tbl := fun w h => (goodIn_r wsL_law_r22 [581, 582, 583, 584, 585, 586, 587, 588, 589, 590, 591, 592, 593, 595, 15, 596, 597, 598, 599, 600, 601, 602, 603, 604] (by decide +kernel) (by decide +kernel) w h).1
set_option maxRecDepth 20000 in
theorem q_wsL_law_r23 : ∀ w ∈ wsL_law_r23, w ∈ lw_tbl := fun w h => (goodIn_r wsL_law_r23 [605, 606, 608, 609, 610, 611, 612, 613, 614, 615] (by decide +kernel) (by decide +kernel) w h).1
theorem q_wsX60 : ∀ w ∈ wsX60, w ∈ lw_tbl := by decide +kernel
theorem q_wsX30 : ∀ w ∈ wsX30, w ∈ lw_tbl := by decide +kernel
theorem q_wsX00 : ∀ w ∈ wsX00, w ∈ lw_tbl := by decide +kernel
theorem q_wsX40 : ∀ w ∈ wsX40, w ∈ lw_tbl := by decide +kernel
theorem q_wsX20 : ∀ w ∈ wsX20, w ∈ lw_tbl := by decide +kernel
theorem q_wsX10 : ∀ w ∈ wsX10, w ∈ lw_tbl := by decide +kernel
theorem q_wsX50 : ∀ w ∈ wsX50, w ∈ lw_tbl := by decide +kernel
theorem wsL_law_in : ∀ w ∈ wsL_law, w ∈ lw_tbl := (List.forall_mem_append.mpr ⟨(List.forall_mem_append.mpr ⟨(List.forall_mem_append.mpr ⟨(List.forall_mem_append.mpr ⟨(List.forall_mem_append.mpr ⟨(List.forall_mem_append.mpr ⟨(List.forall_mem_append.mpr ⟨(List.forall_mem_append.mpr ⟨(List.forall_mem_append.mpr ⟨q_wsL_law_r1, (List.forall_mem_append.mpr ⟨q_wsL_law_r2, (List.forall_mem_append.mpr ⟨q_wsL_law_r3, (List.forall_mem_append.mpr ⟨q_wsL_law_r4, (List.forall_mem_append.mpr ⟨q_wsL_law_r5, (List.forall_mem_append.mpr ⟨q_wsL_law_r6, (List.forall_mem_append.mpr ⟨q_wsL_law_r7, (List.forall_mem_append.mpr ⟨q_wsL_law_r8, (List.forall_mem_append.mpr ⟨q_wsL_law_r9, (List.forall_mem_append.mpr ⟨q_wsL_law_r10, (List.forall_mem_append.mpr ⟨q_wsL_law_r11, (List.forall_mem_append.mpr ⟨q_wsL_law_r12, (List.forall_mem_append.mpr ⟨q_wsL_law_r13, (List.forall_mem_append.mpr ⟨q_wsL_law_r14, (List.forall_mem_append.mpr ⟨q_wsL_law_r15, (List.forall_mem_append.mpr ⟨q_wsL_law_r16, (List.forall_mem_append.mpr ⟨q_wsL_law_r17, (List.forall_mem_append.mpr ⟨q_wsL_law_r18, (List.forall_mem_append.mpr ⟨q_wsL_law_r19, (List.forall_mem_append.mpr ⟨q_wsL_law_r20, (List.forall_mem_append.mpr ⟨q_wsL_law_r21, (List.forall_mem_append.mpr ⟨q_wsL_law_r22, q_wsL_law_r23⟩)⟩)⟩)⟩)⟩)⟩)⟩)⟩)⟩)⟩)⟩)⟩)⟩)⟩)⟩)⟩)⟩)⟩)⟩)⟩)⟩)⟩), q_wsX60⟩), q_wsX30⟩), q_wsX00⟩), q_wsX40⟩), q_wsX20⟩), q_wsX10⟩), q_wsX50⟩), fun _ h => absurd h List.not_mem_nil⟩)
theorem inlX0 : ∀ w ∈ wsX00, w ∈ wsL_law := fun _ h => List.mem_append_left _ (List.mem_append_left _ (List.mem_append_left _ (List.mem_append_left _ (List.mem_append_left _ (List.mem_append_right _ h)))))
theorem inX0 : ∀ w ∈ wsX00, w ∈ lw_tbl := fun w h => wsL_law_in w (inlX0 w h)
theorem inlX1 : ∀ w ∈ wsX10, w ∈ wsL_law := fun _ h => List.mem_append_left _ (List.mem_append_left _ (List.mem_append_right _ h))
theorem inX1 : ∀ w ∈ wsX10, w ∈ lw_tbl := fun w h => wsL_law_in w (inlX1 w h)
theorem inlX2 : ∀ w ∈ wsX20, w ∈ wsL_law := fun _ h => List.mem_append_left _ (List.mem_append_left _ (List.mem_append_left _ (List.mem_append_right _ h)))
theorem inX2 : ∀ w ∈ wsX20, w ∈ lw_tbl := fun w h => wsL_law_in w (inlX2 w h)
theorem inlX3 : ∀ w ∈ wsX30, w ∈ wsL_law := fun _ h => List.mem_append_left _ (List.mem_append_left _ (List.mem_append_left _ (List.mem_append_left _ (List.mem_append_left _ (List.mem_append_left _ (List.mem_append_right _ h))))))
theorem inX3 : ∀ w ∈ wsX30, w ∈ lw_tbl := fun w h => wsL_law_in w (inlX3 w h)
theorem inlX4 : ∀ w ∈ wsX40, w ∈ wsL_law := fun _ h => List.mem_append_left _ (List.mem_append_left _ (List.mem_append_left _ (List.mem_append_left _ (List.mem_append_right _ h))))
theorem inX4 : ∀ w ∈ wsX40, w ∈ lw_tbl := fun w h => wsL_law_in w (inlX4 w h)
theorem inlX5 : ∀ w ∈ wsX50, w ∈ wsL_law := fun _ h => List.mem_append_left _ (List.mem_append_right _ h)
theorem inX5 : ∀ w ∈ wsX50, w ∈ lw_tbl := fun w h => wsL_law_in w (inlX5 w h)
theorem inlX6 : ∀ w ∈ wsX60, w ∈ wsL_law := fun _ h => List.mem_append_left _ (List.mem_append_left _ (List.mem_append_left _ (List.mem_append_left _ (List.mem_append_left _ (List.mem_append_left _ (List.mem_append_left _ (List.mem_append_right _ h)))))))
theorem inX6 : ∀ w ∈ wsX60, w ∈ lw_tbl := fun w h => wsL_law_in w (inlX6 w h)
theorem inX7 : ∀ w ∈ wsX70, w ∈ lw_tbl := by decide +kernel
theorem inJ9 : ∀ w ∈ wsJ90, w ∈ lw_tbl := by decide +kernel
theorem inJ10 : ∀ w ∈ wsJ100, w ∈ lw_tbl := by decide +kernel
theorem inJ7 : ∀ w ∈ wsJ70, w ∈ lw_tbl := by decide +kernel
