set_option maxRecDepth 20000 in
theorem ggL_law_X6_init_p0 : GoodIn wsL_law [Cond.code yX6_init cX6_init 1 none] := goodIn_r _ [8] (by decide +kernel) (by decide +kernel)
set_option maxRecDepth 20000 in
theorem ggL_law_X6_init_p1 : GoodIn wsL_law wsX6_init_r1 := goodIn_r _ [9, 10, 11, 12, 13, 14, 15, 16, 17, 18, 19, 20, 21, 22, 23, 24, 25, 26, 27, 28, 29, 30, 31, 32] (by decide +kernel) (by decide +kernel)
set_option maxRecDepth 20000 in
theorem ggL_law_X6_init_p2 : GoodIn wsL_law wsX6_init_r2 := goodIn_r _ [33, 34, 35, 36, 37, 38, 39, 40, 41, 42, 43, 44, 45, 46, 47, 3, 48, 49, 50, 51, 52, 53, 54, 55] (by decide +kernel) (by decide +kernel)
set_option maxRecDepth 20000 in
theorem ggL_law_X6_init_p3 : GoodIn wsL_law wsX6_init_r3 := goodIn_r _ [56, 57, 58, 59, 60, 61, 62, 63, 64, 65, 66, 67, 68, 69, 70, 71, 72, 73, 2, 74, 75, 76, 77, 78] (by decide +kernel) (by decide +kernel)
set_option maxRecDepth 20000 in
theorem ggL_law_X6_init_p4 : GoodIn wsL_law wsX6_init_r4 := goodIn_r _ [79, 80, 81, 82, 83, 84, 85, 86, 87, 88, 89, 90, 91, 92] (by decide +kernel) (by decide +kernel)
set_option maxRecDepth 20000 in
theorem ggL_law_X6_init_p5 : GoodIn wsL_law wsX30 := goodIn_r _ [542, 543, 544, 545, 546] (by decide +kernel) (by decide +kernel)
set_option maxRecDepth 20000 in
theorem ggL_law_X6_init_p6 : GoodIn wsL_law wsX60 := goodIn_r _ [538, 539, 540, 541] (by decide +kernel) (by decide +kernel)
set_option maxRecDepth 20000 in
theorem ggL_law_X6_init_p7 : GoodIn wsL_law wsX00 := goodIn_r _ [547, 548] (by decide +kernel) (by decide +kernel)
set_option maxRecDepth 20000 in
theorem ggL_law_X6_init_p8 : GoodIn wsL_law wsX40 := goodIn_r _ [549, 550, 551, 552, 553, 554, 555, 556, 557, 558, 559] (by decide +kernel) (by decide +kernel)
set_option maxRecDepth 20000 in
theorem ggL_law_X6_init_p9 : GoodIn wsL_law wsX20 := goodIn_r _ [560, 561, 562] (by decide +kernel) (by decide +kernel)
set_option maxRecDepth 20000 in
theorem ggL_law_X6_init_p10 : GoodIn wsL_law wsX10 := goodIn_r _ [563, 564, 565] (by decide +kernel) (by decide +kernel)
set_option maxRecDepth 20000 in
theorem ggL_law_X6_init_p11 : GoodIn wsL_law wsX50 := goodIn_r _ [566, 567, 568, 569, 570, 571, 572, 573, 574, 575, 576] (by decide +kernel) (by decide +kernel)
set_option maxRecDepth 20000 in
theorem ggL_law_X6_init : GoodIn wsL_law wsX6_init := by
  show GoodIn wsL_law ([Cond.code yX6_init cX6_init 1 none] ++ ((wsX6_init_r1 ++ (wsX6_init_r2 ++ (wsX6_init_r3 ++ wsX6_init_r4))) ++ wsX30 ++ wsX60 ++ wsX00 ++ wsX40 ++ wsX20 ++ wsX10 ++ wsX50))
  exact goodIn_app ggL_law_X6_init_p0 (goodIn_app (goodIn_app (goodIn_app (goodIn_app (goodIn_app (goodIn_app (goodIn_app (goodIn_app ggL_law_X6_init_p1 (goodIn_app ggL_law_X6_init_p2 (goodIn_app ggL_law_X6_init_p3 ggL_law_X6_init_p4))) ggL_law_X6_init_p5) ggL_law_X6_init_p6) ggL_law_X6_init_p7) ggL_law_X6_init_p8) ggL_law_X6_init_p9) ggL_law_X6_init_p10) ggL_law_X6_init_p11)
set_option maxRecDepth 20000 in
theorem gL_law_X6_init : GoodIn wsL_law (wsX6_init) := ggL_law_X6_init
set_option maxRecDepth 20000 in
theorem ggL_law_L_isSo_p0 : GoodIn wsL_law [Cond.code yL_isSo cL_isSo 15 (some .boolean)] := goodIn_r _ [96] (by decide +kernel) (by decide +kernel)
set_option maxRecDepth 20000 in
theorem ggL_law_L_isSo_p1 : GoodIn wsL_law wsL_isSo_r1 := goodIn_r _ [5, 97, 98, 99, 95, 100, 101, 102, 103, 104, 105, 106, 107, 2, 108, 15, 109, 110, 111, 112, 113, 114, 115, 116] (by decide +kernel) (by decide +kernel)
set_option maxRecDepth 20000 in
theorem ggL_law_L_isSo_p2 : GoodIn wsL_law wsL_isSo_r2 := goodIn_r _ [117, 31, 118, 47, 119, 120, 121, 122, 48, 123, 124, 125, 126, 46, 127, 128, 41, 129, 130, 131, 132, 133, 134, 135] (by decide +kernel) (by decide +kernel)
set_option maxRecDepth 20000 in
theorem ggL_law_L_isSo_p3 : GoodIn wsL_law wsL_isSo_r3 := goodIn_r _ [136, 137, 58, 138, 139, 140, 141, 142, 143, 144, 60, 145, 146, 147, 148, 149, 150, 151, 152, 153, 154, 61, 155, 156] (by decide +kernel) (by decide +kernel)
set_option maxRecDepth 20000 in
theorem ggL_law_L_isSo_p4 : GoodIn wsL_law wsL_isSo_r4 := goodIn_r _ [157, 158, 59, 159, 160, 161, 162, 163, 164, 165, 166, 167, 168, 169, 170, 171, 172, 173, 174, 175, 176, 177, 178, 179] (by decide +kernel) (by decide +kernel)
set_option maxRecDepth 20000 in
theorem ggL_law_L_isSo_p5 : GoodIn wsL_law wsL_isSo_r5 := goodIn_r _ [180, 181, 182, 35, 183, 52, 53, 184, 185, 186, 187, 54, 188, 189, 190, 191, 192, 193, 194, 195, 14, 196, 36, 67] (by decide +kernel) (by decide +kernel)
set_option maxRecDepth 20000 in
theorem ggL_law_L_isSo_p6 : GoodIn wsL_law wsL_isSo_r6 := goodIn_r _ [37, 197, 198, 199, 200, 201, 202, 203, 204, 205, 206, 207, 20, 208, 24, 209, 210, 211, 212, 213, 214, 215, 216, 217] (by decide +kernel) (by decide +kernel)
set_option maxRecDepth 20000 in
theorem ggL_law_L_isSo_p7 : GoodIn wsL_law wsL_isSo_r7 := goodIn_r _ [66, 218, 219, 220, 221, 32, 222, 223, 224, 225, 226, 227, 228, 229, 230, 231, 232, 233, 234, 235, 236, 38, 68, 237] (by decide +kernel) (by decide +kernel)
set_option maxRecDepth 20000 in
theorem ggL_law_L_isSo_p8 : GoodIn wsL_law wsL_isSo_r8 := goodIn_r _ [238, 239, 240, 241, 242, 243, 244, 245, 246, 247, 248, 249, 250, 251, 252, 253, 254, 255] (by decide +kernel) (by decide +kernel)
set_option maxRecDepth 20000 in
theorem ggL_law_L_isSo_p9 : GoodIn wsL_law wsX60 := goodIn_r _ [538, 539, 540, 541] (by decide +kernel) (by decide +kernel)
set_option maxRecDepth 20000 in
theorem ggL_law_L_isSo_p10 : GoodIn wsL_law wsX30 := goodIn_r _ [542, 543, 544, 545, 546] (by decide +kernel) (by decide +kernel)
set_option maxRecDepth 20000 in
theorem ggL_law_L_isSo_p11 : GoodIn wsL_law wsX20 := goodIn_r _ [560, 561, 562] (by decide +kernel) (by decide +kernel)
set_option maxRecDepth 20000 in
theorem ggL_law_L_isSo_p12 : GoodIn wsL_law wsX50 := goodIn_r _ [566, 567, 568, 569, 570, 571, 572, 573, 574, 575, 576] (by decide +kernel) (by decide +kernel)
set_option maxRecDepth 20000 in
theorem ggL_law_L_isSo_p13 : GoodIn wsL_law wsX10 := goodIn_r _ [563, 564, 565] (by decide +kernel) (by decide +kernel)
set_option maxRecDepth 20000 in
theorem ggL_law_L_isSo_p14 : GoodIn wsL_law wsX00 := goodIn_r _ [547, 548] (by decide +kernel) (by decide +kernel)
set_option maxRecDepth 20000 in
theorem ggL_law_L_isSo_p15 : GoodIn wsL_law wsX40 := goodIn_r _ [549, 550, 551, 552, 553, 554, 555, 556, 557, 558, 559] (by decide +kernel) (by decide +kernel)
set_option maxRecDepth 20000 in
theorem ggL_law_L_isSo : GoodIn wsL_law wsL_isSo := by
  show GoodIn wsL_law ([Cond.code yL_isSo cL_isSo 15 (some .boolean)] ++ ((wsL_isSo_r1 ++ (wsL_isSo_r2 ++ (wsL_isSo_r3 ++ (wsL_isSo_r4 ++ (wsL_isSo_r5 ++ (wsL_isSo_r6 ++ (wsL_isSo_r7 ++ wsL_isSo_r8))))))) ++ wsX60 ++ wsX30 ++ wsX20 ++ wsX50 ++ wsX10 ++ wsX00 ++ wsX40))
  exact goodIn_app ggL_law_L_isSo_p0 (goodIn_app (goodIn_app (goodIn_app (goodIn_app (goodIn_app (goodIn_app (goodIn_app (goodIn_app ggL_law_L_isSo_p1 (goodIn_app ggL_law_L_isSo_p2 (goodIn_app ggL_law_L_isSo_p3 (goodIn_app ggL_law_L_isSo_p4 (goodIn_app ggL_law_L_isSo_p5 (goodIn_app ggL_law_L_isSo_p6 (goodIn_app ggL_law_L_isSo_p7 ggL_law_L_isSo_p8))))))) ggL_law_L_isSo_p9) ggL_law_L_isSo_p10) ggL_law_L_isSo_p11) ggL_law_L_isSo_p12) ggL_law_L_isSo_p13) ggL_law_L_isSo_p14) ggL_law_L_isSo_p15)
set_option maxRecDepth 20000 in
theorem gL_law_L_isSo : GoodIn wsL_law (va_wsS RL 137 yL_isSo wsL_isSo) := goodIn_app (goodIn_of _ (by decide +kernel)) ggL_law_L_isSo
set_option maxRecDepth 20000 in
theorem ggL_law_L_cell : GoodIn wsL_law wsL_cell := goodIn_r _ [258, 259] (by decide +kernel) (by decide +kernel)
set_option maxRecDepth 20000 in
theorem gL_law_L_cell : GoodIn wsL_law (va_wsS RL 141 yL_cell wsL_cell) := goodIn_app (goodIn_of _ (by decide +kernel)) ggL_law_L_cell
set_option maxRecDepth 20000 in
theorem ggL_law_L_low : GoodIn wsL_law wsL_low := goodIn_r _ [262, 263] (by decide +kernel) (by decide +kernel)
set_option maxRecDepth 20000 in
theorem gL_law_L_low : GoodIn wsL_law (va_wsS RL 85 yL_low wsL_low) := goodIn_app (goodIn_of _ (by decide +kernel)) ggL_law_L_low
set_option maxRecDepth 20000 in
theorem ggL_law_L_acts_p0 : GoodIn wsL_law [Cond.code yL_acts cL_acts 15 (some .boolean)] := goodIn_r _ [266] (by decide +kernel) (by decide +kernel)
set_option maxRecDepth 20000 in
theorem ggL_law_L_acts_p1 : GoodIn wsL_law wsL_acts_r1 := goodIn_r _ [267, 101, 260, 261, 95, 262, 263, 268, 269, 270, 271, 272, 273, 2, 274, 111, 20, 15, 109, 110, 112, 113, 275, 276] (by decide +kernel) (by decide +kernel)
set_option maxRecDepth 20000 in
theorem ggL_law_L_acts_p2 : GoodIn wsL_law wsL_acts_r2 := goodIn_r _ [277, 19, 278, 279, 84, 280, 281, 282, 283, 284, 285, 286, 14, 287, 32, 36, 37, 38, 42, 288, 289, 290, 31, 291] (by decide +kernel) (by decide +kernel)
set_option maxRecDepth 20000 in
theorem ggL_law_L_acts_p3 : GoodIn wsL_law wsL_acts_r3 := goodIn_r _ [46, 47, 48, 292, 293, 294, 295, 296, 297, 298, 35, 299, 52, 53, 54, 300, 301, 302, 303, 41, 304, 305, 306, 307] (by decide +kernel) (by decide +kernel)
set_option maxRecDepth 20000 in
theorem ggL_law_L_acts_p4 : GoodIn wsL_law wsL_acts_r4 := goodIn_r _ [308, 309, 232, 231, 58, 310, 59, 60, 61, 311, 312, 313, 314, 315, 76, 77, 78, 316, 63, 64, 65, 66, 67, 68] (by decide +kernel) (by decide +kernel)
set_option maxRecDepth 20000 in
theorem ggL_law_L_acts_p5 : GoodIn wsL_law wsL_acts_r5 := goodIn_r _ [69, 70, 71, 72, 73, 74, 75, 317, 318, 319, 320, 178, 179, 321, 322, 210, 211, 212, 213, 214, 215, 216, 217, 218] (by decide +kernel) (by decide +kernel)
set_option maxRecDepth 20000 in
theorem ggL_law_L_acts_p6 : GoodIn wsL_law wsL_acts_r6 := goodIn_r _ [219, 220, 221, 222, 223, 224, 225, 226, 247, 248, 249, 323, 324, 325, 97, 326, 327, 328, 329, 24, 209, 330, 331, 332] (by decide +kernel) (by decide +kernel)
set_option maxRecDepth 20000 in
theorem ggL_law_L_acts_p7 : GoodIn wsL_law wsL_acts_r7 := goodIn_r _ [333, 334, 335, 336, 337, 23, 338, 339, 90, 340, 341, 342, 343, 344, 345, 346, 347, 150, 348, 349, 350, 351, 352, 353] (by decide +kernel) (by decide +kernel)
set_option maxRecDepth 20000 in
theorem ggL_law_L_acts_p8 : GoodIn wsL_law wsL_acts_r8 := goodIn_r _ [354, 355, 356, 357, 92, 358, 359, 360, 361, 362, 363, 364, 365, 366, 367, 368, 369, 370, 371, 372, 373, 374, 375, 376] (by decide +kernel) (by decide +kernel)
set_option maxRecDepth 20000 in
theorem ggL_law_L_acts_p9 : GoodIn wsL_law wsL_acts_r9 := goodIn_r _ [377, 378, 379, 380, 381, 382, 383, 384, 385, 386, 387, 388, 389, 390, 181, 182, 183, 391, 392, 393, 394, 395, 396, 397] (by decide +kernel) (by decide +kernel)
set_option maxRecDepth 20000 in
theorem ggL_law_L_acts_p10 : GoodIn wsL_law wsL_acts_r10 := goodIn_r _ [398, 399, 400, 401, 402, 403, 404, 405, 406, 407, 408, 409, 410, 411, 412, 114, 413, 202, 203, 414, 415, 416, 417, 62] (by decide +kernel) (by decide +kernel)
set_option maxRecDepth 20000 in
theorem ggL_law_L_acts_p11 : GoodIn wsL_law wsL_acts_r11 := goodIn_r _ [418, 419, 420, 421, 422, 423, 424, 425, 426, 427, 428, 429, 430, 431, 432, 433, 434, 435, 436, 437, 438, 439, 440, 441] (by decide +kernel) (by decide +kernel)
set_option maxRecDepth 20000 in
theorem ggL_law_L_acts_p12 : GoodIn wsL_law wsL_acts_r12 := goodIn_r _ [442, 443, 444, 445, 446, 447, 448, 145, 449, 227, 228, 229, 230, 250, 251, 252, 159, 160, 161, 450, 451, 452, 453, 454] (by decide +kernel) (by decide +kernel)
set_option maxRecDepth 20000 in
theorem ggL_law_L_acts_p13 : GoodIn wsL_law wsL_acts_r13 := goodIn_r _ [455, 456, 457, 458, 459, 460, 461, 462, 463, 464, 116, 117, 118, 465, 120, 121, 122, 123, 124, 125, 126, 466, 128, 129] (by decide +kernel) (by decide +kernel)
set_option maxRecDepth 20000 in
theorem ggL_law_L_acts_p14 : GoodIn wsL_law wsL_acts_r14 := goodIn_r _ [467, 468, 469, 470, 471, 142, 143, 144, 138, 139, 140, 472, 197, 185, 186, 187, 473, 474, 475, 476, 477, 152, 153, 154] (by decide +kernel) (by decide +kernel)
set_option maxRecDepth 20000 in
theorem ggL_law_L_acts_p15 : GoodIn wsL_law wsL_acts_r15 := goodIn_r _ [478, 479, 480, 481, 482, 483, 484, 485, 486, 487, 488, 489, 490, 491, 492, 493, 494, 495, 496, 135, 136, 137, 497, 233] (by decide +kernel) (by decide +kernel)
set_option maxRecDepth 20000 in
theorem ggL_law_L_acts_p16 : GoodIn wsL_law wsL_acts_r16 := goodIn_r _ [234, 235, 236, 498, 499, 500, 168, 169, 170, 102, 103, 104, 165, 166, 167, 253, 254, 255, 501, 502, 503, 504, 505, 506] (by decide +kernel) (by decide +kernel)
set_option maxRecDepth 20000 in
theorem ggL_law_L_acts_p17 : GoodIn wsL_law wsL_acts_r17 := goodIn_r _ [507, 508, 509, 510, 511, 512, 513, 514, 515, 516, 517, 518, 519, 180, 184, 520, 521, 522, 523, 524, 525, 526, 527, 528] (by decide +kernel) (by decide +kernel)
set_option maxRecDepth 20000 in
theorem ggL_law_L_acts_p18 : GoodIn wsL_law wsL_acts_r18 := goodIn_r _ [529, 119, 530, 531, 532, 533, 534, 535, 536, 537, 204] (by decide +kernel) (by decide +kernel)
set_option maxRecDepth 20000 in
theorem ggL_law_L_acts_p19 : GoodIn wsL_law wsX60 := goodIn_r _ [538, 539, 540, 541] (by decide +kernel) (by decide +kernel)
set_option maxRecDepth 20000 in
theorem ggL_law_L_acts_p20 : GoodIn wsL_law wsX30 := goodIn_r _ [542, 543, 544, 545, 546] (by decide +kernel) (by decide +kernel)
set_option maxRecDepth 20000 in
theorem ggL_law_L_acts_p21 : GoodIn wsL_law wsX20 := goodIn_r _ [560, 561, 562] (by decide +kernel) (by decide +kernel)
set_option maxRecDepth 20000 in
theorem ggL_law_L_acts_p22 : GoodIn wsL_law wsX50 := goodIn_r _ [566, 567, 568, 569, 570, 571, 572, 573, 574, 575, 576] (by decide +kernel) (by decide +kernel)
set_option maxRecDepth 20000 in
theorem ggL_law_L_acts_p23 : GoodIn wsL_law wsX00 := goodIn_r _ [547, 548] (by decide +kernel) (by decide +kernel)
set_option maxRecDepth 20000 in
theorem ggL_law_L_acts_p24 : GoodIn wsL_law wsX10 := goodIn_r _ [563, 564, 565] (by decide +kernel) (by decide +kernel)
set_option maxRecDepth 20000 in
theorem ggL_law_L_acts_p25 : GoodIn wsL_law wsX40 := goodIn_r _ [549, 550, 551, 552, 553, 554, 555, 556, 557, 558, 559] (by decide +kernel) (by decide +kernel)
set_option maxRecDepth 20000 in
theorem ggL_law_L_acts : GoodIn wsL_law wsL_acts := by
  show GoodIn wsL_law ([Cond.code yL_acts cL_acts 15 (some .boolean)] ++ ((wsL_acts_r1 ++ (wsL_acts_r2 ++ (wsL_acts_r3 ++ (wsL_acts_r4 ++ (wsL_acts_r5 ++ (wsL_acts_r6 ++ (wsL_acts_r7 ++ (wsL_acts_r8 ++ (wsL_acts_r9 ++ (wsL_acts_r10 ++ (wsL_acts_r11 ++ (wsL_acts_r12 ++ (wsL_acts_r13 ++ (wsL_acts_r14 ++ (wsL_acts_r15 ++ (wsL_acts_r16 ++ (wsL_acts_r17 ++ wsL_acts_r18))))))))))))))))) ++ wsX60 ++ wsX30 ++ wsX20 ++ wsX50 ++ wsX00 ++ wsX10 ++ wsX40))
  exact goodIn_app ggL_law_L_acts_p0 (goodIn_app (goodIn_app (goodIn_app (goodIn_app (goodIn_app (goodIn_app (goodIn_app (goodIn_app ggL_law_L_acts_p1 (goodIn_app ggL_law_L_acts_p2 (goodIn_app ggL_law_L_acts_p3 (goodIn_app ggL_law_L_acts_p4 (goodIn_app ggL_law_L_acts_p5 (goodIn_app ggL_law_L_acts_p6 (goodIn_app ggL_law_L_acts_p7 (goodIn_app ggL_law_L_acts_p8 (goodIn_app ggL_law_L_acts_p9 (goodIn_app ggL_law_L_acts_p10 (goodIn_app ggL_law_L_acts_p11 (goodIn_app ggL_law_L_acts_p12 (goodIn_app ggL_law_L_acts_p13 (goodIn_app ggL_law_L_acts_p14 (goodIn_app ggL_law_L_acts_p15 (goodIn_app ggL_law_L_acts_p16 (goodIn_app ggL_law_L_acts_p17 ggL_law_L_acts_p18))))))))))))))))) ggL_law_L_acts_p19) ggL_law_L_acts_p20) ggL_law_L_acts_p21) ggL_law_L_acts_p22) ggL_law_L_acts_p23) ggL_law_L_acts_p24) ggL_law_L_acts_p25)
set_option maxRecDepth 20000 in
theorem gL_law_L_acts : GoodIn wsL_law (va_wsS RL 144 yL_acts wsL_acts) := goodIn_app (goodIn_of _ (by decide +kernel)) ggL_law_L_acts
set_option maxRecDepth 20000 in
theorem ggL_law_X6_count_p0 : GoodIn wsL_law [Cond.code yX6_count cX6_count 2 (some .int)] := goodIn_r _ [201] (by decide +kernel) (by decide +kernel)
set_option maxRecDepth 20000 in
theorem ggL_law_X6_count_p1 : GoodIn wsL_law wsX6_count_r1 := goodIn_r _ [15, 109, 110, 178, 202, 203, 179, 204, 112, 113, 205, 150, 206, 207, 20, 208, 24, 209, 111, 210, 211, 212, 14, 213] (by decide +kernel) (by decide +kernel)
set_option maxRecDepth 20000 in
theorem ggL_law_X6_count_p2 : GoodIn wsL_law wsX6_count_r2 := goodIn_r _ [214, 215, 216, 217, 36, 66, 218, 219, 220, 221, 32, 222, 223, 224, 225, 226, 37, 67, 227, 228, 229, 41, 230, 231] (by decide +kernel) (by decide +kernel)
set_option maxRecDepth 20000 in
theorem ggL_law_X6_count_p3 : GoodIn wsL_law wsX6_count_r3 := goodIn_r _ [232, 233, 234, 235, 236, 38, 68, 197, 185, 186, 35, 187, 52, 53, 54, 237, 238, 239, 240, 241, 194, 195, 196, 242] (by decide +kernel) (by decide +kernel)
set_option maxRecDepth 20000 in
theorem ggL_law_X6_count_p4 : GoodIn wsL_law wsX6_count_r4 := goodIn_r _ [243, 244, 31, 245, 46, 246, 120, 121, 122, 48, 123, 124, 125, 126] (by decide +kernel) (by decide +kernel)
set_option maxRecDepth 20000 in
theorem ggL_law_X6_count_p5 : GoodIn wsL_law wsX60 := goodIn_r _ [538, 539, 540, 541] (by decide +kernel) (by decide +kernel)
set_option maxRecDepth 20000 in
theorem ggL_law_X6_count_p6 : GoodIn wsL_law wsX30 := goodIn_r _ [542, 543, 544, 545, 546] (by decide +kernel) (by decide +kernel)
set_option maxRecDepth 20000 in
theorem ggL_law_X6_count_p7 : GoodIn wsL_law wsX20 := goodIn_r _ [560, 561, 562] (by decide +kernel) (by decide +kernel)
set_option maxRecDepth 20000 in
theorem ggL_law_X6_count_p8 : GoodIn wsL_law wsX10 := goodIn_r _ [563, 564, 565] (by decide +kernel) (by decide +kernel)
set_option maxRecDepth 20000 in
theorem ggL_law_X6_count_p9 : GoodIn wsL_law wsX50 := goodIn_r _ [566, 567, 568, 569, 570, 571, 572, 573, 574, 575, 576] (by decide +kernel) (by decide +kernel)
set_option maxRecDepth 20000 in
theorem ggL_law_X6_count_p10 : GoodIn wsL_law wsX00 := goodIn_r _ [547, 548] (by decide +kernel) (by decide +kernel)
set_option maxRecDepth 20000 in
theorem ggL_law_X6_count_p11 : GoodIn wsL_law wsX40 := goodIn_r _ [549, 550, 551, 552, 553, 554, 555, 556, 557, 558, 559] (by decide +kernel) (by decide +kernel)
set_option maxRecDepth 20000 in
theorem ggL_law_X6_count : GoodIn wsL_law wsX6_count := by
  show GoodIn wsL_law ([Cond.code yX6_count cX6_count 2 (some .int)] ++ ((wsX6_count_r1 ++ (wsX6_count_r2 ++ (wsX6_count_r3 ++ wsX6_count_r4))) ++ wsX60 ++ wsX30 ++ wsX20 ++ wsX10 ++ wsX50 ++ wsX00 ++ wsX40))
  exact goodIn_app ggL_law_X6_count_p0 (goodIn_app (goodIn_app (goodIn_app (goodIn_app (goodIn_app (goodIn_app (goodIn_app (goodIn_app ggL_law_X6_count_p1 (goodIn_app ggL_law_X6_count_p2 (goodIn_app ggL_law_X6_count_p3 ggL_law_X6_count_p4))) ggL_law_X6_count_p5) ggL_law_X6_count_p6) ggL_law_X6_count_p7) ggL_law_X6_count_p8) ggL_law_X6_count_p9) ggL_law_X6_count_p10) ggL_law_X6_count_p11)
set_option maxRecDepth 20000 in
theorem gL_law_X6_count : GoodIn wsL_law (wsV RL 133 RX6 yX6_count wsX6_count) := goodIn_app (goodIn_of _ (by decide +kernel)) ggL_law_X6_count
set_option maxRecDepth 20000 in
theorem ggL_law_X6_entry : GoodIn wsL_law wsX6_entry := goodIn_r _ [177, 111, 15, 178, 179, 180, 181, 182, 35, 183, 52, 53, 184, 185, 186, 187, 54, 538, 539, 540, 541, 542, 543, 544, 545, 546, 563, 564, 565] (by decide +kernel) (by decide +kernel)
set_option maxRecDepth 20000 in
theorem gL_law_X6_entry : GoodIn wsL_law (wsV RL 127 RX6 yX6_entry wsX6_entry) := goodIn_app (goodIn_of _ (by decide +kernel)) ggL_law_X6_entry
set_option maxRecDepth 20000 in
theorem ggL_law_X6_result : GoodIn wsL_law wsX6_result := goodIn_r _ [191, 15, 192, 111, 180, 181, 182, 35, 183, 52, 53, 193, 194, 195, 14, 196, 36, 67, 37, 197, 185, 186, 187, 54, 184, 146, 147, 2, 148, 149, 150, 538, 539, 540, 541, 542, 543, 544, 545, 546, 563, 564, 565] (by decide +kernel) (by decide +kernel)
set_option maxRecDepth 20000 in
theorem gL_law_X6_result : GoodIn wsL_law (wsV RL 130 RX6 yX6_result wsX6_result) := goodIn_app (goodIn_of _ (by decide +kernel)) ggL_law_X6_result
theorem dL_law_0 : decode cL_law 0 = .ok (.new 28, 3) := by decide +kernel
theorem dL_law_3 : decode cL_law 3 = .ok (.dup, 1) := by decide +kernel
theorem dL_law_4 : decode cL_law 4 = .ok (.invokespecial 136, 3) := by decide +kernel
theorem dL_law_7 : decode cL_law 7 = .ok (.astore_n 1, 1) := by decide +kernel
theorem dL_law_8 : decode cL_law 8 = .ok (.bipush 9, 2) := by decide +kernel
theorem dL_law_10 : decode cL_law 10 = .ok (.newarray .int, 2) := by decide +kernel
theorem dL_law_12 : decode cL_law 12 = .ok (.astore_n 2, 1) := by decide +kernel
theorem dL_law_13 : decode cL_law 13 = .ok (.bipush 36, 2) := by decide +kernel
theorem dL_law_15 : decode cL_law 15 = .ok (.newarray .int, 2) := by decide +kernel
theorem dL_law_17 : decode cL_law 17 = .ok (.astore_n 3, 1) := by decide +kernel
theorem dL_law_18 : decode cL_law 18 = .ok (.bipush 36, 2) := by decide +kernel
theorem dL_law_20 : decode cL_law 20 = .ok (.newarray .int, 2) := by decide +kernel
theorem dL_law_22 : decode cL_law 22 = .ok (.astore 4, 2) := by decide +kernel
theorem dL_law_24 : decode cL_law 24 = .ok (.bipush 20, 2) := by decide +kernel
theorem dL_law_26 : decode cL_law 26 = .ok (.newarray .int, 2) := by decide +kernel
theorem dL_law_28 : decode cL_law 28 = .ok (.astore 5, 2) := by decide +kernel
theorem dL_law_30 : decode cL_law 30 = .ok (.bipush 36, 2) := by decide +kernel
theorem dL_law_32 : decode cL_law 32 = .ok (.newarray .int, 2) := by decide +kernel
theorem dL_law_34 : decode cL_law 34 = .ok (.astore 6, 2) := by decide +kernel
theorem dL_law_36 : decode cL_law 36 = .ok (.iconst 1, 1) := by decide +kernel
theorem dL_law_37 : decode cL_law 37 = .ok (.newarray .long, 2) := by decide +kernel
theorem dL_law_39 : decode cL_law 39 = .ok (.astore 7, 2) := by decide +kernel
theorem dL_law_41 : decode cL_law 41 = .ok (.iconst 0, 1) := by decide +kernel
theorem dL_law_42 : decode cL_law 42 = .ok (.istore 8, 2) := by decide +kernel
theorem dL_law_44 : decode cL_law 44 = .ok (.iload 8, 2) := by decide +kernel
theorem dL_law_46 : decode cL_law 46 = .ok (.iconst 5, 1) := by decide +kernel
theorem dL_law_47 : decode cL_law 47 = .ok (.if_icmp .ge 14, 3) := by decide +kernel
theorem dL_law_50 : decode cL_law 50 = .ok (.aload_n 2, 1) := by decide +kernel
theorem dL_law_51 : decode cL_law 51 = .ok (.iload 8, 2) := by decide +kernel
theorem dL_law_53 : decode cL_law 53 = .ok (.iconst 2, 1) := by decide +kernel
theorem dL_law_54 : decode cL_law 54 = .ok (.iastore, 1) := by decide +kernel
theorem dL_law_55 : decode cL_law 55 = .ok (.iinc 8 1, 3) := by decide +kernel
theorem dL_law_58 : decode cL_law 58 = .ok (.goto (-14), 3) := by decide +kernel
theorem dL_law_61 : decode cL_law 61 = .ok (.aload_n 1, 1) := by decide +kernel
theorem dL_law_62 : decode cL_law 62 = .ok (.aload_n 2, 1) := by decide +kernel
theorem dL_law_63 : decode cL_law 63 = .ok (.aload_n 3, 1) := by decide +kernel
theorem dL_law_64 : decode cL_law 64 = .ok (.aload 4, 2) := by decide +kernel
theorem dL_law_66 : decode cL_law 66 = .ok (.aload 5, 2) := by decide +kernel
theorem dL_law_68 : decode cL_law 68 = .ok (.aload 6, 2) := by decide +kernel
theorem dL_law_70 : decode cL_law 70 = .ok (.aload 7, 2) := by decide +kernel
theorem dL_law_72 : decode cL_law 72 = .ok (.invokestatic 137, 3) := by decide +kernel
theorem dL_law_75 : decode cL_law 75 = .ok (.istore 8, 2) := by decide +kernel
theorem dL_law_77 : decode cL_law 77 = .ok (.bipush 12, 2) := by decide +kernel
theorem dL_law_79 : decode cL_law 79 = .ok (.aload_n 0, 1) := by decide +kernel
theorem dL_law_80 : decode cL_law 80 = .ok (.iconst 0, 1) := by decide +kernel
theorem dL_law_81 : decode cL_law 81 = .ok (.invokestatic 141, 3) := by decide +kernel
theorem dL_law_84 : decode cL_law 84 = .ok (.bipush 50, 2) := by decide +kernel
theorem dL_law_86 : decode cL_law 86 = .ok (.invokestatic 85, 3) := by decide +kernel
theorem dL_law_89 : decode cL_law 89 = .ok (.iadd, 1) := by decide +kernel
theorem dL_law_90 : decode cL_law 90 = .ok (.istore 9, 2) := by decide +kernel
theorem dL_law_92 : decode cL_law 92 = .ok (.iconst 0, 1) := by decide +kernel
theorem dL_law_93 : decode cL_law 93 = .ok (.istore 10, 2) := by decide +kernel
theorem dL_law_95 : decode cL_law 95 = .ok (.iload 10, 2) := by decide +kernel
theorem dL_law_97 : decode cL_law 97 = .ok (.iload 9, 2) := by decide +kernel
theorem dL_law_99 : decode cL_law 99 = .ok (.if_icmp .ge 70, 3) := by decide +kernel
theorem dL_law_102 : decode cL_law 102 = .ok (.iload 8, 2) := by decide +kernel
theorem dL_law_104 : decode cL_law 104 = .ok (.ifCond .eq 65, 3) := by decide +kernel
theorem dL_law_107 : decode cL_law 107 = .ok (.aload_n 1, 1) := by decide +kernel
theorem dL_law_108 : decode cL_law 108 = .ok (.aload_n 2, 1) := by decide +kernel
theorem dL_law_109 : decode cL_law 109 = .ok (.aload_n 3, 1) := by decide +kernel
theorem dL_law_110 : decode cL_law 110 = .ok (.aload 4, 2) := by decide +kernel
theorem dL_law_112 : decode cL_law 112 = .ok (.aload 5, 2) := by decide +kernel
theorem dL_law_114 : decode cL_law 114 = .ok (.aload 6, 2) := by decide +kernel
theorem dL_law_116 : decode cL_law 116 = .ok (.aload 7, 2) := by decide +kernel
theorem dL_law_118 : decode cL_law 118 = .ok (.aload_n 0, 1) := by decide +kernel
theorem dL_law_119 : decode cL_law 119 = .ok (.iconst 1, 1) := by decide +kernel
theorem dL_law_120 : decode cL_law 120 = .ok (.iload 10, 2) := by decide +kernel
theorem dL_law_122 : decode cL_law 122 = .ok (.iadd, 1) := by decide +kernel
theorem dL_law_123 : decode cL_law 123 = .ok (.invokestatic 141, 3) := by decide +kernel
theorem dL_law_126 : decode cL_law 126 = .ok (.sipush 7919, 3) := by decide +kernel
theorem dL_law_129 : decode cL_law 129 = .ok (.iload 10, 2) := by decide +kernel
theorem dL_law_131 : decode cL_law 131 = .ok (.imul, 1) := by decide +kernel
theorem dL_law_132 : decode cL_law 132 = .ok (.ixor, 1) := by decide +kernel
theorem dL_law_133 : decode cL_law 133 = .ok (.invokestatic 144, 3) := by decide +kernel
theorem dL_law_136 : decode cL_law 136 = .ok (.ifCond .eq 24, 3) := by decide +kernel
theorem dL_law_139 : decode cL_law 139 = .ok (.aload_n 1, 1) := by decide +kernel
theorem dL_law_140 : decode cL_law 140 = .ok (.aload_n 2, 1) := by decide +kernel
theorem dL_law_141 : decode cL_law 141 = .ok (.aload_n 3, 1) := by decide +kernel
theorem dL_law_142 : decode cL_law 142 = .ok (.aload 4, 2) := by decide +kernel
theorem dL_law_144 : decode cL_law 144 = .ok (.aload 5, 2) := by decide +kernel
theorem dL_law_146 : decode cL_law 146 = .ok (.aload 6, 2) := by decide +kernel
theorem dL_law_148 : decode cL_law 148 = .ok (.aload 7, 2) := by decide +kernel
theorem dL_law_150 : decode cL_law 150 = .ok (.invokestatic 137, 3) := by decide +kernel
theorem dL_law_153 : decode cL_law 153 = .ok (.ifCond .eq 7, 3) := by decide +kernel
theorem dL_law_156 : decode cL_law 156 = .ok (.iconst 1, 1) := by decide +kernel
theorem dL_law_157 : decode cL_law 157 = .ok (.goto 4, 3) := by decide +kernel
theorem dL_law_160 : decode cL_law 160 = .ok (.iconst 0, 1) := by decide +kernel
theorem dL_law_161 : decode cL_law 161 = .ok (.istore 8, 2) := by decide +kernel
theorem dL_law_163 : decode cL_law 163 = .ok (.iinc 10 1, 3) := by decide +kernel
theorem dL_law_166 : decode cL_law 166 = .ok (.goto (-71), 3) := by decide +kernel
theorem dL_law_169 : decode cL_law 169 = .ok (.iload 8, 2) := by decide +kernel
theorem dL_law_171 : decode cL_law 171 = .ok (.ifCond .eq 42, 3) := by decide +kernel
theorem dL_law_174 : decode cL_law 174 = .ok (.aload_n 1, 1) := by decide +kernel
theorem dL_law_175 : decode cL_law 175 = .ok (.bipush 16, 2) := by decide +kernel
theorem dL_law_177 : decode cL_law 177 = .ok (.invokevirtual 133, 3) := by decide +kernel
theorem dL_law_180 : decode cL_law 180 = .ok (.ldc 115, 2) := by decide +kernel
theorem dL_law_182 : decode cL_law 182 = .ok (.if_icmp .ne 31, 3) := by decide +kernel
theorem dL_law_185 : decode cL_law 185 = .ok (.aload_n 1, 1) := by decide +kernel
theorem dL_law_186 : decode cL_law 186 = .ok (.iconst 2, 1) := by decide +kernel
theorem dL_law_187 : decode cL_law 187 = .ok (.iconst 0, 1) := by decide +kernel
theorem dL_law_188 : decode cL_law 188 = .ok (.iconst 0, 1) := by decide +kernel
theorem dL_law_189 : decode cL_law 189 = .ok (.invokevirtual 127, 3) := by decide +kernel
theorem dL_law_192 : decode cL_law 192 = .ok (.ldc 115, 2) := by decide +kernel
theorem dL_law_194 : decode cL_law 194 = .ok (.if_icmp .ne 19, 3) := by decide +kernel
theorem dL_law_197 : decode cL_law 197 = .ok (.aload_n 1, 1) := by decide +kernel
theorem dL_law_198 : decode cL_law 198 = .ok (.iconst 0, 1) := by decide +kernel
theorem dL_law_199 : decode cL_law 199 = .ok (.iconst 0, 1) := by decide +kernel
theorem dL_law_200 : decode cL_law 200 = .ok (.iconst 2, 1) := by decide +kernel
theorem dL_law_201 : decode cL_law 201 = .ok (.invokevirtual 130, 3) := by decide +kernel
theorem dL_law_204 : decode cL_law 204 = .ok (.ldc 115, 2) := by decide +kernel
theorem dL_law_206 : decode cL_law 206 = .ok (.if_icmp .ne 7, 3) := by decide +kernel
theorem dL_law_209 : decode cL_law 209 = .ok (.iconst 1, 1) := by decide +kernel
theorem dL_law_210 : decode cL_law 210 = .ok (.goto 4, 3) := by decide +kernel
theorem dL_law_213 : decode cL_law 213 = .ok (.iconst 0, 1) := by decide +kernel
theorem dL_law_214 : decode cL_law 214 = .ok (.ireturn, 1) := by decide +kernel

