set_option maxRecDepth 20000 in
theorem ggL_acts_L_low : GoodIn wsL_acts wsL_low := goodIn_r _ [6, 7] (by decide +kernel) (by decide +kernel)
set_option maxRecDepth 20000 in
theorem gL_acts_L_low : GoodIn wsL_acts (va_wsS RL 85 yL_low wsL_low) := goodIn_app (goodIn_of _ (by decide +kernel)) ggL_acts_L_low
set_option maxRecDepth 20000 in
theorem ggL_acts_L_shapes_p0 : GoodIn wsL_acts [Cond.code yL_shapes cL_shapes 9 (some .boolean)] := goodIn_r _ [10] (by decide +kernel) (by decide +kernel)
set_option maxRecDepth 20000 in
theorem ggL_acts_L_shapes_p1 : GoodIn wsL_acts wsL_shapes_r1 := goodIn_r _ [11, 12, 13, 14, 15, 16, 17, 18, 19, 20, 21, 22, 23, 24, 25, 26, 27, 28, 29, 30, 31, 32, 33, 34] (by decide +kernel) (by decide +kernel)
set_option maxRecDepth 20000 in
theorem ggL_acts_L_shapes_p2 : GoodIn wsL_acts wsL_shapes_r2 := goodIn_r _ [35, 36, 37, 38, 39, 40, 41, 42, 43, 44, 45, 46, 47, 48, 49, 50, 51, 52, 53, 54, 55, 56, 57, 58] (by decide +kernel) (by decide +kernel)
set_option maxRecDepth 20000 in
theorem ggL_acts_L_shapes_p3 : GoodIn wsL_acts wsL_shapes_r3 := goodIn_r _ [59, 60, 61, 62, 63, 64, 65, 66, 67, 68, 69, 70, 71, 72, 73, 74, 75, 76, 77, 78, 79, 80, 81, 82] (by decide +kernel) (by decide +kernel)
set_option maxRecDepth 20000 in
theorem ggL_acts_L_shapes_p4 : GoodIn wsL_acts wsL_shapes_r4 := goodIn_r _ [83, 84, 85, 86, 87, 88, 89, 90, 91, 92, 93, 94, 95, 96, 97, 98, 99, 100, 101, 102, 103, 104, 105, 106] (by decide +kernel) (by decide +kernel)
set_option maxRecDepth 20000 in
theorem ggL_acts_L_shapes_p5 : GoodIn wsL_acts wsL_shapes_r5 := goodIn_r _ [107, 108, 109, 110, 111, 112, 113, 114, 115, 116, 117, 118, 119, 120, 121, 122, 123, 124, 125, 126, 127, 128, 129, 130] (by decide +kernel) (by decide +kernel)
set_option maxRecDepth 20000 in
theorem ggL_acts_L_shapes_p6 : GoodIn wsL_acts wsL_shapes_r6 := goodIn_r _ [5, 131] (by decide +kernel) (by decide +kernel)
set_option maxRecDepth 20000 in
theorem ggL_acts_L_shapes_p7 : GoodIn wsL_acts wsX60 := goodIn_r _ [420, 421, 422, 423] (by decide +kernel) (by decide +kernel)
set_option maxRecDepth 20000 in
theorem ggL_acts_L_shapes_p8 : GoodIn wsL_acts wsX30 := goodIn_r _ [424, 425, 426, 427, 428] (by decide +kernel) (by decide +kernel)
set_option maxRecDepth 20000 in
theorem ggL_acts_L_shapes_p9 : GoodIn wsL_acts wsX20 := goodIn_r _ [429, 430, 431] (by decide +kernel) (by decide +kernel)
set_option maxRecDepth 20000 in
theorem ggL_acts_L_shapes_p10 : GoodIn wsL_acts wsX50 := goodIn_r _ [432, 433, 434, 435, 436, 437, 438, 439, 440, 441, 442] (by decide +kernel) (by decide +kernel)
set_option maxRecDepth 20000 in
theorem ggL_acts_L_shapes_p11 : GoodIn wsL_acts wsX00 := goodIn_r _ [443, 444] (by decide +kernel) (by decide +kernel)
set_option maxRecDepth 20000 in
theorem ggL_acts_L_shapes_p12 : GoodIn wsL_acts wsX10 := goodIn_r _ [445, 446, 447] (by decide +kernel) (by decide +kernel)
set_option maxRecDepth 20000 in
theorem ggL_acts_L_shapes : GoodIn wsL_acts wsL_shapes := by
  show GoodIn wsL_acts ([Cond.code yL_shapes cL_shapes 9 (some .boolean)] ++ ((wsL_shapes_r1 ++ (wsL_shapes_r2 ++ (wsL_shapes_r3 ++ (wsL_shapes_r4 ++ (wsL_shapes_r5 ++ wsL_shapes_r6))))) ++ wsX60 ++ wsX30 ++ wsX20 ++ wsX50 ++ wsX00 ++ wsX10))
  exact goodIn_app ggL_acts_L_shapes_p0 (goodIn_app (goodIn_app (goodIn_app (goodIn_app (goodIn_app (goodIn_app (goodIn_app ggL_acts_L_shapes_p1 (goodIn_app ggL_acts_L_shapes_p2 (goodIn_app ggL_acts_L_shapes_p3 (goodIn_app ggL_acts_L_shapes_p4 (goodIn_app ggL_acts_L_shapes_p5 ggL_acts_L_shapes_p6))))) ggL_acts_L_shapes_p7) ggL_acts_L_shapes_p8) ggL_acts_L_shapes_p9) ggL_acts_L_shapes_p10) ggL_acts_L_shapes_p11) ggL_acts_L_shapes_p12)
set_option maxRecDepth 20000 in
theorem gL_acts_L_shapes : GoodIn wsL_acts (va_wsS RL 88 yL_shapes wsL_shapes) := goodIn_app (goodIn_of _ (by decide +kernel)) ggL_acts_L_shapes
set_option maxRecDepth 20000 in
theorem ggL_acts_L_reads_p0 : GoodIn wsL_acts [Cond.code yL_reads cL_reads 16 (some .boolean)] := goodIn_r _ [134] (by decide +kernel) (by decide +kernel)
set_option maxRecDepth 20000 in
theorem ggL_acts_L_reads_p1 : GoodIn wsL_acts wsL_reads_r1 := goodIn_r _ [135, 2, 136, 137, 138, 14, 139, 140, 141, 142, 143, 144, 145, 16, 146, 147, 148, 149, 150, 151, 152, 153, 154, 155] (by decide +kernel) (by decide +kernel)
set_option maxRecDepth 20000 in
theorem ggL_acts_L_reads_p2 : GoodIn wsL_acts wsL_reads_r2 := goodIn_r _ [5, 156, 157, 158, 159, 160, 161, 162, 163, 164, 165, 166, 167, 168, 169, 170, 171, 172, 173, 174, 175, 176, 177, 98] (by decide +kernel) (by decide +kernel)
set_option maxRecDepth 20000 in
theorem ggL_acts_L_reads_p3 : GoodIn wsL_acts wsL_reads_r3 := goodIn_r _ [99, 59, 100, 61, 62, 63, 101, 102, 103, 87, 88, 89, 178, 179, 180, 181, 182, 183, 184, 185, 186, 187, 188, 189] (by decide +kernel) (by decide +kernel)
set_option maxRecDepth 20000 in
theorem ggL_acts_L_reads_p4 : GoodIn wsL_acts wsL_reads_r4 := goodIn_r _ [190, 191, 192, 193, 194, 195, 196, 197, 198, 199, 200, 201, 202, 203, 204, 205, 206, 207, 208, 209, 210, 211, 212, 213] (by decide +kernel) (by decide +kernel)
set_option maxRecDepth 20000 in
theorem ggL_acts_L_reads_p5 : GoodIn wsL_acts wsL_reads_r5 := goodIn_r _ [214, 215, 216, 217, 218, 219, 220, 221, 222, 223, 224, 225, 226, 227, 228, 229, 230, 231, 18, 21, 22, 232, 17, 233] (by decide +kernel) (by decide +kernel)
set_option maxRecDepth 20000 in
theorem ggL_acts_L_reads_p6 : GoodIn wsL_acts wsL_reads_r6 := goodIn_r _ [234, 235, 23, 24, 25, 26, 27, 28, 29, 30, 31, 32, 33, 34, 35, 36, 37, 38, 39, 40, 41, 42, 43, 44] (by decide +kernel) (by decide +kernel)
set_option maxRecDepth 20000 in
theorem ggL_acts_L_reads_p7 : GoodIn wsL_acts wsL_reads_r7 := goodIn_r _ [45, 46, 47, 48, 49, 50, 51, 52, 53, 54, 55, 56, 57, 58, 60, 64, 65, 66, 67, 68, 69, 70, 71, 72] (by decide +kernel) (by decide +kernel)
set_option maxRecDepth 20000 in
theorem ggL_acts_L_reads_p8 : GoodIn wsL_acts wsL_reads_r8 := goodIn_r _ [73, 74, 75, 76, 77, 78, 79, 80, 81, 236, 237, 238, 239, 94, 95, 97, 240, 91, 92, 93, 96, 241, 242, 243] (by decide +kernel) (by decide +kernel)
set_option maxRecDepth 20000 in
theorem ggL_acts_L_reads_p9 : GoodIn wsL_acts wsL_reads_r9 := goodIn_r _ [244] (by decide +kernel) (by decide +kernel)
set_option maxRecDepth 20000 in
theorem ggL_acts_L_reads_p10 : GoodIn wsL_acts wsX60 := goodIn_r _ [420, 421, 422, 423] (by decide +kernel) (by decide +kernel)
set_option maxRecDepth 20000 in
theorem ggL_acts_L_reads_p11 : GoodIn wsL_acts wsX40 := goodIn_r _ [448, 449, 450, 451, 452, 453, 454, 455, 456, 457, 458] (by decide +kernel) (by decide +kernel)
set_option maxRecDepth 20000 in
theorem ggL_acts_L_reads_p12 : GoodIn wsL_acts wsX10 := goodIn_r _ [445, 446, 447] (by decide +kernel) (by decide +kernel)
set_option maxRecDepth 20000 in
theorem ggL_acts_L_reads_p13 : GoodIn wsL_acts wsX30 := goodIn_r _ [424, 425, 426, 427, 428] (by decide +kernel) (by decide +kernel)
set_option maxRecDepth 20000 in
theorem ggL_acts_L_reads_p14 : GoodIn wsL_acts wsX50 := goodIn_r _ [432, 433, 434, 435, 436, 437, 438, 439, 440, 441, 442] (by decide +kernel) (by decide +kernel)
set_option maxRecDepth 20000 in
theorem ggL_acts_L_reads_p15 : GoodIn wsL_acts wsX00 := goodIn_r _ [443, 444] (by decide +kernel) (by decide +kernel)
set_option maxRecDepth 20000 in
theorem ggL_acts_L_reads_p16 : GoodIn wsL_acts wsX20 := goodIn_r _ [429, 430, 431] (by decide +kernel) (by decide +kernel)
set_option maxRecDepth 20000 in
theorem ggL_acts_L_reads : GoodIn wsL_acts wsL_reads := by
  show GoodIn wsL_acts ([Cond.code yL_reads cL_reads 16 (some .boolean)] ++ ((wsL_reads_r1 ++ (wsL_reads_r2 ++ (wsL_reads_r3 ++ (wsL_reads_r4 ++ (wsL_reads_r5 ++ (wsL_reads_r6 ++ (wsL_reads_r7 ++ (wsL_reads_r8 ++ wsL_reads_r9)))))))) ++ wsX60 ++ wsX40 ++ wsX10 ++ wsX30 ++ wsX50 ++ wsX00 ++ wsX20))
  exact goodIn_app ggL_acts_L_reads_p0 (goodIn_app (goodIn_app (goodIn_app (goodIn_app (goodIn_app (goodIn_app (goodIn_app (goodIn_app ggL_acts_L_reads_p1 (goodIn_app ggL_acts_L_reads_p2 (goodIn_app ggL_acts_L_reads_p3 (goodIn_app ggL_acts_L_reads_p4 (goodIn_app ggL_acts_L_reads_p5 (goodIn_app ggL_acts_L_reads_p6 (goodIn_app ggL_acts_L_reads_p7 (goodIn_app ggL_acts_L_reads_p8 ggL_acts_L_reads_p9)))))))) ggL_acts_L_reads_p10) ggL_acts_L_reads_p11) ggL_acts_L_reads_p12) ggL_acts_L_reads_p13) ggL_acts_L_reads_p14) ggL_acts_L_reads_p15) ggL_acts_L_reads_p16)
set_option maxRecDepth 20000 in
theorem gL_acts_L_reads : GoodIn wsL_acts (va_wsS RL 92 yL_reads wsL_reads) := goodIn_app (goodIn_of _ (by decide +kernel)) ggL_acts_L_reads
set_option maxRecDepth 20000 in
theorem ggL_acts_L_runs_p0 : GoodIn wsL_acts [Cond.code yL_runs cL_runs 12 (some .boolean)] := goodIn_r _ [247] (by decide +kernel) (by decide +kernel)
set_option maxRecDepth 20000 in
theorem ggL_acts_L_runs_p1 : GoodIn wsL_acts wsL_runs_r1 := goodIn_r _ [2, 129, 130, 5, 131, 248, 249, 250, 14, 251, 18, 16, 21, 22, 232, 17, 252, 117, 118, 37, 119, 40, 94, 120] (by decide +kernel) (by decide +kernel)
set_option maxRecDepth 20000 in
theorem ggL_acts_L_runs_p2 : GoodIn wsL_acts wsL_runs_r2 := goodIn_r _ [121, 122, 123, 39, 124, 253, 126, 127, 128, 41, 95, 23, 24, 25, 26, 27, 28, 29, 30, 31, 32, 33, 34, 35] (by decide +kernel) (by decide +kernel)
set_option maxRecDepth 20000 in
theorem ggL_acts_L_runs_p3 : GoodIn wsL_acts wsL_runs_r3 := goodIn_r _ [36, 38, 42, 43, 44, 45, 46, 47, 48, 49, 50, 51, 52, 53, 54, 55, 56, 57, 58, 59, 60, 61, 62, 63] (by decide +kernel) (by decide +kernel)
set_option maxRecDepth 20000 in
theorem ggL_acts_L_runs_p4 : GoodIn wsL_acts wsL_runs_r4 := goodIn_r _ [64, 65, 66, 67, 68, 69, 70, 71, 72, 73, 74, 75, 76, 77, 78, 79, 80, 81, 254, 255, 256, 257, 258, 259] (by decide +kernel) (by decide +kernel)
set_option maxRecDepth 20000 in
theorem ggL_acts_L_runs_p5 : GoodIn wsL_acts wsL_runs_r5 := goodIn_r _ [260, 261, 262, 263, 264, 265, 266, 267, 268, 269, 270, 271, 272, 273, 87, 88, 89, 274, 275, 276, 277, 278, 279, 280] (by decide +kernel) (by decide +kernel)
set_option maxRecDepth 20000 in
theorem ggL_acts_L_runs_p6 : GoodIn wsL_acts wsL_runs_r6 := goodIn_r _ [281, 282, 283, 284, 285, 286, 287, 288, 289, 290, 291, 292, 293, 294, 295, 296, 297, 298, 299, 300, 301, 302, 303, 304] (by decide +kernel) (by decide +kernel)
set_option maxRecDepth 20000 in
theorem ggL_acts_L_runs_p7 : GoodIn wsL_acts wsL_runs_r7 := goodIn_r _ [305, 306, 307, 308, 309, 310, 311, 312, 313, 314, 315, 316, 96, 317, 318, 319, 320, 321, 322, 323, 324, 207, 208, 209] (by decide +kernel) (by decide +kernel)
set_option maxRecDepth 20000 in
theorem ggL_acts_L_runs_p8 : GoodIn wsL_acts wsL_runs_r8 := goodIn_r _ [325, 326, 327, 328, 329, 330, 331, 332, 333, 334, 335, 336, 337, 338, 339, 340, 341, 342, 343, 344, 345, 346, 347, 348] (by decide +kernel) (by decide +kernel)
set_option maxRecDepth 20000 in
theorem ggL_acts_L_runs_p9 : GoodIn wsL_acts wsL_runs_r9 := goodIn_r _ [349, 350, 351, 352, 353, 354, 355, 356, 357, 358, 359, 203, 204, 205, 206, 360, 361, 362, 363, 364, 365, 366, 367, 368] (by decide +kernel) (by decide +kernel)
set_option maxRecDepth 20000 in
theorem ggL_acts_L_runs_p10 : GoodIn wsL_acts wsL_runs_r10 := goodIn_r _ [369, 370, 371, 372, 373, 374, 375, 376, 377, 378, 379, 380, 381, 382, 383, 384, 385, 386, 116, 125, 387, 388, 389] (by decide +kernel) (by decide +kernel)
set_option maxRecDepth 20000 in
theorem ggL_acts_L_runs_p11 : GoodIn wsL_acts wsX60 := goodIn_r _ [420, 421, 422, 423] (by decide +kernel) (by decide +kernel)
set_option maxRecDepth 20000 in
theorem ggL_acts_L_runs_p12 : GoodIn wsL_acts wsX30 := goodIn_r _ [424, 425, 426, 427, 428] (by decide +kernel) (by decide +kernel)
set_option maxRecDepth 20000 in
theorem ggL_acts_L_runs_p13 : GoodIn wsL_acts wsX50 := goodIn_r _ [432, 433, 434, 435, 436, 437, 438, 439, 440, 441, 442] (by decide +kernel) (by decide +kernel)
set_option maxRecDepth 20000 in
theorem ggL_acts_L_runs_p14 : GoodIn wsL_acts wsX10 := goodIn_r _ [445, 446, 447] (by decide +kernel) (by decide +kernel)
set_option maxRecDepth 20000 in
theorem ggL_acts_L_runs_p15 : GoodIn wsL_acts wsX20 := goodIn_r _ [429, 430, 431] (by decide +kernel) (by decide +kernel)
set_option maxRecDepth 20000 in
theorem ggL_acts_L_runs_p16 : GoodIn wsL_acts wsX00 := goodIn_r _ [443, 444] (by decide +kernel) (by decide +kernel)
set_option maxRecDepth 20000 in
theorem ggL_acts_L_runs : GoodIn wsL_acts wsL_runs := by
  show GoodIn wsL_acts ([Cond.code yL_runs cL_runs 12 (some .boolean)] ++ ((wsL_runs_r1 ++ (wsL_runs_r2 ++ (wsL_runs_r3 ++ (wsL_runs_r4 ++ (wsL_runs_r5 ++ (wsL_runs_r6 ++ (wsL_runs_r7 ++ (wsL_runs_r8 ++ (wsL_runs_r9 ++ wsL_runs_r10))))))))) ++ wsX60 ++ wsX30 ++ wsX50 ++ wsX10 ++ wsX20 ++ wsX00))
  exact goodIn_app ggL_acts_L_runs_p0 (goodIn_app (goodIn_app (goodIn_app (goodIn_app (goodIn_app (goodIn_app (goodIn_app ggL_acts_L_runs_p1 (goodIn_app ggL_acts_L_runs_p2 (goodIn_app ggL_acts_L_runs_p3 (goodIn_app ggL_acts_L_runs_p4 (goodIn_app ggL_acts_L_runs_p5 (goodIn_app ggL_acts_L_runs_p6 (goodIn_app ggL_acts_L_runs_p7 (goodIn_app ggL_acts_L_runs_p8 (goodIn_app ggL_acts_L_runs_p9 ggL_acts_L_runs_p10))))))))) ggL_acts_L_runs_p11) ggL_acts_L_runs_p12) ggL_acts_L_runs_p13) ggL_acts_L_runs_p14) ggL_acts_L_runs_p15) ggL_acts_L_runs_p16)
set_option maxRecDepth 20000 in
theorem gL_acts_L_runs : GoodIn wsL_acts (va_wsS RL 96 yL_runs wsL_runs) := goodIn_app (goodIn_of _ (by decide +kernel)) ggL_acts_L_runs
set_option maxRecDepth 20000 in
theorem ggL_acts_X6_left_p0 : GoodIn wsL_acts [Cond.code yX6_left cX6_left 4 (some .int)] := goodIn_r _ [393] (by decide +kernel) (by decide +kernel)
set_option maxRecDepth 20000 in
theorem ggL_acts_X6_left_p1 : GoodIn wsL_acts wsX6_left_r1 := goodIn_r _ [18, 108, 394, 395, 396, 14, 397, 16, 21, 22, 232, 17, 398, 207, 208, 59, 209, 61, 62, 23, 24, 25, 26, 27] (by decide +kernel) (by decide +kernel)
set_option maxRecDepth 20000 in
theorem ggL_acts_X6_left_p2 : GoodIn wsL_acts wsX6_left_r2 := goodIn_r _ [28, 29, 30, 31, 32, 33, 34, 35, 36, 37, 38, 39, 40, 41, 42, 43, 44, 45, 46, 47, 48, 49, 50, 51] (by decide +kernel) (by decide +kernel)
set_option maxRecDepth 20000 in
theorem ggL_acts_X6_left_p3 : GoodIn wsL_acts wsX6_left_r3 := goodIn_r _ [52, 53, 54, 55, 56, 57, 58, 60, 63, 64, 65, 66, 67, 68, 69, 70, 71, 72, 73, 74, 75, 76, 77, 78] (by decide +kernel) (by decide +kernel)
set_option maxRecDepth 20000 in
theorem ggL_acts_X6_left_p4 : GoodIn wsL_acts wsX6_left_r4 := goodIn_r _ [79, 80, 81, 399, 326, 327, 328, 400, 203, 204, 205, 206, 90, 91, 92, 93, 94, 95, 96, 97, 98, 99, 100, 101] (by decide +kernel) (by decide +kernel)
set_option maxRecDepth 20000 in
theorem ggL_acts_X6_left_p5 : GoodIn wsL_acts wsX6_left_r5 := goodIn_r _ [102, 103, 87, 88, 89] (by decide +kernel) (by decide +kernel)
set_option maxRecDepth 20000 in
theorem ggL_acts_X6_left_p6 : GoodIn wsL_acts wsX60 := goodIn_r _ [420, 421, 422, 423] (by decide +kernel) (by decide +kernel)
set_option maxRecDepth 20000 in
theorem ggL_acts_X6_left_p7 : GoodIn wsL_acts wsX30 := goodIn_r _ [424, 425, 426, 427, 428] (by decide +kernel) (by decide +kernel)
set_option maxRecDepth 20000 in
theorem ggL_acts_X6_left_p8 : GoodIn wsL_acts wsX50 := goodIn_r _ [432, 433, 434, 435, 436, 437, 438, 439, 440, 441, 442] (by decide +kernel) (by decide +kernel)
set_option maxRecDepth 20000 in
theorem ggL_acts_X6_left_p9 : GoodIn wsL_acts wsX10 := goodIn_r _ [445, 446, 447] (by decide +kernel) (by decide +kernel)
set_option maxRecDepth 20000 in
theorem ggL_acts_X6_left_p10 : GoodIn wsL_acts wsX00 := goodIn_r _ [443, 444] (by decide +kernel) (by decide +kernel)
set_option maxRecDepth 20000 in
theorem ggL_acts_X6_left_p11 : GoodIn wsL_acts wsX20 := goodIn_r _ [429, 430, 431] (by decide +kernel) (by decide +kernel)
set_option maxRecDepth 20000 in
theorem ggL_acts_X6_left : GoodIn wsL_acts wsX6_left := by
  show GoodIn wsL_acts ([Cond.code yX6_left cX6_left 4 (some .int)] ++ ((wsX6_left_r1 ++ (wsX6_left_r2 ++ (wsX6_left_r3 ++ (wsX6_left_r4 ++ wsX6_left_r5)))) ++ wsX60 ++ wsX30 ++ wsX50 ++ wsX10 ++ wsX00 ++ wsX20))
  exact goodIn_app ggL_acts_X6_left_p0 (goodIn_app (goodIn_app (goodIn_app (goodIn_app (goodIn_app (goodIn_app (goodIn_app ggL_acts_X6_left_p1 (goodIn_app ggL_acts_X6_left_p2 (goodIn_app ggL_acts_X6_left_p3 (goodIn_app ggL_acts_X6_left_p4 ggL_acts_X6_left_p5)))) ggL_acts_X6_left_p6) ggL_acts_X6_left_p7) ggL_acts_X6_left_p8) ggL_acts_X6_left_p9) ggL_acts_X6_left_p10) ggL_acts_X6_left_p11)
set_option maxRecDepth 20000 in
theorem gL_acts_X6_left : GoodIn wsL_acts (wsV RL 100 RX6 yX6_left wsX6_left) := goodIn_app (goodIn_of _ (by decide +kernel)) ggL_acts_X6_left
set_option maxRecDepth 20000 in
theorem ggL_acts_X6_right_p0 : GoodIn wsL_acts [Cond.code yX6_right cX6_right 4 (some .int)] := goodIn_r _ [404] (by decide +kernel) (by decide +kernel)
set_option maxRecDepth 20000 in
theorem ggL_acts_X6_right_p1 : GoodIn wsL_acts wsX6_right_r1 := goodIn_r _ [18, 109, 394, 395, 396, 14, 397, 16, 21, 22, 232, 17, 398, 207, 208, 59, 209, 61, 62, 23, 24, 25, 26, 27] (by decide +kernel) (by decide +kernel)
set_option maxRecDepth 20000 in
theorem ggL_acts_X6_right_p2 : GoodIn wsL_acts wsX6_right_r2 := goodIn_r _ [28, 29, 30, 31, 32, 33, 34, 35, 36, 37, 38, 39, 40, 41, 42, 43, 44, 45, 46, 47, 48, 49, 50, 51] (by decide +kernel) (by decide +kernel)
set_option maxRecDepth 20000 in
theorem ggL_acts_X6_right_p3 : GoodIn wsL_acts wsX6_right_r3 := goodIn_r _ [52, 53, 54, 55, 56, 57, 58, 60, 63, 64, 65, 66, 67, 68, 69, 70, 71, 72, 73, 74, 75, 76, 77, 78] (by decide +kernel) (by decide +kernel)
set_option maxRecDepth 20000 in
theorem ggL_acts_X6_right_p4 : GoodIn wsL_acts wsX6_right_r4 := goodIn_r _ [79, 80, 81, 399, 326, 327, 328, 400, 203, 204, 205, 206, 90, 91, 92, 93, 94, 95, 96, 97, 98, 99, 100, 101] (by decide +kernel) (by decide +kernel)
set_option maxRecDepth 20000 in
theorem ggL_acts_X6_right_p5 : GoodIn wsL_acts wsX6_right_r5 := goodIn_r _ [102, 103, 87, 88, 89] (by decide +kernel) (by decide +kernel)
set_option maxRecDepth 20000 in
theorem ggL_acts_X6_right_p6 : GoodIn wsL_acts wsX60 := goodIn_r _ [420, 421, 422, 423] (by decide +kernel) (by decide +kernel)
set_option maxRecDepth 20000 in
theorem ggL_acts_X6_right_p7 : GoodIn wsL_acts wsX30 := goodIn_r _ [424, 425, 426, 427, 428] (by decide +kernel) (by decide +kernel)
set_option maxRecDepth 20000 in
theorem ggL_acts_X6_right_p8 : GoodIn wsL_acts wsX50 := goodIn_r _ [432, 433, 434, 435, 436, 437, 438, 439, 440, 441, 442] (by decide +kernel) (by decide +kernel)
set_option maxRecDepth 20000 in
theorem ggL_acts_X6_right_p9 : GoodIn wsL_acts wsX10 := goodIn_r _ [445, 446, 447] (by decide +kernel) (by decide +kernel)
set_option maxRecDepth 20000 in
theorem ggL_acts_X6_right_p10 : GoodIn wsL_acts wsX00 := goodIn_r _ [443, 444] (by decide +kernel) (by decide +kernel)
set_option maxRecDepth 20000 in
theorem ggL_acts_X6_right_p11 : GoodIn wsL_acts wsX20 := goodIn_r _ [429, 430, 431] (by decide +kernel) (by decide +kernel)
set_option maxRecDepth 20000 in
theorem ggL_acts_X6_right : GoodIn wsL_acts wsX6_right := by
  show GoodIn wsL_acts ([Cond.code yX6_right cX6_right 4 (some .int)] ++ ((wsX6_right_r1 ++ (wsX6_right_r2 ++ (wsX6_right_r3 ++ (wsX6_right_r4 ++ wsX6_right_r5)))) ++ wsX60 ++ wsX30 ++ wsX50 ++ wsX10 ++ wsX00 ++ wsX20))
  exact goodIn_app ggL_acts_X6_right_p0 (goodIn_app (goodIn_app (goodIn_app (goodIn_app (goodIn_app (goodIn_app (goodIn_app ggL_acts_X6_right_p1 (goodIn_app ggL_acts_X6_right_p2 (goodIn_app ggL_acts_X6_right_p3 (goodIn_app ggL_acts_X6_right_p4 ggL_acts_X6_right_p5)))) ggL_acts_X6_right_p6) ggL_acts_X6_right_p7) ggL_acts_X6_right_p8) ggL_acts_X6_right_p9) ggL_acts_X6_right_p10) ggL_acts_X6_right_p11)
set_option maxRecDepth 20000 in
theorem gL_acts_X6_right : GoodIn wsL_acts (wsV RL 103 RX6 yX6_right wsX6_right) := goodIn_app (goodIn_of _ (by decide +kernel)) ggL_acts_X6_right
set_option maxRecDepth 20000 in
theorem ggL_acts_X6_fault_p0 : GoodIn wsL_acts [Cond.code yX6_fault cX6_fault 5 (some .int)] := goodIn_r _ [408] (by decide +kernel) (by decide +kernel)
set_option maxRecDepth 20000 in
theorem ggL_acts_X6_fault_p1 : GoodIn wsL_acts wsX6_fault_r1 := goodIn_r _ [18, 19, 16, 21, 22, 232, 17, 409, 307, 308, 47, 309, 49, 23, 24, 25, 26, 27, 28, 29, 30, 31, 32, 33] (by decide +kernel) (by decide +kernel)
set_option maxRecDepth 20000 in
theorem ggL_acts_X6_fault_p2 : GoodIn wsL_acts wsX6_fault_r2 := goodIn_r _ [34, 35, 36, 37, 38, 39, 40, 41, 42, 43, 44, 45, 46, 48, 50, 51, 52, 53, 54, 55, 56, 57, 58, 59] (by decide +kernel) (by decide +kernel)
set_option maxRecDepth 20000 in
theorem ggL_acts_X6_fault_p3 : GoodIn wsL_acts wsX6_fault_r3 := goodIn_r _ [60, 61, 62, 63, 64, 65, 66, 67, 68, 69, 70, 71, 72, 73, 74, 75, 76, 77, 78, 79, 80, 81, 410, 303] (by decide +kernel) (by decide +kernel)
set_option maxRecDepth 20000 in
theorem ggL_acts_X6_fault_p4 : GoodIn wsL_acts wsX6_fault_r4 := goodIn_r _ [304, 305, 306, 411, 412, 413, 414] (by decide +kernel) (by decide +kernel)
set_option maxRecDepth 20000 in
theorem ggL_acts_X6_fault_p5 : GoodIn wsL_acts wsX60 := goodIn_r _ [420, 421, 422, 423] (by decide +kernel) (by decide +kernel)
set_option maxRecDepth 20000 in
theorem ggL_acts_X6_fault_p6 : GoodIn wsL_acts wsX30 := goodIn_r _ [424, 425, 426, 427, 428] (by decide +kernel) (by decide +kernel)
set_option maxRecDepth 20000 in
theorem ggL_acts_X6_fault_p7 : GoodIn wsL_acts wsX50 := goodIn_r _ [432, 433, 434, 435, 436, 437, 438, 439, 440, 441, 442] (by decide +kernel) (by decide +kernel)
set_option maxRecDepth 20000 in
theorem ggL_acts_X6_fault_p8 : GoodIn wsL_acts wsX20 := goodIn_r _ [429, 430, 431] (by decide +kernel) (by decide +kernel)
set_option maxRecDepth 20000 in
theorem ggL_acts_X6_fault_p9 : GoodIn wsL_acts wsX00 := goodIn_r _ [443, 444] (by decide +kernel) (by decide +kernel)
set_option maxRecDepth 20000 in
theorem ggL_acts_X6_fault_p10 : GoodIn wsL_acts wsX10 := goodIn_r _ [445, 446, 447] (by decide +kernel) (by decide +kernel)
set_option maxRecDepth 20000 in
theorem ggL_acts_X6_fault : GoodIn wsL_acts wsX6_fault := by
  show GoodIn wsL_acts ([Cond.code yX6_fault cX6_fault 5 (some .int)] ++ ((wsX6_fault_r1 ++ (wsX6_fault_r2 ++ (wsX6_fault_r3 ++ wsX6_fault_r4))) ++ wsX60 ++ wsX30 ++ wsX50 ++ wsX20 ++ wsX00 ++ wsX10))
  exact goodIn_app ggL_acts_X6_fault_p0 (goodIn_app (goodIn_app (goodIn_app (goodIn_app (goodIn_app (goodIn_app (goodIn_app ggL_acts_X6_fault_p1 (goodIn_app ggL_acts_X6_fault_p2 (goodIn_app ggL_acts_X6_fault_p3 ggL_acts_X6_fault_p4))) ggL_acts_X6_fault_p5) ggL_acts_X6_fault_p6) ggL_acts_X6_fault_p7) ggL_acts_X6_fault_p8) ggL_acts_X6_fault_p9) ggL_acts_X6_fault_p10)
set_option maxRecDepth 20000 in
theorem gL_acts_X6_fault : GoodIn wsL_acts (wsV RL 106 RX6 yX6_fault wsX6_fault) := goodIn_app (goodIn_of _ (by decide +kernel)) ggL_acts_X6_fault
set_option maxRecDepth 20000 in
theorem ggL_acts_X6_leave_p0 : GoodIn wsL_acts [Cond.code yX6_leave cX6_leave 3 (some .int)] := goodIn_r _ [418] (by decide +kernel) (by decide +kernel)
set_option maxRecDepth 20000 in
theorem ggL_acts_X6_leave_p1 : GoodIn wsL_acts wsX6_leave_r1 := goodIn_r _ [18, 19, 20, 16, 21, 22, 232, 17, 419, 23, 24, 25, 26, 27, 28, 29, 30, 31, 32, 33, 34, 35, 36, 37] (by decide +kernel) (by decide +kernel)
set_option maxRecDepth 20000 in
theorem ggL_acts_X6_leave_p2 : GoodIn wsL_acts wsX6_leave_r2 := goodIn_r _ [38, 39, 40, 41, 42, 43, 44, 45, 46, 47, 48, 49, 50, 51, 52, 53, 54, 55, 56, 57, 58, 59, 60, 61] (by decide +kernel) (by decide +kernel)
set_option maxRecDepth 20000 in
theorem ggL_acts_X6_leave_p3 : GoodIn wsL_acts wsX6_leave_r3 := goodIn_r _ [62, 63, 64, 65, 66, 67, 68, 69, 70, 71, 72, 73, 74, 75, 76, 77, 78, 79, 80, 81] (by decide +kernel) (by decide +kernel)
set_option maxRecDepth 20000 in
theorem ggL_acts_X6_leave_p4 : GoodIn wsL_acts wsX60 := goodIn_r _ [420, 421, 422, 423] (by decide +kernel) (by decide +kernel)
set_option maxRecDepth 20000 in
theorem ggL_acts_X6_leave_p5 : GoodIn wsL_acts wsX30 := goodIn_r _ [424, 425, 426, 427, 428] (by decide +kernel) (by decide +kernel)
set_option maxRecDepth 20000 in
theorem ggL_acts_X6_leave_p6 : GoodIn wsL_acts wsX20 := goodIn_r _ [429, 430, 431] (by decide +kernel) (by decide +kernel)
set_option maxRecDepth 20000 in
theorem ggL_acts_X6_leave_p7 : GoodIn wsL_acts wsX50 := goodIn_r _ [432, 433, 434, 435, 436, 437, 438, 439, 440, 441, 442] (by decide +kernel) (by decide +kernel)
set_option maxRecDepth 20000 in
theorem ggL_acts_X6_leave_p8 : GoodIn wsL_acts wsX00 := goodIn_r _ [443, 444] (by decide +kernel) (by decide +kernel)
set_option maxRecDepth 20000 in
theorem ggL_acts_X6_leave_p9 : GoodIn wsL_acts wsX10 := goodIn_r _ [445, 446, 447] (by decide +kernel) (by decide +kernel)
set_option maxRecDepth 20000 in
theorem ggL_acts_X6_leave : GoodIn wsL_acts wsX6_leave := by
  show GoodIn wsL_acts ([Cond.code yX6_leave cX6_leave 3 (some .int)] ++ ((wsX6_leave_r1 ++ (wsX6_leave_r2 ++ wsX6_leave_r3)) ++ wsX60 ++ wsX30 ++ wsX20 ++ wsX50 ++ wsX00 ++ wsX10))
  exact goodIn_app ggL_acts_X6_leave_p0 (goodIn_app (goodIn_app (goodIn_app (goodIn_app (goodIn_app (goodIn_app (goodIn_app ggL_acts_X6_leave_p1 (goodIn_app ggL_acts_X6_leave_p2 ggL_acts_X6_leave_p3)) ggL_acts_X6_leave_p4) ggL_acts_X6_leave_p5) ggL_acts_X6_leave_p6) ggL_acts_X6_leave_p7) ggL_acts_X6_leave_p8) ggL_acts_X6_leave_p9)
set_option maxRecDepth 20000 in
theorem gL_acts_X6_leave : GoodIn wsL_acts (wsV RL 109 RX6 yX6_leave wsX6_leave) := goodIn_app (goodIn_of _ (by decide +kernel)) ggL_acts_X6_leave
theorem dL_acts_0 : decode cL_acts 0 = .ok (.iload 7, 2) := by decide +kernel
theorem dL_acts_2 : decode cL_acts 2 = .ok (.iconst 5, 1) := by decide +kernel
theorem dL_acts_3 : decode cL_acts 3 = .ok (.ishr, 1) := by decide +kernel
theorem dL_acts_4 : decode cL_acts 4 = .ok (.ldc 84, 2) := by decide +kernel
theorem dL_acts_6 : decode cL_acts 6 = .ok (.invokestatic 85, 3) := by decide +kernel
theorem dL_acts_9 : decode cL_acts 9 = .ok (.istore 8, 2) := by decide +kernel
theorem dL_acts_11 : decode cL_acts 11 = .ok (.iload 7, 2) := by decide +kernel
theorem dL_acts_13 : decode cL_acts 13 = .ok (.bipush 26, 2) := by decide +kernel
theorem dL_acts_15 : decode cL_acts 15 = .ok (.invokestatic 85, 3) := by decide +kernel
theorem dL_acts_18 : decode cL_acts 18 = .ok (.istore 9, 2) := by decide +kernel
theorem dL_acts_20 : decode cL_acts 20 = .ok (.iload 9, 2) := by decide +kernel
theorem dL_acts_22 : decode cL_acts 22 = .ok (.ifCond .ne 17, 3) := by decide +kernel
theorem dL_acts_25 : decode cL_acts 25 = .ok (.aload_n 0, 1) := by decide +kernel
theorem dL_acts_26 : decode cL_acts 26 = .ok (.aload_n 1, 1) := by decide +kernel
theorem dL_acts_27 : decode cL_acts 27 = .ok (.aload_n 2, 1) := by decide +kernel
theorem dL_acts_28 : decode cL_acts 28 = .ok (.aload_n 3, 1) := by decide +kernel
theorem dL_acts_29 : decode cL_acts 29 = .ok (.aload 4, 2) := by decide +kernel
theorem dL_acts_31 : decode cL_acts 31 = .ok (.aload 6, 2) := by decide +kernel
theorem dL_acts_33 : decode cL_acts 33 = .ok (.iload 8, 2) := by decide +kernel
theorem dL_acts_35 : decode cL_acts 35 = .ok (.invokestatic 88, 3) := by decide +kernel
theorem dL_acts_38 : decode cL_acts 38 = .ok (.ireturn, 1) := by decide +kernel
theorem dL_acts_39 : decode cL_acts 39 = .ok (.iload 9, 2) := by decide +kernel
theorem dL_acts_41 : decode cL_acts 41 = .ok (.iconst 4, 1) := by decide +kernel
theorem dL_acts_42 : decode cL_acts 42 = .ok (.if_icmp .ge 15, 3) := by decide +kernel
theorem dL_acts_45 : decode cL_acts 45 = .ok (.aload_n 0, 1) := by decide +kernel
theorem dL_acts_46 : decode cL_acts 46 = .ok (.aload_n 1, 1) := by decide +kernel
theorem dL_acts_47 : decode cL_acts 47 = .ok (.aload_n 2, 1) := by decide +kernel
theorem dL_acts_48 : decode cL_acts 48 = .ok (.aload_n 3, 1) := by decide +kernel
theorem dL_acts_49 : decode cL_acts 49 = .ok (.aload 6, 2) := by decide +kernel
theorem dL_acts_51 : decode cL_acts 51 = .ok (.iload 8, 2) := by decide +kernel
theorem dL_acts_53 : decode cL_acts 53 = .ok (.invokestatic 92, 3) := by decide +kernel
theorem dL_acts_56 : decode cL_acts 56 = .ok (.ireturn, 1) := by decide +kernel
theorem dL_acts_57 : decode cL_acts 57 = .ok (.iload 9, 2) := by decide +kernel
theorem dL_acts_59 : decode cL_acts 59 = .ok (.bipush 14, 2) := by decide +kernel
theorem dL_acts_61 : decode cL_acts 61 = .ok (.if_icmp .ge 53, 3) := by decide +kernel
theorem dL_acts_64 : decode cL_acts 64 = .ok (.aload_n 0, 1) := by decide +kernel
theorem dL_acts_65 : decode cL_acts 65 = .ok (.aload_n 1, 1) := by decide +kernel
theorem dL_acts_66 : decode cL_acts 66 = .ok (.aload_n 2, 1) := by decide +kernel
theorem dL_acts_67 : decode cL_acts 67 = .ok (.aload_n 3, 1) := by decide +kernel
theorem dL_acts_68 : decode cL_acts 68 = .ok (.aload 4, 2) := by decide +kernel
theorem dL_acts_70 : decode cL_acts 70 = .ok (.aload 5, 2) := by decide +kernel
theorem dL_acts_72 : decode cL_acts 72 = .ok (.aload 6, 2) := by decide +kernel
theorem dL_acts_74 : decode cL_acts 74 = .ok (.iload 9, 2) := by decide +kernel
theorem dL_acts_76 : decode cL_acts 76 = .ok (.bipush 6, 2) := by decide +kernel
theorem dL_acts_78 : decode cL_acts 78 = .ok (.if_icmp .ge 7, 3) := by decide +kernel
theorem dL_acts_81 : decode cL_acts 81 = .ok (.iconst 0, 1) := by decide +kernel
theorem dL_acts_82 : decode cL_acts 82 = .ok (.goto 26, 3) := by decide +kernel
theorem dL_acts_85 : decode cL_acts 85 = .ok (.iload 9, 2) := by decide +kernel
theorem dL_acts_87 : decode cL_acts 87 = .ok (.bipush 10, 2) := by decide +kernel
theorem dL_acts_89 : decode cL_acts 89 = .ok (.if_icmp .ge 7, 3) := by decide +kernel
theorem dL_acts_92 : decode cL_acts 92 = .ok (.iconst 1, 1) := by decide +kernel
theorem dL_acts_93 : decode cL_acts 93 = .ok (.goto 15, 3) := by decide +kernel
theorem dL_acts_96 : decode cL_acts 96 = .ok (.iload 9, 2) := by decide +kernel
theorem dL_acts_98 : decode cL_acts 98 = .ok (.bipush 12, 2) := by decide +kernel
theorem dL_acts_100 : decode cL_acts 100 = .ok (.if_icmp .ge 7, 3) := by decide +kernel
theorem dL_acts_103 : decode cL_acts 103 = .ok (.iconst 2, 1) := by decide +kernel
theorem dL_acts_104 : decode cL_acts 104 = .ok (.goto 4, 3) := by decide +kernel
theorem dL_acts_107 : decode cL_acts 107 = .ok (.iconst 3, 1) := by decide +kernel
theorem dL_acts_108 : decode cL_acts 108 = .ok (.iload 8, 2) := by decide +kernel
theorem dL_acts_110 : decode cL_acts 110 = .ok (.invokestatic 96, 3) := by decide +kernel
theorem dL_acts_113 : decode cL_acts 113 = .ok (.ireturn, 1) := by decide +kernel
theorem dL_acts_114 : decode cL_acts 114 = .ok (.iload 9, 2) := by decide +kernel
theorem dL_acts_116 : decode cL_acts 116 = .ok (.bipush 20, 2) := by decide +kernel
theorem dL_acts_118 : decode cL_acts 118 = .ok (.if_icmp .ge 218, 3) := by decide +kernel
theorem dL_acts_121 : decode cL_acts 121 = .ok (.iload 8, 2) := by decide +kernel
theorem dL_acts_123 : decode cL_acts 123 = .ok (.iconst 2, 1) := by decide +kernel
theorem dL_acts_124 : decode cL_acts 124 = .ok (.irem, 1) := by decide +kernel
theorem dL_acts_125 : decode cL_acts 125 = .ok (.istore 10, 2) := by decide +kernel
theorem dL_acts_127 : decode cL_acts 127 = .ok (.iload 8, 2) := by decide +kernel
theorem dL_acts_129 : decode cL_acts 129 = .ok (.iconst 2, 1) := by decide +kernel
theorem dL_acts_130 : decode cL_acts 130 = .ok (.idiv, 1) := by decide +kernel
theorem dL_acts_131 : decode cL_acts 131 = .ok (.iload 10, 2) := by decide +kernel
theorem dL_acts_133 : decode cL_acts 133 = .ok (.ifCond .ne 9, 3) := by decide +kernel
theorem dL_acts_136 : decode cL_acts 136 = .ok (.aload_n 1, 1) := by decide +kernel
theorem dL_acts_137 : decode cL_acts 137 = .ok (.iconst 1, 1) := by decide +kernel
theorem dL_acts_138 : decode cL_acts 138 = .ok (.iaload, 1) := by decide +kernel
theorem dL_acts_139 : decode cL_acts 139 = .ok (.goto 6, 3) := by decide +kernel
theorem dL_acts_142 : decode cL_acts 142 = .ok (.aload_n 1, 1) := by decide +kernel
theorem dL_acts_143 : decode cL_acts 143 = .ok (.iconst 2, 1) := by decide +kernel
theorem dL_acts_144 : decode cL_acts 144 = .ok (.iaload, 1) := by decide +kernel
theorem dL_acts_145 : decode cL_acts 145 = .ok (.irem, 1) := by decide +kernel
theorem dL_acts_146 : decode cL_acts 146 = .ok (.istore 11, 2) := by decide +kernel
theorem dL_acts_148 : decode cL_acts 148 = .ok (.iload 8, 2) := by decide +kernel
theorem dL_acts_150 : decode cL_acts 150 = .ok (.bipush 12, 2) := by decide +kernel
theorem dL_acts_152 : decode cL_acts 152 = .ok (.idiv, 1) := by decide +kernel
theorem dL_acts_153 : decode cL_acts 153 = .ok (.iload 10, 2) := by decide +kernel
theorem dL_acts_155 : decode cL_acts 155 = .ok (.ifCond .ne 9, 3) := by decide +kernel
theorem dL_acts_158 : decode cL_acts 158 = .ok (.aload_n 1, 1) := by decide +kernel
theorem dL_acts_159 : decode cL_acts 159 = .ok (.iconst 2, 1) := by decide +kernel
theorem dL_acts_160 : decode cL_acts 160 = .ok (.iaload, 1) := by decide +kernel
theorem dL_acts_161 : decode cL_acts 161 = .ok (.goto 6, 3) := by decide +kernel
theorem dL_acts_164 : decode cL_acts 164 = .ok (.aload_n 1, 1) := by decide +kernel
theorem dL_acts_165 : decode cL_acts 165 = .ok (.iconst 3, 1) := by decide +kernel
theorem dL_acts_166 : decode cL_acts 166 = .ok (.iaload, 1) := by decide +kernel
theorem dL_acts_167 : decode cL_acts 167 = .ok (.irem, 1) := by decide +kernel
theorem dL_acts_168 : decode cL_acts 168 = .ok (.istore 12, 2) := by decide +kernel
theorem dL_acts_170 : decode cL_acts 170 = .ok (.iload 8, 2) := by decide +kernel
theorem dL_acts_172 : decode cL_acts 172 = .ok (.bipush 72, 2) := by decide +kernel
theorem dL_acts_174 : decode cL_acts 174 = .ok (.idiv, 1) := by decide +kernel
theorem dL_acts_175 : decode cL_acts 175 = .ok (.sipush 199, 3) := by decide +kernel
theorem dL_acts_178 : decode cL_acts 178 = .ok (.irem, 1) := by decide +kernel
theorem dL_acts_179 : decode cL_acts 179 = .ok (.bipush 99, 2) := by decide +kernel
theorem dL_acts_181 : decode cL_acts 181 = .ok (.isub, 1) := by decide +kernel
theorem dL_acts_182 : decode cL_acts 182 = .ok (.istore 13, 2) := by decide +kernel
theorem dL_acts_184 : decode cL_acts 184 = .ok (.aload_n 1, 1) := by decide +kernel
theorem dL_acts_185 : decode cL_acts 185 = .ok (.iconst 5, 1) := by decide +kernel
theorem dL_acts_186 : decode cL_acts 186 = .ok (.iaload, 1) := by decide +kernel
theorem dL_acts_187 : decode cL_acts 187 = .ok (.iconst 1, 1) := by decide +kernel
theorem dL_acts_188 : decode cL_acts 188 = .ok (.if_icmp .ne 42, 3) := by decide +kernel
theorem dL_acts_191 : decode cL_acts 191 = .ok (.iload 10, 2) := by decide +kernel
theorem dL_acts_193 : decode cL_acts 193 = .ok (.ifCond .ne 16, 3) := by decide +kernel
theorem dL_acts_196 : decode cL_acts 196 = .ok (.aload_n 0, 1) := by decide +kernel
theorem dL_acts_197 : decode cL_acts 197 = .ok (.iload 11, 2) := by decide +kernel
theorem dL_acts_199 : decode cL_acts 199 = .ok (.iload 12, 2) := by decide +kernel
theorem dL_acts_201 : decode cL_acts 201 = .ok (.iload 13, 2) := by decide +kernel
theorem dL_acts_203 : decode cL_acts 203 = .ok (.invokevirtual 100, 3) := by decide +kernel
theorem dL_acts_206 : decode cL_acts 206 = .ok (.goto 13, 3) := by decide +kernel
theorem dL_acts_209 : decode cL_acts 209 = .ok (.aload_n 0, 1) := by decide +kernel
theorem dL_acts_210 : decode cL_acts 210 = .ok (.iload 11, 2) := by decide +kernel
theorem dL_acts_212 : decode cL_acts 212 = .ok (.iload 12, 2) := by decide +kernel
theorem dL_acts_214 : decode cL_acts 214 = .ok (.iload 13, 2) := by decide +kernel
theorem dL_acts_216 : decode cL_acts 216 = .ok (.invokevirtual 103, 3) := by decide +kernel
theorem dL_acts_219 : decode cL_acts 219 = .ok (.ldc 48, 2) := by decide +kernel
theorem dL_acts_221 : decode cL_acts 221 = .ok (.if_icmp .ne 7, 3) := by decide +kernel
theorem dL_acts_224 : decode cL_acts 224 = .ok (.iconst 1, 1) := by decide +kernel
theorem dL_acts_225 : decode cL_acts 225 = .ok (.goto 4, 3) := by decide +kernel
theorem dL_acts_228 : decode cL_acts 228 = .ok (.iconst 0, 1) := by decide +kernel
theorem dL_acts_229 : decode cL_acts 229 = .ok (.ireturn, 1) := by decide +kernel
theorem dL_acts_230 : decode cL_acts 230 = .ok (.iload 10, 2) := by decide +kernel
theorem dL_acts_232 : decode cL_acts 232 = .ok (.ifCond .ne 16, 3) := by decide +kernel
theorem dL_acts_235 : decode cL_acts 235 = .ok (.aload_n 2, 1) := by decide +kernel
theorem dL_acts_236 : decode cL_acts 236 = .ok (.bipush 6, 2) := by decide +kernel
theorem dL_acts_238 : decode cL_acts 238 = .ok (.iload 11, 2) := by decide +kernel
theorem dL_acts_240 : decode cL_acts 240 = .ok (.imul, 1) := by decide +kernel
theorem dL_acts_241 : decode cL_acts 241 = .ok (.iload 12, 2) := by decide +kernel
theorem dL_acts_243 : decode cL_acts 243 = .ok (.iadd, 1) := by decide +kernel
theorem dL_acts_244 : decode cL_acts 244 = .ok (.iaload, 1) := by decide +kernel
theorem dL_acts_245 : decode cL_acts 245 = .ok (.goto 13, 3) := by decide +kernel
theorem dL_acts_248 : decode cL_acts 248 = .ok (.aload_n 3, 1) := by decide +kernel
theorem dL_acts_249 : decode cL_acts 249 = .ok (.bipush 6, 2) := by decide +kernel
theorem dL_acts_251 : decode cL_acts 251 = .ok (.iload 11, 2) := by decide +kernel
theorem dL_acts_253 : decode cL_acts 253 = .ok (.imul, 1) := by decide +kernel
theorem dL_acts_254 : decode cL_acts 254 = .ok (.iload 12, 2) := by decide +kernel
theorem dL_acts_256 : decode cL_acts 256 = .ok (.iadd, 1) := by decide +kernel
theorem dL_acts_257 : decode cL_acts 257 = .ok (.iaload, 1) := by decide +kernel
theorem dL_acts_258 : decode cL_acts 258 = .ok (.istore 14, 2) := by decide +kernel
theorem dL_acts_260 : decode cL_acts 260 = .ok (.aload 6, 2) := by decide +kernel
theorem dL_acts_262 : decode cL_acts 262 = .ok (.iconst 0, 1) := by decide +kernel
theorem dL_acts_263 : decode cL_acts 263 = .ok (.lconst 0, 1) := by decide +kernel
theorem dL_acts_264 : decode cL_acts 264 = .ok (.lastore, 1) := by decide +kernel
theorem dL_acts_265 : decode cL_acts 265 = .ok (.iload 10, 2) := by decide +kernel
theorem dL_acts_267 : decode cL_acts 267 = .ok (.ifCond .ne 36, 3) := by decide +kernel
theorem dL_acts_270 : decode cL_acts 270 = .ok (.aload_n 2, 1) := by decide +kernel
theorem dL_acts_271 : decode cL_acts 271 = .ok (.bipush 6, 2) := by decide +kernel
theorem dL_acts_273 : decode cL_acts 273 = .ok (.iload 11, 2) := by decide +kernel
theorem dL_acts_275 : decode cL_acts 275 = .ok (.imul, 1) := by decide +kernel
theorem dL_acts_276 : decode cL_acts 276 = .ok (.iload 12, 2) := by decide +kernel
theorem dL_acts_278 : decode cL_acts 278 = .ok (.iadd, 1) := by decide +kernel
theorem dL_acts_279 : decode cL_acts 279 = .ok (.iload 13, 2) := by decide +kernel
theorem dL_acts_281 : decode cL_acts 281 = .ok (.iastore, 1) := by decide +kernel
theorem dL_acts_282 : decode cL_acts 282 = .ok (.aload_n 0, 1) := by decide +kernel
theorem dL_acts_283 : decode cL_acts 283 = .ok (.iload 11, 2) := by decide +kernel
theorem dL_acts_285 : decode cL_acts 285 = .ok (.iload 12, 2) := by decide +kernel
theorem dL_acts_287 : decode cL_acts 287 = .ok (.iload 13, 2) := by decide +kernel
theorem dL_acts_289 : decode cL_acts 289 = .ok (.invokevirtual 100, 3) := by decide +kernel
theorem dL_acts_292 : decode cL_acts 292 = .ok (.iload 14, 2) := by decide +kernel
theorem dL_acts_294 : decode cL_acts 294 = .ok (.if_icmp .ne 7, 3) := by decide +kernel
theorem dL_acts_297 : decode cL_acts 297 = .ok (.iconst 1, 1) := by decide +kernel
theorem dL_acts_298 : decode cL_acts 298 = .ok (.goto 4, 3) := by decide +kernel
theorem dL_acts_301 : decode cL_acts 301 = .ok (.iconst 0, 1) := by decide +kernel
theorem dL_acts_302 : decode cL_acts 302 = .ok (.ireturn, 1) := by decide +kernel
theorem dL_acts_303 : decode cL_acts 303 = .ok (.aload_n 3, 1) := by decide +kernel
theorem dL_acts_304 : decode cL_acts 304 = .ok (.bipush 6, 2) := by decide +kernel
theorem dL_acts_306 : decode cL_acts 306 = .ok (.iload 11, 2) := by decide +kernel
theorem dL_acts_308 : decode cL_acts 308 = .ok (.imul, 1) := by decide +kernel
theorem dL_acts_309 : decode cL_acts 309 = .ok (.iload 12, 2) := by decide +kernel
theorem dL_acts_311 : decode cL_acts 311 = .ok (.iadd, 1) := by decide +kernel
theorem dL_acts_312 : decode cL_acts 312 = .ok (.iload 13, 2) := by decide +kernel
theorem dL_acts_314 : decode cL_acts 314 = .ok (.iastore, 1) := by decide +kernel
theorem dL_acts_315 : decode cL_acts 315 = .ok (.aload_n 0, 1) := by decide +kernel
theorem dL_acts_316 : decode cL_acts 316 = .ok (.iload 11, 2) := by decide +kernel
theorem dL_acts_318 : decode cL_acts 318 = .ok (.iload 12, 2) := by decide +kernel
theorem dL_acts_320 : decode cL_acts 320 = .ok (.iload 13, 2) := by decide +kernel
theorem dL_acts_322 : decode cL_acts 322 = .ok (.invokevirtual 103, 3) := by decide +kernel
theorem dL_acts_325 : decode cL_acts 325 = .ok (.iload 14, 2) := by decide +kernel
theorem dL_acts_327 : decode cL_acts 327 = .ok (.if_icmp .ne 7, 3) := by decide +kernel
theorem dL_acts_330 : decode cL_acts 330 = .ok (.iconst 1, 1) := by decide +kernel
theorem dL_acts_331 : decode cL_acts 331 = .ok (.goto 4, 3) := by decide +kernel
theorem dL_acts_334 : decode cL_acts 334 = .ok (.iconst 0, 1) := by decide +kernel
theorem dL_acts_335 : decode cL_acts 335 = .ok (.ireturn, 1) := by decide +kernel
theorem dL_acts_336 : decode cL_acts 336 = .ok (.iload 8, 2) := by decide +kernel
theorem dL_acts_338 : decode cL_acts 338 = .ok (.iconst 4, 1) := by decide +kernel
theorem dL_acts_339 : decode cL_acts 339 = .ok (.idiv, 1) := by decide +kernel
theorem dL_acts_340 : decode cL_acts 340 = .ok (.aload_n 1, 1) := by decide +kernel
theorem dL_acts_341 : decode cL_acts 341 = .ok (.iconst 0, 1) := by decide +kernel
theorem dL_acts_342 : decode cL_acts 342 = .ok (.iaload, 1) := by decide +kernel
theorem dL_acts_343 : decode cL_acts 343 = .ok (.iconst 1, 1) := by decide +kernel
theorem dL_acts_344 : decode cL_acts 344 = .ok (.iadd, 1) := by decide +kernel
theorem dL_acts_345 : decode cL_acts 345 = .ok (.irem, 1) := by decide +kernel
theorem dL_acts_346 : decode cL_acts 346 = .ok (.istore 10, 2) := by decide +kernel
theorem dL_acts_348 : decode cL_acts 348 = .ok (.iload 9, 2) := by decide +kernel
theorem dL_acts_350 : decode cL_acts 350 = .ok (.bipush 24, 2) := by decide +kernel
theorem dL_acts_352 : decode cL_acts 352 = .ok (.if_icmp .ge 93, 3) := by decide +kernel
theorem dL_acts_355 : decode cL_acts 355 = .ok (.iload 8, 2) := by decide +kernel
theorem dL_acts_357 : decode cL_acts 357 = .ok (.aload_n 1, 1) := by decide +kernel
theorem dL_acts_358 : decode cL_acts 358 = .ok (.iconst 0, 1) := by decide +kernel
theorem dL_acts_359 : decode cL_acts 359 = .ok (.iaload, 1) := by decide +kernel
theorem dL_acts_360 : decode cL_acts 360 = .ok (.irem, 1) := by decide +kernel
theorem dL_acts_361 : decode cL_acts 361 = .ok (.istore 11, 2) := by decide +kernel
theorem dL_acts_363 : decode cL_acts 363 = .ok (.iload 8, 2) := by decide +kernel
theorem dL_acts_365 : decode cL_acts 365 = .ok (.bipush 20, 2) := by decide +kernel
theorem dL_acts_367 : decode cL_acts 367 = .ok (.idiv, 1) := by decide +kernel
theorem dL_acts_368 : decode cL_acts 368 = .ok (.iconst 5, 1) := by decide +kernel
theorem dL_acts_369 : decode cL_acts 369 = .ok (.irem, 1) := by decide +kernel
theorem dL_acts_370 : decode cL_acts 370 = .ok (.istore 12, 2) := by decide +kernel
theorem dL_acts_372 : decode cL_acts 372 = .ok (.aload_n 1, 1) := by decide +kernel
theorem dL_acts_373 : decode cL_acts 373 = .ok (.iconst 5, 1) := by decide +kernel
theorem dL_acts_374 : decode cL_acts 374 = .ok (.iaload, 1) := by decide +kernel
theorem dL_acts_375 : decode cL_acts 375 = .ok (.iconst 1, 1) := by decide +kernel
theorem dL_acts_376 : decode cL_acts 376 = .ok (.if_icmp .ne 24, 3) := by decide +kernel
theorem dL_acts_379 : decode cL_acts 379 = .ok (.aload_n 0, 1) := by decide +kernel
theorem dL_acts_380 : decode cL_acts 380 = .ok (.iload 11, 2) := by decide +kernel
theorem dL_acts_382 : decode cL_acts 382 = .ok (.iload 10, 2) := by decide +kernel
theorem dL_acts_384 : decode cL_acts 384 = .ok (.iload 12, 2) := by decide +kernel
theorem dL_acts_386 : decode cL_acts 386 = .ok (.invokevirtual 106, 3) := by decide +kernel
theorem dL_acts_389 : decode cL_acts 389 = .ok (.ldc 48, 2) := by decide +kernel
theorem dL_acts_391 : decode cL_acts 391 = .ok (.if_icmp .ne 7, 3) := by decide +kernel
theorem dL_acts_394 : decode cL_acts 394 = .ok (.iconst 1, 1) := by decide +kernel
theorem dL_acts_395 : decode cL_acts 395 = .ok (.goto 4, 3) := by decide +kernel
theorem dL_acts_398 : decode cL_acts 398 = .ok (.iconst 0, 1) := by decide +kernel
theorem dL_acts_399 : decode cL_acts 399 = .ok (.ireturn, 1) := by decide +kernel
theorem dL_acts_400 : decode cL_acts 400 = .ok (.aload 4, 2) := by decide +kernel
theorem dL_acts_402 : decode cL_acts 402 = .ok (.iconst 5, 1) := by decide +kernel
theorem dL_acts_403 : decode cL_acts 403 = .ok (.iload 11, 2) := by decide +kernel
theorem dL_acts_405 : decode cL_acts 405 = .ok (.imul, 1) := by decide +kernel
theorem dL_acts_406 : decode cL_acts 406 = .ok (.iload 10, 2) := by decide +kernel
theorem dL_acts_408 : decode cL_acts 408 = .ok (.iadd, 1) := by decide +kernel
theorem dL_acts_409 : decode cL_acts 409 = .ok (.iaload, 1) := by decide +kernel
theorem dL_acts_410 : decode cL_acts 410 = .ok (.istore 13, 2) := by decide +kernel
theorem dL_acts_412 : decode cL_acts 412 = .ok (.aload 4, 2) := by decide +kernel
theorem dL_acts_414 : decode cL_acts 414 = .ok (.iconst 5, 1) := by decide +kernel
theorem dL_acts_415 : decode cL_acts 415 = .ok (.iload 11, 2) := by decide +kernel
theorem dL_acts_417 : decode cL_acts 417 = .ok (.imul, 1) := by decide +kernel
theorem dL_acts_418 : decode cL_acts 418 = .ok (.iload 10, 2) := by decide +kernel
theorem dL_acts_420 : decode cL_acts 420 = .ok (.iadd, 1) := by decide +kernel
theorem dL_acts_421 : decode cL_acts 421 = .ok (.iload 12, 2) := by decide +kernel
theorem dL_acts_423 : decode cL_acts 423 = .ok (.iastore, 1) := by decide +kernel
theorem dL_acts_424 : decode cL_acts 424 = .ok (.aload_n 0, 1) := by decide +kernel
theorem dL_acts_425 : decode cL_acts 425 = .ok (.iload 11, 2) := by decide +kernel
theorem dL_acts_427 : decode cL_acts 427 = .ok (.iload 10, 2) := by decide +kernel
theorem dL_acts_429 : decode cL_acts 429 = .ok (.iload 12, 2) := by decide +kernel
theorem dL_acts_431 : decode cL_acts 431 = .ok (.invokevirtual 106, 3) := by decide +kernel
theorem dL_acts_434 : decode cL_acts 434 = .ok (.iload 13, 2) := by decide +kernel
theorem dL_acts_436 : decode cL_acts 436 = .ok (.if_icmp .ne 7, 3) := by decide +kernel
theorem dL_acts_439 : decode cL_acts 439 = .ok (.iconst 1, 1) := by decide +kernel
theorem dL_acts_440 : decode cL_acts 440 = .ok (.goto 4, 3) := by decide +kernel
theorem dL_acts_443 : decode cL_acts 443 = .ok (.iconst 0, 1) := by decide +kernel
theorem dL_acts_444 : decode cL_acts 444 = .ok (.ireturn, 1) := by decide +kernel
theorem dL_acts_445 : decode cL_acts 445 = .ok (.aload_n 1, 1) := by decide +kernel
theorem dL_acts_446 : decode cL_acts 446 = .ok (.iconst 5, 1) := by decide +kernel
theorem dL_acts_447 : decode cL_acts 447 = .ok (.iaload, 1) := by decide +kernel
theorem dL_acts_448 : decode cL_acts 448 = .ok (.iconst 1, 1) := by decide +kernel
theorem dL_acts_449 : decode cL_acts 449 = .ok (.if_icmp .ne 20, 3) := by decide +kernel
theorem dL_acts_452 : decode cL_acts 452 = .ok (.aload_n 0, 1) := by decide +kernel
theorem dL_acts_453 : decode cL_acts 453 = .ok (.iload 10, 2) := by decide +kernel
theorem dL_acts_455 : decode cL_acts 455 = .ok (.invokevirtual 109, 3) := by decide +kernel
theorem dL_acts_458 : decode cL_acts 458 = .ok (.ldc 48, 2) := by decide +kernel
theorem dL_acts_460 : decode cL_acts 460 = .ok (.if_icmp .ne 7, 3) := by decide +kernel
theorem dL_acts_463 : decode cL_acts 463 = .ok (.iconst 1, 1) := by decide +kernel
theorem dL_acts_464 : decode cL_acts 464 = .ok (.goto 4, 3) := by decide +kernel
theorem dL_acts_467 : decode cL_acts 467 = .ok (.iconst 0, 1) := by decide +kernel
theorem dL_acts_468 : decode cL_acts 468 = .ok (.ireturn, 1) := by decide +kernel
theorem dL_acts_469 : decode cL_acts 469 = .ok (.aload_n 1, 1) := by decide +kernel
theorem dL_acts_470 : decode cL_acts 470 = .ok (.iconst 4, 1) := by decide +kernel
theorem dL_acts_471 : decode cL_acts 471 = .ok (.iaload, 1) := by decide +kernel
theorem dL_acts_472 : decode cL_acts 472 = .ok (.istore 11, 2) := by decide +kernel
theorem dL_acts_474 : decode cL_acts 474 = .ok (.aload_n 1, 1) := by decide +kernel
theorem dL_acts_475 : decode cL_acts 475 = .ok (.iconst 4, 1) := by decide +kernel
theorem dL_acts_476 : decode cL_acts 476 = .ok (.iload 10, 2) := by decide +kernel
theorem dL_acts_478 : decode cL_acts 478 = .ok (.iastore, 1) := by decide +kernel
theorem dL_acts_479 : decode cL_acts 479 = .ok (.aload_n 0, 1) := by decide +kernel
theorem dL_acts_480 : decode cL_acts 480 = .ok (.iload 10, 2) := by decide +kernel
theorem dL_acts_482 : decode cL_acts 482 = .ok (.invokevirtual 109, 3) := by decide +kernel
theorem dL_acts_485 : decode cL_acts 485 = .ok (.iload 11, 2) := by decide +kernel
theorem dL_acts_487 : decode cL_acts 487 = .ok (.if_icmp .ne 7, 3) := by decide +kernel
theorem dL_acts_490 : decode cL_acts 490 = .ok (.iconst 1, 1) := by decide +kernel
theorem dL_acts_491 : decode cL_acts 491 = .ok (.goto 4, 3) := by decide +kernel
theorem dL_acts_494 : decode cL_acts 494 = .ok (.iconst 0, 1) := by decide +kernel
theorem dL_acts_495 : decode cL_acts 495 = .ok (.ireturn, 1) := by decide +kernel
