set_option maxRecDepth 20000 in
theorem ggL_areCells_L_use : GoodIn wsL_areCells wsL_use := goodIn_r _ [7] (by decide +kernel) (by decide +kernel)
set_option maxRecDepth 20000 in
theorem gL_areCells_L_use : GoodIn wsL_areCells (va_wsS RL 9 yL_use wsL_use) := goodIn_app (goodIn_of _ (by decide +kernel)) ggL_areCells_L_use
set_option maxRecDepth 20000 in
theorem ggL_areCells_X6_cellOf_p0 : GoodIn wsL_areCells [Cond.code yX6_cellOf cX6_cellOf 5 (some .int)] := goodIn_sub (List.forall_mem_cons.mpr ⟨List.mem_of_getElem? (i := 12) rfl, (fun _ h => absurd h List.not_mem_nil)⟩) (by decide +kernel)
set_option maxRecDepth 20000 in
theorem ggL_areCells_X6_cellOf_p1 : GoodIn wsL_areCells wsX6_cellOf_r1 := goodIn_sub (List.forall_mem_cons.mpr ⟨List.mem_of_getElem? (i := 13) rfl, (List.forall_mem_cons.mpr ⟨List.mem_of_getElem? (i := 14) rfl, (List.forall_mem_cons.mpr ⟨List.mem_of_getElem? (i := 15) rfl, (List.forall_mem_cons.mpr ⟨List.mem_of_getElem? (i := 16) rfl, (List.forall_mem_cons.mpr ⟨List.mem_of_getElem? (i := 17) rfl, (List.forall_mem_cons.mpr ⟨List.mem_of_getElem? (i := 18) rfl, (List.forall_mem_cons.mpr ⟨List.mem_of_getElem? (i := 19) rfl, (List.forall_mem_cons.mpr ⟨List.mem_of_getElem? (i := 20) rfl, (List.forall_mem_cons.mpr ⟨List.mem_of_getElem? (i := 21) rfl, (List.forall_mem_cons.mpr ⟨List.mem_of_getElem? (i := 22) rfl, (List.forall_mem_cons.mpr ⟨List.mem_of_getElem? (i := 23) rfl, (List.forall_mem_cons.mpr ⟨List.mem_of_getElem? (i := 24) rfl, (List.forall_mem_cons.mpr ⟨List.mem_of_getElem? (i := 25) rfl, (List.forall_mem_cons.mpr ⟨List.mem_of_getElem? (i := 26) rfl, (List.forall_mem_cons.mpr ⟨List.mem_of_getElem? (i := 27) rfl, (List.forall_mem_cons.mpr ⟨List.mem_of_getElem? (i := 28) rfl, (List.forall_mem_cons.mpr ⟨List.mem_of_getElem? (i := 29) rfl, (List.forall_mem_cons.mpr ⟨List.mem_of_getElem? (i := 30) rfl, (List.forall_mem_cons.mpr ⟨List.mem_of_getElem? (i := 31) rfl, (List.forall_mem_cons.mpr ⟨List.mem_of_getElem? (i := 32) rfl, (List.forall_mem_cons.mpr ⟨List.mem_of_getElem? (i := 33) rfl, (List.forall_mem_cons.mpr ⟨List.mem_of_getElem? (i := 34) rfl, (List.forall_mem_cons.mpr ⟨List.mem_of_getElem? (i := 35) rfl, (List.forall_mem_cons.mpr ⟨List.mem_of_getElem? (i := 36) rfl, (fun _ h => absurd h List.not_mem_nil)⟩)⟩)⟩)⟩)⟩)⟩)⟩)⟩)⟩)⟩)⟩)⟩)⟩)⟩)⟩)⟩)⟩)⟩)⟩)⟩)⟩)⟩)⟩)⟩) (by decide +kernel)
set_option maxRecDepth 20000 in
theorem ggL_areCells_X6_cellOf_p2 : GoodIn wsL_areCells wsX6_cellOf_r2 := goodIn_sub (List.forall_mem_cons.mpr ⟨List.mem_of_getElem? (i := 37) rfl, (List.forall_mem_cons.mpr ⟨List.mem_of_getElem? (i := 38) rfl, (List.forall_mem_cons.mpr ⟨List.mem_of_getElem? (i := 39) rfl, (List.forall_mem_cons.mpr ⟨List.mem_of_getElem? (i := 40) rfl, (List.forall_mem_cons.mpr ⟨List.mem_of_getElem? (i := 41) rfl, (List.forall_mem_cons.mpr ⟨List.mem_of_getElem? (i := 42) rfl, (List.forall_mem_cons.mpr ⟨List.mem_of_getElem? (i := 11) rfl, (List.forall_mem_cons.mpr ⟨List.mem_of_getElem? (i := 43) rfl, (List.forall_mem_cons.mpr ⟨List.mem_of_getElem? (i := 44) rfl, (List.forall_mem_cons.mpr ⟨List.mem_of_getElem? (i := 45) rfl, (List.forall_mem_cons.mpr ⟨List.mem_of_getElem? (i := 46) rfl, (List.forall_mem_cons.mpr ⟨List.mem_of_getElem? (i := 47) rfl, (List.forall_mem_cons.mpr ⟨List.mem_of_getElem? (i := 48) rfl, (List.forall_mem_cons.mpr ⟨List.mem_of_getElem? (i := 49) rfl, (List.forall_mem_cons.mpr ⟨List.mem_of_getElem? (i := 50) rfl, (List.forall_mem_cons.mpr ⟨List.mem_of_getElem? (i := 51) rfl, (List.forall_mem_cons.mpr ⟨List.mem_of_getElem? (i := 52) rfl, (List.forall_mem_cons.mpr ⟨List.mem_of_getElem? (i := 53) rfl, (List.forall_mem_cons.mpr ⟨List.mem_of_getElem? (i := 54) rfl, (List.forall_mem_cons.mpr ⟨List.mem_of_getElem? (i := 55) rfl, (List.forall_mem_cons.mpr ⟨List.mem_of_getElem? (i := 56) rfl, (List.forall_mem_cons.mpr ⟨List.mem_of_getElem? (i := 57) rfl, (List.forall_mem_cons.mpr ⟨List.mem_of_getElem? (i := 58) rfl, (List.forall_mem_cons.mpr ⟨List.mem_of_getElem? (i := 59) rfl, (fun _ h => absurd h List.not_mem_nil)⟩)⟩)⟩)⟩)⟩)⟩)⟩)⟩)⟩)⟩)⟩)⟩)⟩)⟩)⟩)⟩)⟩)⟩)⟩)⟩)⟩)⟩)⟩)⟩) (by decide +kernel)
set_option maxRecDepth 20000 in
theorem ggL_areCells_X6_cellOf_p3 : GoodIn wsL_areCells wsX6_cellOf_r3 := goodIn_sub (List.forall_mem_cons.mpr ⟨List.mem_of_getElem? (i := 60) rfl, (List.forall_mem_cons.mpr ⟨List.mem_of_getElem? (i := 61) rfl, (List.forall_mem_cons.mpr ⟨List.mem_of_getElem? (i := 62) rfl, (List.forall_mem_cons.mpr ⟨List.mem_of_getElem? (i := 63) rfl, (List.forall_mem_cons.mpr ⟨List.mem_of_getElem? (i := 64) rfl, (List.forall_mem_cons.mpr ⟨List.mem_of_getElem? (i := 65) rfl, (List.forall_mem_cons.mpr ⟨List.mem_of_getElem? (i := 66) rfl, (List.forall_mem_cons.mpr ⟨List.mem_of_getElem? (i := 67) rfl, (List.forall_mem_cons.mpr ⟨List.mem_of_getElem? (i := 68) rfl, (List.forall_mem_cons.mpr ⟨List.mem_of_getElem? (i := 69) rfl, (List.forall_mem_cons.mpr ⟨List.mem_of_getElem? (i := 70) rfl, (List.forall_mem_cons.mpr ⟨List.mem_of_getElem? (i := 71) rfl, (List.forall_mem_cons.mpr ⟨List.mem_of_getElem? (i := 72) rfl, (fun _ h => absurd h List.not_mem_nil)⟩)⟩)⟩)⟩)⟩)⟩)⟩)⟩)⟩)⟩)⟩)⟩)⟩) (by decide +kernel)
set_option maxRecDepth 20000 in
theorem ggL_areCells_X6_cellOf_p4 : GoodIn wsL_areCells wsX60 := goodIn_r _ [85, 86, 87, 88] (by decide +kernel) (by decide +kernel)
set_option maxRecDepth 20000 in
theorem ggL_areCells_X6_cellOf_p5 : GoodIn wsL_areCells wsX30 := goodIn_r _ [89, 90, 91, 92, 93] (by decide +kernel) (by decide +kernel)
set_option maxRecDepth 20000 in
theorem ggL_areCells_X6_cellOf_p6 : GoodIn wsL_areCells wsX20 := goodIn_r _ [94, 95, 96] (by decide +kernel) (by decide +kernel)
set_option maxRecDepth 20000 in
theorem ggL_areCells_X6_cellOf_p7 : GoodIn wsL_areCells wsX50 := goodIn_r _ [97, 98, 99, 100, 101, 102, 103, 104, 105, 106, 107] (by decide +kernel) (by decide +kernel)
set_option maxRecDepth 20000 in
theorem ggL_areCells_X6_cellOf : GoodIn wsL_areCells wsX6_cellOf := by
  show GoodIn wsL_areCells ([Cond.code yX6_cellOf cX6_cellOf 5 (some .int)] ++ ((wsX6_cellOf_r1 ++ (wsX6_cellOf_r2 ++ wsX6_cellOf_r3)) ++ wsX60 ++ wsX30 ++ wsX20 ++ wsX50))
  exact goodIn_app ggL_areCells_X6_cellOf_p0 (goodIn_app (goodIn_app (goodIn_app (goodIn_app (goodIn_app ggL_areCells_X6_cellOf_p1 (goodIn_app ggL_areCells_X6_cellOf_p2 ggL_areCells_X6_cellOf_p3)) ggL_areCells_X6_cellOf_p4) ggL_areCells_X6_cellOf_p5) ggL_areCells_X6_cellOf_p6) ggL_areCells_X6_cellOf_p7)
set_option maxRecDepth 20000 in
theorem gL_areCells_X6_cellOf : GoodIn wsL_areCells (wsV RL 112 RX6 yX6_cellOf wsX6_cellOf) := goodIn_app (goodIn_of _ (by decide +kernel)) ggL_areCells_X6_cellOf
set_option maxRecDepth 20000 in
theorem ggL_areCells_L_part : GoodIn wsL_areCells wsL_part := goodIn_r _ [75] (by decide +kernel) (by decide +kernel)
set_option maxRecDepth 20000 in
theorem gL_areCells_L_part : GoodIn wsL_areCells (va_wsS RL 19 yL_part wsL_part) := goodIn_app (goodIn_of _ (by decide +kernel)) ggL_areCells_L_part
set_option maxRecDepth 20000 in
theorem ggL_areCells_L_met : GoodIn wsL_areCells wsL_met := goodIn_r _ [78] (by decide +kernel) (by decide +kernel)
set_option maxRecDepth 20000 in
theorem gL_areCells_L_met : GoodIn wsL_areCells (va_wsS RL 116 yL_met wsL_met) := goodIn_app (goodIn_of _ (by decide +kernel)) ggL_areCells_L_met
set_option maxRecDepth 20000 in
theorem ggL_areCells_L_none : GoodIn wsL_areCells wsL_none := goodIn_r _ [81, 4, 5, 6, 7] (by decide +kernel) (by decide +kernel)
set_option maxRecDepth 20000 in
theorem gL_areCells_L_none : GoodIn wsL_areCells (va_wsS RL 15 yL_none wsL_none) := goodIn_app (goodIn_of _ (by decide +kernel)) ggL_areCells_L_none
set_option maxRecDepth 20000 in
theorem ggL_areCells_L_sum : GoodIn wsL_areCells wsL_sum := goodIn_r _ [84, 4, 5, 6, 7, 79, 80, 81] (by decide +kernel) (by decide +kernel)
set_option maxRecDepth 20000 in
theorem gL_areCells_L_sum : GoodIn wsL_areCells (va_wsS RL 23 yL_sum wsL_sum) := goodIn_app (goodIn_of _ (by decide +kernel)) ggL_areCells_L_sum
theorem dL_areCells_0 : decode cL_areCells 0 = .ok (.iconst 1, 1) := by decide +kernel
theorem dL_areCells_1 : decode cL_areCells 1 = .ok (.istore 5, 2) := by decide +kernel
theorem dL_areCells_3 : decode cL_areCells 3 = .ok (.iconst 0, 1) := by decide +kernel
theorem dL_areCells_4 : decode cL_areCells 4 = .ok (.istore 6, 2) := by decide +kernel
theorem dL_areCells_6 : decode cL_areCells 6 = .ok (.iload 6, 2) := by decide +kernel
theorem dL_areCells_8 : decode cL_areCells 8 = .ok (.aload_n 1, 1) := by decide +kernel
theorem dL_areCells_9 : decode cL_areCells 9 = .ok (.iconst 0, 1) := by decide +kernel
theorem dL_areCells_10 : decode cL_areCells 10 = .ok (.iaload, 1) := by decide +kernel
theorem dL_areCells_11 : decode cL_areCells 11 = .ok (.aload_n 1, 1) := by decide +kernel
theorem dL_areCells_12 : decode cL_areCells 12 = .ok (.iconst 0, 1) := by decide +kernel
theorem dL_areCells_13 : decode cL_areCells 13 = .ok (.iaload, 1) := by decide +kernel
theorem dL_areCells_14 : decode cL_areCells 14 = .ok (.imul, 1) := by decide +kernel
theorem dL_areCells_15 : decode cL_areCells 15 = .ok (.if_icmp .ge 501, 3) := by decide +kernel
theorem dL_areCells_18 : decode cL_areCells 18 = .ok (.iload 5, 2) := by decide +kernel
theorem dL_areCells_20 : decode cL_areCells 20 = .ok (.ifCond .eq 496, 3) := by decide +kernel
theorem dL_areCells_23 : decode cL_areCells 23 = .ok (.iload 6, 2) := by decide +kernel
theorem dL_areCells_25 : decode cL_areCells 25 = .ok (.aload_n 1, 1) := by decide +kernel
theorem dL_areCells_26 : decode cL_areCells 26 = .ok (.iconst 0, 1) := by decide +kernel
theorem dL_areCells_27 : decode cL_areCells 27 = .ok (.iaload, 1) := by decide +kernel
theorem dL_areCells_28 : decode cL_areCells 28 = .ok (.idiv, 1) := by decide +kernel
theorem dL_areCells_29 : decode cL_areCells 29 = .ok (.istore 7, 2) := by decide +kernel
theorem dL_areCells_31 : decode cL_areCells 31 = .ok (.iload 6, 2) := by decide +kernel
theorem dL_areCells_33 : decode cL_areCells 33 = .ok (.aload_n 1, 1) := by decide +kernel
theorem dL_areCells_34 : decode cL_areCells 34 = .ok (.iconst 0, 1) := by decide +kernel
theorem dL_areCells_35 : decode cL_areCells 35 = .ok (.iaload, 1) := by decide +kernel
theorem dL_areCells_36 : decode cL_areCells 36 = .ok (.irem, 1) := by decide +kernel
theorem dL_areCells_37 : decode cL_areCells 37 = .ok (.istore 8, 2) := by decide +kernel
theorem dL_areCells_39 : decode cL_areCells 39 = .ok (.aload 4, 2) := by decide +kernel
theorem dL_areCells_41 : decode cL_areCells 41 = .ok (.iload 7, 2) := by decide +kernel
theorem dL_areCells_43 : decode cL_areCells 43 = .ok (.iload 8, 2) := by decide +kernel
theorem dL_areCells_45 : decode cL_areCells 45 = .ok (.aload_n 1, 1) := by decide +kernel
theorem dL_areCells_46 : decode cL_areCells 46 = .ok (.iconst 4, 1) := by decide +kernel
theorem dL_areCells_47 : decode cL_areCells 47 = .ok (.iaload, 1) := by decide +kernel
theorem dL_areCells_48 : decode cL_areCells 48 = .ok (.invokestatic 9, 3) := by decide +kernel
theorem dL_areCells_51 : decode cL_areCells 51 = .ok (.istore 9, 2) := by decide +kernel
theorem dL_areCells_53 : decode cL_areCells 53 = .ok (.aload_n 0, 1) := by decide +kernel
theorem dL_areCells_54 : decode cL_areCells 54 = .ok (.iload 7, 2) := by decide +kernel
theorem dL_areCells_56 : decode cL_areCells 56 = .ok (.iload 8, 2) := by decide +kernel
theorem dL_areCells_58 : decode cL_areCells 58 = .ok (.iconst 3, 1) := by decide +kernel
theorem dL_areCells_59 : decode cL_areCells 59 = .ok (.invokevirtual 112, 3) := by decide +kernel
theorem dL_areCells_62 : decode cL_areCells 62 = .ok (.iload 8, 2) := by decide +kernel
theorem dL_areCells_64 : decode cL_areCells 64 = .ok (.aload_n 1, 1) := by decide +kernel
theorem dL_areCells_65 : decode cL_areCells 65 = .ok (.iconst 4, 1) := by decide +kernel
theorem dL_areCells_66 : decode cL_areCells 66 = .ok (.iaload, 1) := by decide +kernel
theorem dL_areCells_67 : decode cL_areCells 67 = .ok (.if_icmp .ge 8, 3) := by decide +kernel
theorem dL_areCells_70 : decode cL_areCells 70 = .ok (.iload 8, 2) := by decide +kernel
theorem dL_areCells_72 : decode cL_areCells 72 = .ok (.goto 7, 3) := by decide +kernel
theorem dL_areCells_75 : decode cL_areCells 75 = .ok (.iload 8, 2) := by decide +kernel
theorem dL_areCells_77 : decode cL_areCells 77 = .ok (.iconst 1, 1) := by decide +kernel
theorem dL_areCells_78 : decode cL_areCells 78 = .ok (.iadd, 1) := by decide +kernel
theorem dL_areCells_79 : decode cL_areCells 79 = .ok (.if_icmp .ne 36, 3) := by decide +kernel
theorem dL_areCells_82 : decode cL_areCells 82 = .ok (.aload_n 0, 1) := by decide +kernel
theorem dL_areCells_83 : decode cL_areCells 83 = .ok (.iload 7, 2) := by decide +kernel
theorem dL_areCells_85 : decode cL_areCells 85 = .ok (.iload 8, 2) := by decide +kernel
theorem dL_areCells_87 : decode cL_areCells 87 = .ok (.iconst 4, 1) := by decide +kernel
theorem dL_areCells_88 : decode cL_areCells 88 = .ok (.invokevirtual 112, 3) := by decide +kernel
theorem dL_areCells_91 : decode cL_areCells 91 = .ok (.iload 9, 2) := by decide +kernel
theorem dL_areCells_93 : decode cL_areCells 93 = .ok (.if_icmp .ne 22, 3) := by decide +kernel
theorem dL_areCells_96 : decode cL_areCells 96 = .ok (.aload_n 0, 1) := by decide +kernel
theorem dL_areCells_97 : decode cL_areCells 97 = .ok (.iload 7, 2) := by decide +kernel
theorem dL_areCells_99 : decode cL_areCells 99 = .ok (.iload 8, 2) := by decide +kernel
theorem dL_areCells_101 : decode cL_areCells 101 = .ok (.bipush 6, 2) := by decide +kernel
theorem dL_areCells_103 : decode cL_areCells 103 = .ok (.invokevirtual 112, 3) := by decide +kernel
theorem dL_areCells_106 : decode cL_areCells 106 = .ok (.ldc 115, 2) := by decide +kernel
theorem dL_areCells_108 : decode cL_areCells 108 = .ok (.if_icmp .ne 7, 3) := by decide +kernel
theorem dL_areCells_111 : decode cL_areCells 111 = .ok (.iconst 1, 1) := by decide +kernel
theorem dL_areCells_112 : decode cL_areCells 112 = .ok (.goto 4, 3) := by decide +kernel
theorem dL_areCells_115 : decode cL_areCells 115 = .ok (.iconst 0, 1) := by decide +kernel
theorem dL_areCells_116 : decode cL_areCells 116 = .ok (.istore 5, 2) := by decide +kernel
theorem dL_areCells_118 : decode cL_areCells 118 = .ok (.aload_n 1, 1) := by decide +kernel
theorem dL_areCells_119 : decode cL_areCells 119 = .ok (.iconst 5, 1) := by decide +kernel
theorem dL_areCells_120 : decode cL_areCells 120 = .ok (.iaload, 1) := by decide +kernel
theorem dL_areCells_121 : decode cL_areCells 121 = .ok (.ifCond .ne 74, 3) := by decide +kernel
theorem dL_areCells_124 : decode cL_areCells 124 = .ok (.iload 5, 2) := by decide +kernel
theorem dL_areCells_126 : decode cL_areCells 126 = .ok (.ifCond .eq 63, 3) := by decide +kernel
theorem dL_areCells_129 : decode cL_areCells 129 = .ok (.aload_n 0, 1) := by decide +kernel
theorem dL_areCells_130 : decode cL_areCells 130 = .ok (.iload 7, 2) := by decide +kernel
theorem dL_areCells_132 : decode cL_areCells 132 = .ok (.iload 8, 2) := by decide +kernel
theorem dL_areCells_134 : decode cL_areCells 134 = .ok (.iconst 0, 1) := by decide +kernel
theorem dL_areCells_135 : decode cL_areCells 135 = .ok (.invokevirtual 112, 3) := by decide +kernel
theorem dL_areCells_138 : decode cL_areCells 138 = .ok (.ldc 48, 2) := by decide +kernel
theorem dL_areCells_140 : decode cL_areCells 140 = .ok (.if_icmp .ne 49, 3) := by decide +kernel
theorem dL_areCells_143 : decode cL_areCells 143 = .ok (.aload_n 0, 1) := by decide +kernel
theorem dL_areCells_144 : decode cL_areCells 144 = .ok (.iload 7, 2) := by decide +kernel
theorem dL_areCells_146 : decode cL_areCells 146 = .ok (.iload 8, 2) := by decide +kernel
theorem dL_areCells_148 : decode cL_areCells 148 = .ok (.iconst 1, 1) := by decide +kernel
theorem dL_areCells_149 : decode cL_areCells 149 = .ok (.invokevirtual 112, 3) := by decide +kernel
theorem dL_areCells_152 : decode cL_areCells 152 = .ok (.ldc 48, 2) := by decide +kernel
theorem dL_areCells_154 : decode cL_areCells 154 = .ok (.if_icmp .ne 35, 3) := by decide +kernel
theorem dL_areCells_157 : decode cL_areCells 157 = .ok (.aload_n 0, 1) := by decide +kernel
theorem dL_areCells_158 : decode cL_areCells 158 = .ok (.iload 7, 2) := by decide +kernel
theorem dL_areCells_160 : decode cL_areCells 160 = .ok (.iload 8, 2) := by decide +kernel
theorem dL_areCells_162 : decode cL_areCells 162 = .ok (.iconst 2, 1) := by decide +kernel
theorem dL_areCells_163 : decode cL_areCells 163 = .ok (.invokevirtual 112, 3) := by decide +kernel
theorem dL_areCells_166 : decode cL_areCells 166 = .ok (.ldc 48, 2) := by decide +kernel
theorem dL_areCells_168 : decode cL_areCells 168 = .ok (.if_icmp .ne 21, 3) := by decide +kernel
theorem dL_areCells_171 : decode cL_areCells 171 = .ok (.aload_n 0, 1) := by decide +kernel
theorem dL_areCells_172 : decode cL_areCells 172 = .ok (.iload 7, 2) := by decide +kernel
theorem dL_areCells_174 : decode cL_areCells 174 = .ok (.iload 8, 2) := by decide +kernel
theorem dL_areCells_176 : decode cL_areCells 176 = .ok (.iconst 5, 1) := by decide +kernel
theorem dL_areCells_177 : decode cL_areCells 177 = .ok (.invokevirtual 112, 3) := by decide +kernel
theorem dL_areCells_180 : decode cL_areCells 180 = .ok (.ldc 48, 2) := by decide +kernel
theorem dL_areCells_182 : decode cL_areCells 182 = .ok (.if_icmp .ne 7, 3) := by decide +kernel
theorem dL_areCells_185 : decode cL_areCells 185 = .ok (.iconst 1, 1) := by decide +kernel
theorem dL_areCells_186 : decode cL_areCells 186 = .ok (.goto 4, 3) := by decide +kernel
theorem dL_areCells_189 : decode cL_areCells 189 = .ok (.iconst 0, 1) := by decide +kernel
theorem dL_areCells_190 : decode cL_areCells 190 = .ok (.istore 5, 2) := by decide +kernel
theorem dL_areCells_192 : decode cL_areCells 192 = .ok (.goto 318, 3) := by decide +kernel
theorem dL_areCells_195 : decode cL_areCells 195 = .ok (.iload 7, 2) := by decide +kernel
theorem dL_areCells_197 : decode cL_areCells 197 = .ok (.aload_n 1, 1) := by decide +kernel
theorem dL_areCells_198 : decode cL_areCells 198 = .ok (.aload_n 1, 1) := by decide +kernel
theorem dL_areCells_199 : decode cL_areCells 199 = .ok (.iconst 1, 1) := by decide +kernel
theorem dL_areCells_200 : decode cL_areCells 200 = .ok (.iaload, 1) := by decide +kernel
theorem dL_areCells_201 : decode cL_areCells 201 = .ok (.aload_n 1, 1) := by decide +kernel
theorem dL_areCells_202 : decode cL_areCells 202 = .ok (.bipush 6, 2) := by decide +kernel
theorem dL_areCells_204 : decode cL_areCells 204 = .ok (.iaload, 1) := by decide +kernel
theorem dL_areCells_205 : decode cL_areCells 205 = .ok (.invokestatic 19, 3) := by decide +kernel
theorem dL_areCells_208 : decode cL_areCells 208 = .ok (.if_icmp .ge 23, 3) := by decide +kernel
theorem dL_areCells_211 : decode cL_areCells 211 = .ok (.iload 8, 2) := by decide +kernel
theorem dL_areCells_213 : decode cL_areCells 213 = .ok (.aload_n 1, 1) := by decide +kernel
theorem dL_areCells_214 : decode cL_areCells 214 = .ok (.aload_n 1, 1) := by decide +kernel
theorem dL_areCells_215 : decode cL_areCells 215 = .ok (.iconst 3, 1) := by decide +kernel
theorem dL_areCells_216 : decode cL_areCells 216 = .ok (.iaload, 1) := by decide +kernel
theorem dL_areCells_217 : decode cL_areCells 217 = .ok (.aload_n 1, 1) := by decide +kernel
theorem dL_areCells_218 : decode cL_areCells 218 = .ok (.bipush 7, 2) := by decide +kernel
theorem dL_areCells_220 : decode cL_areCells 220 = .ok (.iaload, 1) := by decide +kernel
theorem dL_areCells_221 : decode cL_areCells 221 = .ok (.invokestatic 19, 3) := by decide +kernel
theorem dL_areCells_224 : decode cL_areCells 224 = .ok (.if_icmp .ge 7, 3) := by decide +kernel
theorem dL_areCells_227 : decode cL_areCells 227 = .ok (.iconst 1, 1) := by decide +kernel
theorem dL_areCells_228 : decode cL_areCells 228 = .ok (.goto 4, 3) := by decide +kernel
theorem dL_areCells_231 : decode cL_areCells 231 = .ok (.iconst 0, 1) := by decide +kernel
theorem dL_areCells_232 : decode cL_areCells 232 = .ok (.istore 10, 2) := by decide +kernel
theorem dL_areCells_234 : decode cL_areCells 234 = .ok (.aload_n 1, 1) := by decide +kernel
theorem dL_areCells_235 : decode cL_areCells 235 = .ok (.iconst 0, 1) := by decide +kernel
theorem dL_areCells_236 : decode cL_areCells 236 = .ok (.iaload, 1) := by decide +kernel
theorem dL_areCells_237 : decode cL_areCells 237 = .ok (.aload_n 1, 1) := by decide +kernel
theorem dL_areCells_238 : decode cL_areCells 238 = .ok (.bipush 6, 2) := by decide +kernel
theorem dL_areCells_240 : decode cL_areCells 240 = .ok (.iaload, 1) := by decide +kernel
theorem dL_areCells_241 : decode cL_areCells 241 = .ok (.imul, 1) := by decide +kernel
theorem dL_areCells_242 : decode cL_areCells 242 = .ok (.iload 7, 2) := by decide +kernel
theorem dL_areCells_244 : decode cL_areCells 244 = .ok (.iadd, 1) := by decide +kernel
theorem dL_areCells_245 : decode cL_areCells 245 = .ok (.istore 11, 2) := by decide +kernel
theorem dL_areCells_247 : decode cL_areCells 247 = .ok (.aload_n 1, 1) := by decide +kernel
theorem dL_areCells_248 : decode cL_areCells 248 = .ok (.iconst 0, 1) := by decide +kernel
theorem dL_areCells_249 : decode cL_areCells 249 = .ok (.iaload, 1) := by decide +kernel
theorem dL_areCells_250 : decode cL_areCells 250 = .ok (.aload_n 1, 1) := by decide +kernel
theorem dL_areCells_251 : decode cL_areCells 251 = .ok (.bipush 7, 2) := by decide +kernel
theorem dL_areCells_253 : decode cL_areCells 253 = .ok (.iaload, 1) := by decide +kernel
theorem dL_areCells_254 : decode cL_areCells 254 = .ok (.imul, 1) := by decide +kernel
theorem dL_areCells_255 : decode cL_areCells 255 = .ok (.iload 8, 2) := by decide +kernel
theorem dL_areCells_257 : decode cL_areCells 257 = .ok (.iadd, 1) := by decide +kernel
theorem dL_areCells_258 : decode cL_areCells 258 = .ok (.istore 12, 2) := by decide +kernel
theorem dL_areCells_260 : decode cL_areCells 260 = .ok (.iload 10, 2) := by decide +kernel
theorem dL_areCells_262 : decode cL_areCells 262 = .ok (.ifCond .eq 18, 3) := by decide +kernel
theorem dL_areCells_265 : decode cL_areCells 265 = .ok (.aload_n 1, 1) := by decide +kernel
theorem dL_areCells_266 : decode cL_areCells 266 = .ok (.iload 7, 2) := by decide +kernel
theorem dL_areCells_268 : decode cL_areCells 268 = .ok (.iload 8, 2) := by decide +kernel
theorem dL_areCells_270 : decode cL_areCells 270 = .ok (.aload_n 1, 1) := by decide +kernel
theorem dL_areCells_271 : decode cL_areCells 271 = .ok (.bipush 8, 2) := by decide +kernel
theorem dL_areCells_273 : decode cL_areCells 273 = .ok (.iaload, 1) := by decide +kernel
theorem dL_areCells_274 : decode cL_areCells 274 = .ok (.invokestatic 116, 3) := by decide +kernel
theorem dL_areCells_277 : decode cL_areCells 277 = .ok (.goto 4, 3) := by decide +kernel
theorem dL_areCells_280 : decode cL_areCells 280 = .ok (.iconst 0, 1) := by decide +kernel
theorem dL_areCells_281 : decode cL_areCells 281 = .ok (.istore 13, 2) := by decide +kernel
theorem dL_areCells_283 : decode cL_areCells 283 = .ok (.aload_n 1, 1) := by decide +kernel
theorem dL_areCells_284 : decode cL_areCells 284 = .ok (.bipush 8, 2) := by decide +kernel
theorem dL_areCells_286 : decode cL_areCells 286 = .ok (.iaload, 1) := by decide +kernel
theorem dL_areCells_287 : decode cL_areCells 287 = .ok (.iconst 1, 1) := by decide +kernel
theorem dL_areCells_288 : decode cL_areCells 288 = .ok (.isub, 1) := by decide +kernel
theorem dL_areCells_289 : decode cL_areCells 289 = .ok (.iload 7, 2) := by decide +kernel
theorem dL_areCells_291 : decode cL_areCells 291 = .ok (.isub, 1) := by decide +kernel
theorem dL_areCells_292 : decode cL_areCells 292 = .ok (.iload 8, 2) := by decide +kernel
theorem dL_areCells_294 : decode cL_areCells 294 = .ok (.isub, 1) := by decide +kernel
theorem dL_areCells_295 : decode cL_areCells 295 = .ok (.istore 14, 2) := by decide +kernel
theorem dL_areCells_297 : decode cL_areCells 297 = .ok (.iload 10, 2) := by decide +kernel
theorem dL_areCells_299 : decode cL_areCells 299 = .ok (.ifCond .eq 20, 3) := by decide +kernel
theorem dL_areCells_302 : decode cL_areCells 302 = .ok (.iload 14, 2) := by decide +kernel
theorem dL_areCells_304 : decode cL_areCells 304 = .ok (.ifCond .lt 15, 3) := by decide +kernel
theorem dL_areCells_307 : decode cL_areCells 307 = .ok (.iload 14, 2) := by decide +kernel
theorem dL_areCells_309 : decode cL_areCells 309 = .ok (.aload_n 1, 1) := by decide +kernel
theorem dL_areCells_310 : decode cL_areCells 310 = .ok (.iconst 2, 1) := by decide +kernel
theorem dL_areCells_311 : decode cL_areCells 311 = .ok (.iaload, 1) := by decide +kernel
theorem dL_areCells_312 : decode cL_areCells 312 = .ok (.if_icmp .ge 7, 3) := by decide +kernel
theorem dL_areCells_315 : decode cL_areCells 315 = .ok (.iconst 1, 1) := by decide +kernel
theorem dL_areCells_316 : decode cL_areCells 316 = .ok (.goto 4, 3) := by decide +kernel
theorem dL_areCells_319 : decode cL_areCells 319 = .ok (.iconst 0, 1) := by decide +kernel
theorem dL_areCells_320 : decode cL_areCells 320 = .ok (.istore 15, 2) := by decide +kernel
theorem dL_areCells_322 : decode cL_areCells 322 = .ok (.iload 15, 2) := by decide +kernel
theorem dL_areCells_324 : decode cL_areCells 324 = .ok (.ifCond .ne 8, 3) := by decide +kernel
theorem dL_areCells_327 : decode cL_areCells 327 = .ok (.ldc 44, 2) := by decide +kernel
theorem dL_areCells_329 : decode cL_areCells 329 = .ok (.goto 39, 3) := by decide +kernel
theorem dL_areCells_332 : decode cL_areCells 332 = .ok (.iload 9, 2) := by decide +kernel
theorem dL_areCells_334 : decode cL_areCells 334 = .ok (.iconst 3, 1) := by decide +kernel
theorem dL_areCells_335 : decode cL_areCells 335 = .ok (.if_icmp .eq 19, 3) := by decide +kernel
theorem dL_areCells_338 : decode cL_areCells 338 = .ok (.aload 4, 2) := by decide +kernel
theorem dL_areCells_340 : decode cL_areCells 340 = .ok (.iload 7, 2) := by decide +kernel
theorem dL_areCells_342 : decode cL_areCells 342 = .ok (.iload 8, 2) := by decide +kernel
theorem dL_areCells_344 : decode cL_areCells 344 = .ok (.aload_n 1, 1) := by decide +kernel
theorem dL_areCells_345 : decode cL_areCells 345 = .ok (.iconst 4, 1) := by decide +kernel
theorem dL_areCells_346 : decode cL_areCells 346 = .ok (.iaload, 1) := by decide +kernel
theorem dL_areCells_347 : decode cL_areCells 347 = .ok (.iconst 3, 1) := by decide +kernel
theorem dL_areCells_348 : decode cL_areCells 348 = .ok (.invokestatic 15, 3) := by decide +kernel
theorem dL_areCells_351 : decode cL_areCells 351 = .ok (.ifCond .eq 7, 3) := by decide +kernel
theorem dL_areCells_354 : decode cL_areCells 354 = .ok (.iconst 0, 1) := by decide +kernel
theorem dL_areCells_355 : decode cL_areCells 355 = .ok (.goto 13, 3) := by decide +kernel
theorem dL_areCells_358 : decode cL_areCells 358 = .ok (.aload_n 2, 1) := by decide +kernel
theorem dL_areCells_359 : decode cL_areCells 359 = .ok (.bipush 6, 2) := by decide +kernel
theorem dL_areCells_361 : decode cL_areCells 361 = .ok (.iload 11, 2) := by decide +kernel
theorem dL_areCells_363 : decode cL_areCells 363 = .ok (.imul, 1) := by decide +kernel
theorem dL_areCells_364 : decode cL_areCells 364 = .ok (.iload 14, 2) := by decide +kernel
theorem dL_areCells_366 : decode cL_areCells 366 = .ok (.iadd, 1) := by decide +kernel
theorem dL_areCells_367 : decode cL_areCells 367 = .ok (.iaload, 1) := by decide +kernel
theorem dL_areCells_368 : decode cL_areCells 368 = .ok (.istore 16, 2) := by decide +kernel
theorem dL_areCells_370 : decode cL_areCells 370 = .ok (.iload 15, 2) := by decide +kernel
theorem dL_areCells_372 : decode cL_areCells 372 = .ok (.ifCond .ne 8, 3) := by decide +kernel
theorem dL_areCells_375 : decode cL_areCells 375 = .ok (.ldc 44, 2) := by decide +kernel
theorem dL_areCells_377 : decode cL_areCells 377 = .ok (.goto 39, 3) := by decide +kernel
theorem dL_areCells_380 : decode cL_areCells 380 = .ok (.iload 9, 2) := by decide +kernel
theorem dL_areCells_382 : decode cL_areCells 382 = .ok (.iconst 4, 1) := by decide +kernel
theorem dL_areCells_383 : decode cL_areCells 383 = .ok (.if_icmp .eq 19, 3) := by decide +kernel
theorem dL_areCells_386 : decode cL_areCells 386 = .ok (.aload 4, 2) := by decide +kernel
theorem dL_areCells_388 : decode cL_areCells 388 = .ok (.iload 7, 2) := by decide +kernel
theorem dL_areCells_390 : decode cL_areCells 390 = .ok (.iload 8, 2) := by decide +kernel
theorem dL_areCells_392 : decode cL_areCells 392 = .ok (.aload_n 1, 1) := by decide +kernel
theorem dL_areCells_393 : decode cL_areCells 393 = .ok (.iconst 4, 1) := by decide +kernel
theorem dL_areCells_394 : decode cL_areCells 394 = .ok (.iaload, 1) := by decide +kernel
theorem dL_areCells_395 : decode cL_areCells 395 = .ok (.iconst 4, 1) := by decide +kernel
theorem dL_areCells_396 : decode cL_areCells 396 = .ok (.invokestatic 15, 3) := by decide +kernel
theorem dL_areCells_399 : decode cL_areCells 399 = .ok (.ifCond .eq 7, 3) := by decide +kernel
theorem dL_areCells_402 : decode cL_areCells 402 = .ok (.iconst 0, 1) := by decide +kernel
theorem dL_areCells_403 : decode cL_areCells 403 = .ok (.goto 13, 3) := by decide +kernel
theorem dL_areCells_406 : decode cL_areCells 406 = .ok (.aload_n 3, 1) := by decide +kernel
theorem dL_areCells_407 : decode cL_areCells 407 = .ok (.bipush 6, 2) := by decide +kernel
theorem dL_areCells_409 : decode cL_areCells 409 = .ok (.iload 14, 2) := by decide +kernel
theorem dL_areCells_411 : decode cL_areCells 411 = .ok (.imul, 1) := by decide +kernel
theorem dL_areCells_412 : decode cL_areCells 412 = .ok (.iload 12, 2) := by decide +kernel
theorem dL_areCells_414 : decode cL_areCells 414 = .ok (.iadd, 1) := by decide +kernel
theorem dL_areCells_415 : decode cL_areCells 415 = .ok (.iaload, 1) := by decide +kernel
theorem dL_areCells_416 : decode cL_areCells 416 = .ok (.istore 17, 2) := by decide +kernel
theorem dL_areCells_418 : decode cL_areCells 418 = .ok (.iload 5, 2) := by decide +kernel
theorem dL_areCells_420 : decode cL_areCells 420 = .ok (.ifCond .eq 87, 3) := by decide +kernel
theorem dL_areCells_423 : decode cL_areCells 423 = .ok (.aload_n 0, 1) := by decide +kernel
theorem dL_areCells_424 : decode cL_areCells 424 = .ok (.iload 7, 2) := by decide +kernel
theorem dL_areCells_426 : decode cL_areCells 426 = .ok (.iload 8, 2) := by decide +kernel
theorem dL_areCells_428 : decode cL_areCells 428 = .ok (.iconst 0, 1) := by decide +kernel
theorem dL_areCells_429 : decode cL_areCells 429 = .ok (.invokevirtual 112, 3) := by decide +kernel
theorem dL_areCells_432 : decode cL_areCells 432 = .ok (.iload 10, 2) := by decide +kernel
theorem dL_areCells_434 : decode cL_areCells 434 = .ok (.ifCond .eq 23, 3) := by decide +kernel
theorem dL_areCells_437 : decode cL_areCells 437 = .ok (.aload_n 1, 1) := by decide +kernel
theorem dL_areCells_438 : decode cL_areCells 438 = .ok (.aload_n 2, 1) := by decide +kernel
theorem dL_areCells_439 : decode cL_areCells 439 = .ok (.aload_n 3, 1) := by decide +kernel
theorem dL_areCells_440 : decode cL_areCells 440 = .ok (.aload 4, 2) := by decide +kernel
theorem dL_areCells_442 : decode cL_areCells 442 = .ok (.iload 11, 2) := by decide +kernel
theorem dL_areCells_444 : decode cL_areCells 444 = .ok (.iload 12, 2) := by decide +kernel
theorem dL_areCells_446 : decode cL_areCells 446 = .ok (.aload_n 1, 1) := by decide +kernel
theorem dL_areCells_447 : decode cL_areCells 447 = .ok (.iconst 4, 1) := by decide +kernel
theorem dL_areCells_448 : decode cL_areCells 448 = .ok (.iaload, 1) := by decide +kernel
theorem dL_areCells_449 : decode cL_areCells 449 = .ok (.iload 13, 2) := by decide +kernel
theorem dL_areCells_451 : decode cL_areCells 451 = .ok (.invokestatic 23, 3) := by decide +kernel
theorem dL_areCells_454 : decode cL_areCells 454 = .ok (.goto 4, 3) := by decide +kernel
theorem dL_areCells_457 : decode cL_areCells 457 = .ok (.iconst 0, 1) := by decide +kernel
theorem dL_areCells_458 : decode cL_areCells 458 = .ok (.if_icmp .ne 49, 3) := by decide +kernel
theorem dL_areCells_461 : decode cL_areCells 461 = .ok (.aload_n 0, 1) := by decide +kernel
theorem dL_areCells_462 : decode cL_areCells 462 = .ok (.iload 7, 2) := by decide +kernel
theorem dL_areCells_464 : decode cL_areCells 464 = .ok (.iload 8, 2) := by decide +kernel
theorem dL_areCells_466 : decode cL_areCells 466 = .ok (.iconst 1, 1) := by decide +kernel
theorem dL_areCells_467 : decode cL_areCells 467 = .ok (.invokevirtual 112, 3) := by decide +kernel
theorem dL_areCells_470 : decode cL_areCells 470 = .ok (.iload 16, 2) := by decide +kernel
theorem dL_areCells_472 : decode cL_areCells 472 = .ok (.if_icmp .ne 35, 3) := by decide +kernel
theorem dL_areCells_475 : decode cL_areCells 475 = .ok (.aload_n 0, 1) := by decide +kernel
theorem dL_areCells_476 : decode cL_areCells 476 = .ok (.iload 7, 2) := by decide +kernel
theorem dL_areCells_478 : decode cL_areCells 478 = .ok (.iload 8, 2) := by decide +kernel
theorem dL_areCells_480 : decode cL_areCells 480 = .ok (.iconst 2, 1) := by decide +kernel
theorem dL_areCells_481 : decode cL_areCells 481 = .ok (.invokevirtual 112, 3) := by decide +kernel
theorem dL_areCells_484 : decode cL_areCells 484 = .ok (.iload 17, 2) := by decide +kernel
theorem dL_areCells_486 : decode cL_areCells 486 = .ok (.if_icmp .ne 21, 3) := by decide +kernel
theorem dL_areCells_489 : decode cL_areCells 489 = .ok (.aload_n 0, 1) := by decide +kernel
theorem dL_areCells_490 : decode cL_areCells 490 = .ok (.iload 7, 2) := by decide +kernel
theorem dL_areCells_492 : decode cL_areCells 492 = .ok (.iload 8, 2) := by decide +kernel
theorem dL_areCells_494 : decode cL_areCells 494 = .ok (.iconst 5, 1) := by decide +kernel
theorem dL_areCells_495 : decode cL_areCells 495 = .ok (.invokevirtual 112, 3) := by decide +kernel
theorem dL_areCells_498 : decode cL_areCells 498 = .ok (.iload 13, 2) := by decide +kernel
theorem dL_areCells_500 : decode cL_areCells 500 = .ok (.if_icmp .ne 7, 3) := by decide +kernel
theorem dL_areCells_503 : decode cL_areCells 503 = .ok (.iconst 1, 1) := by decide +kernel
theorem dL_areCells_504 : decode cL_areCells 504 = .ok (.goto 4, 3) := by decide +kernel
theorem dL_areCells_507 : decode cL_areCells 507 = .ok (.iconst 0, 1) := by decide +kernel
theorem dL_areCells_508 : decode cL_areCells 508 = .ok (.istore 5, 2) := by decide +kernel
theorem dL_areCells_510 : decode cL_areCells 510 = .ok (.iinc 6 1, 3) := by decide +kernel
theorem dL_areCells_513 : decode cL_areCells 513 = .ok (.goto (-507), 3) := by decide +kernel
theorem dL_areCells_516 : decode cL_areCells 516 = .ok (.iload 5, 2) := by decide +kernel
theorem dL_areCells_518 : decode cL_areCells 518 = .ok (.ifCond .eq 35, 3) := by decide +kernel
theorem dL_areCells_521 : decode cL_areCells 521 = .ok (.aload_n 0, 1) := by decide +kernel
theorem dL_areCells_522 : decode cL_areCells 522 = .ok (.aload_n 1, 1) := by decide +kernel
theorem dL_areCells_523 : decode cL_areCells 523 = .ok (.iconst 0, 1) := by decide +kernel
theorem dL_areCells_524 : decode cL_areCells 524 = .ok (.iaload, 1) := by decide +kernel
theorem dL_areCells_525 : decode cL_areCells 525 = .ok (.iconst 0, 1) := by decide +kernel
theorem dL_areCells_526 : decode cL_areCells 526 = .ok (.iconst 0, 1) := by decide +kernel
theorem dL_areCells_527 : decode cL_areCells 527 = .ok (.invokevirtual 112, 3) := by decide +kernel
theorem dL_areCells_530 : decode cL_areCells 530 = .ok (.ldc 115, 2) := by decide +kernel
theorem dL_areCells_532 : decode cL_areCells 532 = .ok (.if_icmp .ne 21, 3) := by decide +kernel
theorem dL_areCells_535 : decode cL_areCells 535 = .ok (.aload_n 0, 1) := by decide +kernel
theorem dL_areCells_536 : decode cL_areCells 536 = .ok (.iconst 0, 1) := by decide +kernel
theorem dL_areCells_537 : decode cL_areCells 537 = .ok (.aload_n 1, 1) := by decide +kernel
theorem dL_areCells_538 : decode cL_areCells 538 = .ok (.iconst 0, 1) := by decide +kernel
theorem dL_areCells_539 : decode cL_areCells 539 = .ok (.iaload, 1) := by decide +kernel
theorem dL_areCells_540 : decode cL_areCells 540 = .ok (.iconst 3, 1) := by decide +kernel
theorem dL_areCells_541 : decode cL_areCells 541 = .ok (.invokevirtual 112, 3) := by decide +kernel
theorem dL_areCells_544 : decode cL_areCells 544 = .ok (.ldc 115, 2) := by decide +kernel
theorem dL_areCells_546 : decode cL_areCells 546 = .ok (.if_icmp .ne 7, 3) := by decide +kernel
theorem dL_areCells_549 : decode cL_areCells 549 = .ok (.iconst 1, 1) := by decide +kernel
theorem dL_areCells_550 : decode cL_areCells 550 = .ok (.goto 4, 3) := by decide +kernel
theorem dL_areCells_553 : decode cL_areCells 553 = .ok (.iconst 0, 1) := by decide +kernel
theorem dL_areCells_554 : decode cL_areCells 554 = .ok (.ireturn, 1) := by decide +kernel
