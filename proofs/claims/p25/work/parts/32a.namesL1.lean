theorem dL_cell_0 : decode cL_cell 0 = .ok (.iload_n 1, 1) := by decide +kernel
theorem dL_cell_1 : decode cL_cell 1 = .ok (.aload_n 0, 1) := by decide +kernel
theorem dL_cell_2 : decode cL_cell 2 = .ok (.arraylength, 1) := by decide +kernel
theorem dL_cell_3 : decode cL_cell 3 = .ok (.if_icmp .ge 9, 3) := by decide +kernel
theorem dL_cell_6 : decode cL_cell 6 = .ok (.aload_n 0, 1) := by decide +kernel
theorem dL_cell_7 : decode cL_cell 7 = .ok (.iload_n 1, 1) := by decide +kernel
theorem dL_cell_8 : decode cL_cell 8 = .ok (.iaload, 1) := by decide +kernel
theorem dL_cell_9 : decode cL_cell 9 = .ok (.goto 9, 3) := by decide +kernel
theorem dL_cell_12 : decode cL_cell 12 = .ok (.ldc 7, 2) := by decide +kernel
theorem dL_cell_14 : decode cL_cell 14 = .ok (.iload_n 1, 1) := by decide +kernel
theorem dL_cell_15 : decode cL_cell 15 = .ok (.iconst 3, 1) := by decide +kernel
theorem dL_cell_16 : decode cL_cell 16 = .ok (.iadd, 1) := by decide +kernel
theorem dL_cell_17 : decode cL_cell 17 = .ok (.imul, 1) := by decide +kernel
theorem dL_cell_18 : decode cL_cell 18 = .ok (.ireturn, 1) := by decide +kernel
theorem dL_low_0 : decode cL_low 0 = .ok (.iload_n 0, 1) := by decide +kernel
theorem dL_low_1 : decode cL_low 1 = .ok (.ldc 8, 2) := by decide +kernel
theorem dL_low_3 : decode cL_low 3 = .ok (.iand, 1) := by decide +kernel
theorem dL_low_4 : decode cL_low 4 = .ok (.iload_n 1, 1) := by decide +kernel
theorem dL_low_5 : decode cL_low 5 = .ok (.irem, 1) := by decide +kernel
theorem dL_low_6 : decode cL_low 6 = .ok (.ireturn, 1) := by decide +kernel
theorem dL_use_0 : decode cL_use 0 = .ok (.aload_n 0, 1) := by decide +kernel
theorem dL_use_1 : decode cL_use 1 = .ok (.iconst 5, 1) := by decide +kernel
theorem dL_use_2 : decode cL_use 2 = .ok (.iload_n 1, 1) := by decide +kernel
theorem dL_use_3 : decode cL_use 3 = .ok (.imul, 1) := by decide +kernel
theorem dL_use_4 : decode cL_use 4 = .ok (.iload_n 2, 1) := by decide +kernel
theorem dL_use_5 : decode cL_use 5 = .ok (.iload_n 3, 1) := by decide +kernel
theorem dL_use_6 : decode cL_use 6 = .ok (.if_icmp .ge 7, 3) := by decide +kernel
theorem dL_use_9 : decode cL_use 9 = .ok (.iload_n 2, 1) := by decide +kernel
theorem dL_use_10 : decode cL_use 10 = .ok (.goto 6, 3) := by decide +kernel
theorem dL_use_13 : decode cL_use 13 = .ok (.iload_n 2, 1) := by decide +kernel
theorem dL_use_14 : decode cL_use 14 = .ok (.iconst 1, 1) := by decide +kernel
theorem dL_use_15 : decode cL_use 15 = .ok (.iadd, 1) := by decide +kernel
theorem dL_use_16 : decode cL_use 16 = .ok (.iadd, 1) := by decide +kernel
theorem dL_use_17 : decode cL_use 17 = .ok (.iaload, 1) := by decide +kernel
theorem dL_use_18 : decode cL_use 18 = .ok (.ireturn, 1) := by decide +kernel
set_option maxRecDepth 20000 in
theorem ggL_none_L_use : GoodIn wsL_none wsL_use := goodIn_r _ [4] (by decide +kernel) (by decide +kernel)
set_option maxRecDepth 20000 in
theorem gL_none_L_use : GoodIn wsL_none (va_wsS RL 9 yL_use wsL_use) := goodIn_app (goodIn_of _ (by decide +kernel)) ggL_none_L_use
theorem dL_none_0 : decode cL_none 0 = .ok (.iconst 0, 1) := by decide +kernel
theorem dL_none_1 : decode cL_none 1 = .ok (.istore 5, 2) := by decide +kernel
theorem dL_none_3 : decode cL_none 3 = .ok (.iconst 0, 1) := by decide +kernel
theorem dL_none_4 : decode cL_none 4 = .ok (.istore 6, 2) := by decide +kernel
theorem dL_none_6 : decode cL_none 6 = .ok (.iload 6, 2) := by decide +kernel
theorem dL_none_8 : decode cL_none 8 = .ok (.iload 4, 2) := by decide +kernel
theorem dL_none_10 : decode cL_none 10 = .ok (.iconst 3, 1) := by decide +kernel
theorem dL_none_11 : decode cL_none 11 = .ok (.if_icmp .ne 7, 3) := by decide +kernel
theorem dL_none_14 : decode cL_none 14 = .ok (.iload_n 2, 1) := by decide +kernel
theorem dL_none_15 : decode cL_none 15 = .ok (.goto 4, 3) := by decide +kernel
theorem dL_none_18 : decode cL_none 18 = .ok (.iload_n 1, 1) := by decide +kernel
theorem dL_none_19 : decode cL_none 19 = .ok (.if_icmp .ge 55, 3) := by decide +kernel
theorem dL_none_22 : decode cL_none 22 = .ok (.iload 5, 2) := by decide +kernel
theorem dL_none_24 : decode cL_none 24 = .ok (.ifCond .ne 37, 3) := by decide +kernel
theorem dL_none_27 : decode cL_none 27 = .ok (.aload_n 0, 1) := by decide +kernel
theorem dL_none_28 : decode cL_none 28 = .ok (.iload 4, 2) := by decide +kernel
theorem dL_none_30 : decode cL_none 30 = .ok (.iconst 3, 1) := by decide +kernel
theorem dL_none_31 : decode cL_none 31 = .ok (.if_icmp .ne 7, 3) := by decide +kernel
theorem dL_none_34 : decode cL_none 34 = .ok (.iload_n 1, 1) := by decide +kernel
theorem dL_none_35 : decode cL_none 35 = .ok (.goto 5, 3) := by decide +kernel
theorem dL_none_38 : decode cL_none 38 = .ok (.iload 6, 2) := by decide +kernel
theorem dL_none_40 : decode cL_none 40 = .ok (.iload 4, 2) := by decide +kernel
theorem dL_none_42 : decode cL_none 42 = .ok (.iconst 3, 1) := by decide +kernel
theorem dL_none_43 : decode cL_none 43 = .ok (.if_icmp .ne 8, 3) := by decide +kernel
theorem dL_none_46 : decode cL_none 46 = .ok (.iload 6, 2) := by decide +kernel
theorem dL_none_48 : decode cL_none 48 = .ok (.goto 4, 3) := by decide +kernel
theorem dL_none_51 : decode cL_none 51 = .ok (.iload_n 2, 1) := by decide +kernel
theorem dL_none_52 : decode cL_none 52 = .ok (.iload_n 3, 1) := by decide +kernel
theorem dL_none_53 : decode cL_none 53 = .ok (.invokestatic 9, 3) := by decide +kernel
theorem dL_none_56 : decode cL_none 56 = .ok (.iload 4, 2) := by decide +kernel
theorem dL_none_58 : decode cL_none 58 = .ok (.if_icmp .ne 7, 3) := by decide +kernel
theorem dL_none_61 : decode cL_none 61 = .ok (.iconst 1, 1) := by decide +kernel
theorem dL_none_62 : decode cL_none 62 = .ok (.goto 4, 3) := by decide +kernel
theorem dL_none_65 : decode cL_none 65 = .ok (.iconst 0, 1) := by decide +kernel
theorem dL_none_66 : decode cL_none 66 = .ok (.istore 5, 2) := by decide +kernel
theorem dL_none_68 : decode cL_none 68 = .ok (.iinc 6 1, 3) := by decide +kernel
theorem dL_none_71 : decode cL_none 71 = .ok (.goto (-65), 3) := by decide +kernel
theorem dL_none_74 : decode cL_none 74 = .ok (.iload 5, 2) := by decide +kernel
theorem dL_none_76 : decode cL_none 76 = .ok (.ireturn, 1) := by decide +kernel
theorem dL_met_0 : decode cL_met 0 = .ok (.iload_n 3, 1) := by decide +kernel
theorem dL_met_1 : decode cL_met 1 = .ok (.iload_n 1, 1) := by decide +kernel
theorem dL_met_2 : decode cL_met 2 = .ok (.isub, 1) := by decide +kernel
theorem dL_met_3 : decode cL_met 3 = .ok (.iload_n 2, 1) := by decide +kernel
theorem dL_met_4 : decode cL_met 4 = .ok (.isub, 1) := by decide +kernel
theorem dL_met_5 : decode cL_met 5 = .ok (.istore 4, 2) := by decide +kernel
theorem dL_met_7 : decode cL_met 7 = .ok (.iload 4, 2) := by decide +kernel
theorem dL_met_9 : decode cL_met 9 = .ok (.ifCond .ge 7, 3) := by decide +kernel
theorem dL_met_12 : decode cL_met 12 = .ok (.iconst 0, 1) := by decide +kernel
theorem dL_met_13 : decode cL_met 13 = .ok (.goto 19, 3) := by decide +kernel
theorem dL_met_16 : decode cL_met 16 = .ok (.iload 4, 2) := by decide +kernel
theorem dL_met_18 : decode cL_met 18 = .ok (.aload_n 0, 1) := by decide +kernel
theorem dL_met_19 : decode cL_met 19 = .ok (.iconst 2, 1) := by decide +kernel
theorem dL_met_20 : decode cL_met 20 = .ok (.iaload, 1) := by decide +kernel
theorem dL_met_21 : decode cL_met 21 = .ok (.if_icmp .le 9, 3) := by decide +kernel
theorem dL_met_24 : decode cL_met 24 = .ok (.aload_n 0, 1) := by decide +kernel
theorem dL_met_25 : decode cL_met 25 = .ok (.iconst 2, 1) := by decide +kernel
theorem dL_met_26 : decode cL_met 26 = .ok (.iaload, 1) := by decide +kernel
theorem dL_met_27 : decode cL_met 27 = .ok (.goto 5, 3) := by decide +kernel
theorem dL_met_30 : decode cL_met 30 = .ok (.iload 4, 2) := by decide +kernel
theorem dL_met_32 : decode cL_met 32 = .ok (.ireturn, 1) := by decide +kernel
set_option maxRecDepth 20000 in
theorem ggL_sum_L_use : GoodIn wsL_sum wsL_use := goodIn_r _ [4] (by decide +kernel) (by decide +kernel)
set_option maxRecDepth 20000 in
theorem gL_sum_L_use : GoodIn wsL_sum (va_wsS RL 9 yL_use wsL_use) := goodIn_app (goodIn_of _ (by decide +kernel)) ggL_sum_L_use
set_option maxRecDepth 20000 in
theorem ggL_sum_L_none : GoodIn wsL_sum wsL_none := goodIn_r _ [7, 1, 2, 3, 4] (by decide +kernel) (by decide +kernel)
set_option maxRecDepth 20000 in
theorem gL_sum_L_none : GoodIn wsL_sum (va_wsS RL 15 yL_none wsL_none) := goodIn_app (goodIn_of _ (by decide +kernel)) ggL_sum_L_none
theorem dL_sum_0 : decode cL_sum 0 = .ok (.iload 4, 2) := by decide +kernel
theorem dL_sum_2 : decode cL_sum 2 = .ok (.aload_n 0, 1) := by decide +kernel
theorem dL_sum_3 : decode cL_sum 3 = .ok (.iconst 0, 1) := by decide +kernel
theorem dL_sum_4 : decode cL_sum 4 = .ok (.iaload, 1) := by decide +kernel
theorem dL_sum_5 : decode cL_sum 5 = .ok (.irem, 1) := by decide +kernel
theorem dL_sum_6 : decode cL_sum 6 = .ok (.istore 8, 2) := by decide +kernel
theorem dL_sum_8 : decode cL_sum 8 = .ok (.iload 5, 2) := by decide +kernel
theorem dL_sum_10 : decode cL_sum 10 = .ok (.aload_n 0, 1) := by decide +kernel
theorem dL_sum_11 : decode cL_sum 11 = .ok (.iconst 0, 1) := by decide +kernel
theorem dL_sum_12 : decode cL_sum 12 = .ok (.iaload, 1) := by decide +kernel
theorem dL_sum_13 : decode cL_sum 13 = .ok (.irem, 1) := by decide +kernel
theorem dL_sum_14 : decode cL_sum 14 = .ok (.istore 9, 2) := by decide +kernel
theorem dL_sum_16 : decode cL_sum 16 = .ok (.aload_n 3, 1) := by decide +kernel
theorem dL_sum_17 : decode cL_sum 17 = .ok (.iload 8, 2) := by decide +kernel
theorem dL_sum_19 : decode cL_sum 19 = .ok (.iload 9, 2) := by decide +kernel
theorem dL_sum_21 : decode cL_sum 21 = .ok (.iload 6, 2) := by decide +kernel
theorem dL_sum_23 : decode cL_sum 23 = .ok (.invokestatic 9, 3) := by decide +kernel
theorem dL_sum_26 : decode cL_sum 26 = .ok (.istore 10, 2) := by decide +kernel
theorem dL_sum_28 : decode cL_sum 28 = .ok (.iconst 0, 1) := by decide +kernel
theorem dL_sum_29 : decode cL_sum 29 = .ok (.istore 11, 2) := by decide +kernel
theorem dL_sum_31 : decode cL_sum 31 = .ok (.iconst 0, 1) := by decide +kernel
theorem dL_sum_32 : decode cL_sum 32 = .ok (.istore 12, 2) := by decide +kernel
theorem dL_sum_34 : decode cL_sum 34 = .ok (.iload 12, 2) := by decide +kernel
theorem dL_sum_36 : decode cL_sum 36 = .ok (.iload 7, 2) := by decide +kernel
theorem dL_sum_38 : decode cL_sum 38 = .ok (.if_icmp .ge 35, 3) := by decide +kernel
theorem dL_sum_41 : decode cL_sum 41 = .ok (.iload 11, 2) := by decide +kernel
theorem dL_sum_43 : decode cL_sum 43 = .ok (.aload_n 1, 1) := by decide +kernel
theorem dL_sum_44 : decode cL_sum 44 = .ok (.bipush 6, 2) := by decide +kernel
theorem dL_sum_46 : decode cL_sum 46 = .ok (.iload 4, 2) := by decide +kernel
theorem dL_sum_48 : decode cL_sum 48 = .ok (.imul, 1) := by decide +kernel
theorem dL_sum_49 : decode cL_sum 49 = .ok (.iload 12, 2) := by decide +kernel
theorem dL_sum_51 : decode cL_sum 51 = .ok (.iadd, 1) := by decide +kernel
theorem dL_sum_52 : decode cL_sum 52 = .ok (.iaload, 1) := by decide +kernel
theorem dL_sum_53 : decode cL_sum 53 = .ok (.aload_n 2, 1) := by decide +kernel
theorem dL_sum_54 : decode cL_sum 54 = .ok (.bipush 6, 2) := by decide +kernel
theorem dL_sum_56 : decode cL_sum 56 = .ok (.iload 12, 2) := by decide +kernel
theorem dL_sum_58 : decode cL_sum 58 = .ok (.imul, 1) := by decide +kernel
theorem dL_sum_59 : decode cL_sum 59 = .ok (.iload 5, 2) := by decide +kernel
theorem dL_sum_61 : decode cL_sum 61 = .ok (.iadd, 1) := by decide +kernel
theorem dL_sum_62 : decode cL_sum 62 = .ok (.iaload, 1) := by decide +kernel
theorem dL_sum_63 : decode cL_sum 63 = .ok (.imul, 1) := by decide +kernel
theorem dL_sum_64 : decode cL_sum 64 = .ok (.iadd, 1) := by decide +kernel
theorem dL_sum_65 : decode cL_sum 65 = .ok (.istore 11, 2) := by decide +kernel
theorem dL_sum_67 : decode cL_sum 67 = .ok (.iinc 12 1, 3) := by decide +kernel
theorem dL_sum_70 : decode cL_sum 70 = .ok (.goto (-36), 3) := by decide +kernel
theorem dL_sum_73 : decode cL_sum 73 = .ok (.iload 10, 2) := by decide +kernel
theorem dL_sum_75 : decode cL_sum 75 = .ok (.iconst 1, 1) := by decide +kernel
theorem dL_sum_76 : decode cL_sum 76 = .ok (.if_icmp .eq 31, 3) := by decide +kernel
theorem dL_sum_79 : decode cL_sum 79 = .ok (.aload_n 3, 1) := by decide +kernel
theorem dL_sum_80 : decode cL_sum 80 = .ok (.iload 8, 2) := by decide +kernel
theorem dL_sum_82 : decode cL_sum 82 = .ok (.iload 9, 2) := by decide +kernel
theorem dL_sum_84 : decode cL_sum 84 = .ok (.iload 6, 2) := by decide +kernel
theorem dL_sum_86 : decode cL_sum 86 = .ok (.iconst 3, 1) := by decide +kernel
theorem dL_sum_87 : decode cL_sum 87 = .ok (.invokestatic 15, 3) := by decide +kernel
theorem dL_sum_90 : decode cL_sum 90 = .ok (.ifCond .ne 17, 3) := by decide +kernel
theorem dL_sum_93 : decode cL_sum 93 = .ok (.aload_n 3, 1) := by decide +kernel
theorem dL_sum_94 : decode cL_sum 94 = .ok (.iload 8, 2) := by decide +kernel
theorem dL_sum_96 : decode cL_sum 96 = .ok (.iload 9, 2) := by decide +kernel
theorem dL_sum_98 : decode cL_sum 98 = .ok (.iload 6, 2) := by decide +kernel
theorem dL_sum_100 : decode cL_sum 100 = .ok (.iconst 4, 1) := by decide +kernel
theorem dL_sum_101 : decode cL_sum 101 = .ok (.invokestatic 15, 3) := by decide +kernel
theorem dL_sum_104 : decode cL_sum 104 = .ok (.ifCond .eq 7, 3) := by decide +kernel
theorem dL_sum_107 : decode cL_sum 107 = .ok (.iconst 0, 1) := by decide +kernel
theorem dL_sum_108 : decode cL_sum 108 = .ok (.goto 18, 3) := by decide +kernel
theorem dL_sum_111 : decode cL_sum 111 = .ok (.iload 10, 2) := by decide +kernel
theorem dL_sum_113 : decode cL_sum 113 = .ok (.iconst 2, 1) := by decide +kernel
theorem dL_sum_114 : decode cL_sum 114 = .ok (.if_icmp .ne 10, 3) := by decide +kernel
theorem dL_sum_117 : decode cL_sum 117 = .ok (.iconst 2, 1) := by decide +kernel
theorem dL_sum_118 : decode cL_sum 118 = .ok (.iload 11, 2) := by decide +kernel
theorem dL_sum_120 : decode cL_sum 120 = .ok (.imul, 1) := by decide +kernel
theorem dL_sum_121 : decode cL_sum 121 = .ok (.goto 5, 3) := by decide +kernel
theorem dL_sum_124 : decode cL_sum 124 = .ok (.iload 11, 2) := by decide +kernel
theorem dL_sum_126 : decode cL_sum 126 = .ok (.ireturn, 1) := by decide +kernel
theorem dL_due_0 : decode cL_due 0 = .ok (.iconst 0, 1) := by decide +kernel
theorem dL_due_1 : decode cL_due 1 = .ok (.istore 5, 2) := by decide +kernel
theorem dL_due_3 : decode cL_due 3 = .ok (.iconst 0, 1) := by decide +kernel
theorem dL_due_4 : decode cL_due 4 = .ok (.istore 6, 2) := by decide +kernel
theorem dL_due_6 : decode cL_due 6 = .ok (.iload 6, 2) := by decide +kernel
theorem dL_due_8 : decode cL_due 8 = .ok (.aload_n 0, 1) := by decide +kernel
theorem dL_due_9 : decode cL_due 9 = .ok (.iconst 2, 1) := by decide +kernel
theorem dL_due_10 : decode cL_due 10 = .ok (.iaload, 1) := by decide +kernel
theorem dL_due_11 : decode cL_due 11 = .ok (.if_icmp .ge 34, 3) := by decide +kernel
theorem dL_due_14 : decode cL_due 14 = .ok (.iload 5, 2) := by decide +kernel
theorem dL_due_16 : decode cL_due 16 = .ok (.aload_n 1, 1) := by decide +kernel
theorem dL_due_17 : decode cL_due 17 = .ok (.bipush 6, 2) := by decide +kernel
theorem dL_due_19 : decode cL_due 19 = .ok (.iload_n 3, 1) := by decide +kernel
theorem dL_due_20 : decode cL_due 20 = .ok (.imul, 1) := by decide +kernel
theorem dL_due_21 : decode cL_due 21 = .ok (.iload 6, 2) := by decide +kernel
theorem dL_due_23 : decode cL_due 23 = .ok (.iadd, 1) := by decide +kernel
theorem dL_due_24 : decode cL_due 24 = .ok (.iaload, 1) := by decide +kernel
theorem dL_due_25 : decode cL_due 25 = .ok (.aload_n 2, 1) := by decide +kernel
theorem dL_due_26 : decode cL_due 26 = .ok (.bipush 6, 2) := by decide +kernel
theorem dL_due_28 : decode cL_due 28 = .ok (.iload 6, 2) := by decide +kernel
theorem dL_due_30 : decode cL_due 30 = .ok (.imul, 1) := by decide +kernel
theorem dL_due_31 : decode cL_due 31 = .ok (.iload 4, 2) := by decide +kernel
theorem dL_due_33 : decode cL_due 33 = .ok (.iadd, 1) := by decide +kernel
theorem dL_due_34 : decode cL_due 34 = .ok (.iaload, 1) := by decide +kernel
theorem dL_due_35 : decode cL_due 35 = .ok (.imul, 1) := by decide +kernel
theorem dL_due_36 : decode cL_due 36 = .ok (.iadd, 1) := by decide +kernel
theorem dL_due_37 : decode cL_due 37 = .ok (.istore 5, 2) := by decide +kernel
theorem dL_due_39 : decode cL_due 39 = .ok (.iinc 6 1, 3) := by decide +kernel
theorem dL_due_42 : decode cL_due 42 = .ok (.goto (-36), 3) := by decide +kernel
theorem dL_due_45 : decode cL_due 45 = .ok (.iload 5, 2) := by decide +kernel
theorem dL_due_47 : decode cL_due 47 = .ok (.ireturn, 1) := by decide +kernel
theorem dL_along_0 : decode cL_along 0 = .ok (.iload_n 1, 1) := by decide +kernel
theorem dL_along_1 : decode cL_along 1 = .ok (.aload_n 0, 1) := by decide +kernel
theorem dL_along_2 : decode cL_along 2 = .ok (.iconst 0, 1) := by decide +kernel
theorem dL_along_3 : decode cL_along 3 = .ok (.iaload, 1) := by decide +kernel
theorem dL_along_4 : decode cL_along 4 = .ok (.irem, 1) := by decide +kernel
theorem dL_along_5 : decode cL_along 5 = .ok (.ifCond .ne 11, 3) := by decide +kernel
theorem dL_along_8 : decode cL_along 8 = .ok (.iload_n 1, 1) := by decide +kernel
theorem dL_along_9 : decode cL_along 9 = .ok (.aload_n 0, 1) := by decide +kernel
theorem dL_along_10 : decode cL_along 10 = .ok (.iconst 0, 1) := by decide +kernel
theorem dL_along_11 : decode cL_along 11 = .ok (.iaload, 1) := by decide +kernel
theorem dL_along_12 : decode cL_along 12 = .ok (.idiv, 1) := by decide +kernel
theorem dL_along_13 : decode cL_along 13 = .ok (.goto 10, 3) := by decide +kernel
theorem dL_along_16 : decode cL_along 16 = .ok (.iload_n 1, 1) := by decide +kernel
theorem dL_along_17 : decode cL_along 17 = .ok (.aload_n 0, 1) := by decide +kernel
theorem dL_along_18 : decode cL_along 18 = .ok (.iconst 0, 1) := by decide +kernel
theorem dL_along_19 : decode cL_along 19 = .ok (.iaload, 1) := by decide +kernel
theorem dL_along_20 : decode cL_along 20 = .ok (.idiv, 1) := by decide +kernel
theorem dL_along_21 : decode cL_along 21 = .ok (.iconst 1, 1) := by decide +kernel
theorem dL_along_22 : decode cL_along 22 = .ok (.iadd, 1) := by decide +kernel
theorem dL_along_23 : decode cL_along 23 = .ok (.ireturn, 1) := by decide +kernel
theorem dL_part_0 : decode cL_part 0 = .ok (.iload_n 1, 1) := by decide +kernel
theorem dL_part_1 : decode cL_part 1 = .ok (.aload_n 0, 1) := by decide +kernel
theorem dL_part_2 : decode cL_part 2 = .ok (.iconst 0, 1) := by decide +kernel
theorem dL_part_3 : decode cL_part 3 = .ok (.iaload, 1) := by decide +kernel
theorem dL_part_4 : decode cL_part 4 = .ok (.iload_n 2, 1) := by decide +kernel
theorem dL_part_5 : decode cL_part 5 = .ok (.imul, 1) := by decide +kernel
theorem dL_part_6 : decode cL_part 6 = .ok (.isub, 1) := by decide +kernel
theorem dL_part_7 : decode cL_part 7 = .ok (.aload_n 0, 1) := by decide +kernel
theorem dL_part_8 : decode cL_part 8 = .ok (.iconst 0, 1) := by decide +kernel
theorem dL_part_9 : decode cL_part 9 = .ok (.iaload, 1) := by decide +kernel
theorem dL_part_10 : decode cL_part 10 = .ok (.if_icmp .ge 13, 3) := by decide +kernel
theorem dL_part_13 : decode cL_part 13 = .ok (.iload_n 1, 1) := by decide +kernel
theorem dL_part_14 : decode cL_part 14 = .ok (.aload_n 0, 1) := by decide +kernel
theorem dL_part_15 : decode cL_part 15 = .ok (.iconst 0, 1) := by decide +kernel
theorem dL_part_16 : decode cL_part 16 = .ok (.iaload, 1) := by decide +kernel
theorem dL_part_17 : decode cL_part 17 = .ok (.iload_n 2, 1) := by decide +kernel
theorem dL_part_18 : decode cL_part 18 = .ok (.imul, 1) := by decide +kernel
theorem dL_part_19 : decode cL_part 19 = .ok (.isub, 1) := by decide +kernel
theorem dL_part_20 : decode cL_part 20 = .ok (.goto 6, 3) := by decide +kernel
theorem dL_part_23 : decode cL_part 23 = .ok (.aload_n 0, 1) := by decide +kernel
theorem dL_part_24 : decode cL_part 24 = .ok (.iconst 0, 1) := by decide +kernel
theorem dL_part_25 : decode cL_part 25 = .ok (.iaload, 1) := by decide +kernel
theorem dL_part_26 : decode cL_part 26 = .ok (.ireturn, 1) := by decide +kernel
set_option maxRecDepth 20000 in
theorem ggL_need_L_part : GoodIn wsL_need wsL_part := goodIn_r _ [4] (by decide +kernel) (by decide +kernel)
set_option maxRecDepth 20000 in
theorem gL_need_L_part : GoodIn wsL_need (va_wsS RL 19 yL_part wsL_part) := goodIn_app (goodIn_of _ (by decide +kernel)) ggL_need_L_part
theorem dL_need_0 : decode cL_need 0 = .ok (.aload_n 0, 1) := by decide +kernel
theorem dL_need_1 : decode cL_need 1 = .ok (.aload_n 0, 1) := by decide +kernel
theorem dL_need_2 : decode cL_need 2 = .ok (.iconst 1, 1) := by decide +kernel
theorem dL_need_3 : decode cL_need 3 = .ok (.iaload, 1) := by decide +kernel
theorem dL_need_4 : decode cL_need 4 = .ok (.aload_n 0, 1) := by decide +kernel
theorem dL_need_5 : decode cL_need 5 = .ok (.bipush 6, 2) := by decide +kernel
theorem dL_need_7 : decode cL_need 7 = .ok (.iaload, 1) := by decide +kernel
theorem dL_need_8 : decode cL_need 8 = .ok (.invokestatic 19, 3) := by decide +kernel
theorem dL_need_11 : decode cL_need 11 = .ok (.aload_n 0, 1) := by decide +kernel
theorem dL_need_12 : decode cL_need 12 = .ok (.aload_n 0, 1) := by decide +kernel
theorem dL_need_13 : decode cL_need 13 = .ok (.iconst 3, 1) := by decide +kernel
theorem dL_need_14 : decode cL_need 14 = .ok (.iaload, 1) := by decide +kernel
theorem dL_need_15 : decode cL_need 15 = .ok (.aload_n 0, 1) := by decide +kernel
theorem dL_need_16 : decode cL_need 16 = .ok (.bipush 7, 2) := by decide +kernel
theorem dL_need_18 : decode cL_need 18 = .ok (.iaload, 1) := by decide +kernel
theorem dL_need_19 : decode cL_need 19 = .ok (.invokestatic 19, 3) := by decide +kernel
theorem dL_need_22 : decode cL_need 22 = .ok (.iadd, 1) := by decide +kernel
theorem dL_need_23 : decode cL_need 23 = .ok (.aload_n 0, 1) := by decide +kernel
theorem dL_need_24 : decode cL_need 24 = .ok (.iconst 2, 1) := by decide +kernel
theorem dL_need_25 : decode cL_need 25 = .ok (.iaload, 1) := by decide +kernel
theorem dL_need_26 : decode cL_need 26 = .ok (.iadd, 1) := by decide +kernel
theorem dL_need_27 : decode cL_need 27 = .ok (.iconst 2, 1) := by decide +kernel
theorem dL_need_28 : decode cL_need 28 = .ok (.isub, 1) := by decide +kernel
theorem dL_need_29 : decode cL_need 29 = .ok (.ireturn, 1) := by decide +kernel
set_option maxRecDepth 20000 in
theorem ggL_drain_L_part : GoodIn wsL_drain wsL_part := goodIn_r _ [4] (by decide +kernel) (by decide +kernel)
set_option maxRecDepth 20000 in
theorem gL_drain_L_part : GoodIn wsL_drain (va_wsS RL 19 yL_part wsL_part) := goodIn_app (goodIn_of _ (by decide +kernel)) ggL_drain_L_part
set_option maxRecDepth 20000 in
theorem ggL_drain_L_sum : GoodIn wsL_drain wsL_sum := goodIn_r _ [7, 8, 9, 3, 10, 11, 12, 13] (by decide +kernel) (by decide +kernel)
set_option maxRecDepth 20000 in
theorem gL_drain_L_sum : GoodIn wsL_drain (va_wsS RL 23 yL_sum wsL_sum) := goodIn_app (goodIn_of _ (by decide +kernel)) ggL_drain_L_sum
theorem dL_drain_0 : decode cL_drain 0 = .ok (.iconst 0, 1) := by decide +kernel
theorem dL_drain_1 : decode cL_drain 1 = .ok (.istore 8, 2) := by decide +kernel
theorem dL_drain_3 : decode cL_drain 3 = .ok (.iload 8, 2) := by decide +kernel
theorem dL_drain_5 : decode cL_drain 5 = .ok (.aload_n 0, 1) := by decide +kernel
theorem dL_drain_6 : decode cL_drain 6 = .ok (.aload_n 0, 1) := by decide +kernel
theorem dL_drain_7 : decode cL_drain 7 = .ok (.iconst 1, 1) := by decide +kernel
theorem dL_drain_8 : decode cL_drain 8 = .ok (.iaload, 1) := by decide +kernel
theorem dL_drain_9 : decode cL_drain 9 = .ok (.iload 6, 2) := by decide +kernel
theorem dL_drain_11 : decode cL_drain 11 = .ok (.invokestatic 19, 3) := by decide +kernel
theorem dL_drain_14 : decode cL_drain 14 = .ok (.if_icmp .ge 99, 3) := by decide +kernel
theorem dL_drain_17 : decode cL_drain 17 = .ok (.iconst 0, 1) := by decide +kernel
theorem dL_drain_18 : decode cL_drain 18 = .ok (.istore 9, 2) := by decide +kernel
theorem dL_drain_20 : decode cL_drain 20 = .ok (.iload 9, 2) := by decide +kernel
theorem dL_drain_22 : decode cL_drain 22 = .ok (.aload_n 0, 1) := by decide +kernel
theorem dL_drain_23 : decode cL_drain 23 = .ok (.aload_n 0, 1) := by decide +kernel
theorem dL_drain_24 : decode cL_drain 24 = .ok (.iconst 3, 1) := by decide +kernel
theorem dL_drain_25 : decode cL_drain 25 = .ok (.iaload, 1) := by decide +kernel
theorem dL_drain_26 : decode cL_drain 26 = .ok (.iload 7, 2) := by decide +kernel
theorem dL_drain_28 : decode cL_drain 28 = .ok (.invokestatic 19, 3) := by decide +kernel
theorem dL_drain_31 : decode cL_drain 31 = .ok (.if_icmp .ge 76, 3) := by decide +kernel
theorem dL_drain_34 : decode cL_drain 34 = .ok (.aload_n 0, 1) := by decide +kernel
theorem dL_drain_35 : decode cL_drain 35 = .ok (.iconst 0, 1) := by decide +kernel
theorem dL_drain_36 : decode cL_drain 36 = .ok (.iaload, 1) := by decide +kernel
theorem dL_drain_37 : decode cL_drain 37 = .ok (.iload 6, 2) := by decide +kernel
theorem dL_drain_39 : decode cL_drain 39 = .ok (.imul, 1) := by decide +kernel
theorem dL_drain_40 : decode cL_drain 40 = .ok (.iload 8, 2) := by decide +kernel
theorem dL_drain_42 : decode cL_drain 42 = .ok (.iadd, 1) := by decide +kernel
theorem dL_drain_43 : decode cL_drain 43 = .ok (.istore 10, 2) := by decide +kernel
theorem dL_drain_45 : decode cL_drain 45 = .ok (.aload_n 0, 1) := by decide +kernel
theorem dL_drain_46 : decode cL_drain 46 = .ok (.iconst 0, 1) := by decide +kernel
theorem dL_drain_47 : decode cL_drain 47 = .ok (.iaload, 1) := by decide +kernel
theorem dL_drain_48 : decode cL_drain 48 = .ok (.iload 7, 2) := by decide +kernel
theorem dL_drain_50 : decode cL_drain 50 = .ok (.imul, 1) := by decide +kernel
theorem dL_drain_51 : decode cL_drain 51 = .ok (.iload 9, 2) := by decide +kernel
theorem dL_drain_53 : decode cL_drain 53 = .ok (.iadd, 1) := by decide +kernel
theorem dL_drain_54 : decode cL_drain 54 = .ok (.istore 11, 2) := by decide +kernel
theorem dL_drain_56 : decode cL_drain 56 = .ok (.aload 4, 2) := by decide +kernel
theorem dL_drain_58 : decode cL_drain 58 = .ok (.bipush 6, 2) := by decide +kernel
theorem dL_drain_60 : decode cL_drain 60 = .ok (.iload 10, 2) := by decide +kernel
theorem dL_drain_62 : decode cL_drain 62 = .ok (.imul, 1) := by decide +kernel
theorem dL_drain_63 : decode cL_drain 63 = .ok (.iload 11, 2) := by decide +kernel
theorem dL_drain_65 : decode cL_drain 65 = .ok (.iadd, 1) := by decide +kernel
theorem dL_drain_66 : decode cL_drain 66 = .ok (.aload_n 0, 1) := by decide +kernel
theorem dL_drain_67 : decode cL_drain 67 = .ok (.aload_n 1, 1) := by decide +kernel
theorem dL_drain_68 : decode cL_drain 68 = .ok (.aload_n 2, 1) := by decide +kernel
theorem dL_drain_69 : decode cL_drain 69 = .ok (.aload_n 3, 1) := by decide +kernel
theorem dL_drain_70 : decode cL_drain 70 = .ok (.iload 10, 2) := by decide +kernel
theorem dL_drain_72 : decode cL_drain 72 = .ok (.iload 11, 2) := by decide +kernel
theorem dL_drain_74 : decode cL_drain 74 = .ok (.aload_n 0, 1) := by decide +kernel
theorem dL_drain_75 : decode cL_drain 75 = .ok (.iconst 4, 1) := by decide +kernel
theorem dL_drain_76 : decode cL_drain 76 = .ok (.iaload, 1) := by decide +kernel
theorem dL_drain_77 : decode cL_drain 77 = .ok (.aload_n 0, 1) := by decide +kernel
theorem dL_drain_78 : decode cL_drain 78 = .ok (.iconst 2, 1) := by decide +kernel
theorem dL_drain_79 : decode cL_drain 79 = .ok (.iaload, 1) := by decide +kernel
theorem dL_drain_80 : decode cL_drain 80 = .ok (.invokestatic 23, 3) := by decide +kernel
theorem dL_drain_83 : decode cL_drain 83 = .ok (.iastore, 1) := by decide +kernel
theorem dL_drain_84 : decode cL_drain 84 = .ok (.aload 5, 2) := by decide +kernel
theorem dL_drain_86 : decode cL_drain 86 = .ok (.iconst 0, 1) := by decide +kernel
theorem dL_drain_87 : decode cL_drain 87 = .ok (.dup2, 1) := by decide +kernel
theorem dL_drain_88 : decode cL_drain 88 = .ok (.laload, 1) := by decide +kernel
theorem dL_drain_89 : decode cL_drain 89 = .ok (.lconst 1, 1) := by decide +kernel
theorem dL_drain_90 : decode cL_drain 90 = .ok (.bipush 6, 2) := by decide +kernel
theorem dL_drain_92 : decode cL_drain 92 = .ok (.iload 10, 2) := by decide +kernel
theorem dL_drain_94 : decode cL_drain 94 = .ok (.imul, 1) := by decide +kernel
theorem dL_drain_95 : decode cL_drain 95 = .ok (.iload 11, 2) := by decide +kernel
theorem dL_drain_97 : decode cL_drain 97 = .ok (.iadd, 1) := by decide +kernel
theorem dL_drain_98 : decode cL_drain 98 = .ok (.lshl, 1) := by decide +kernel
theorem dL_drain_99 : decode cL_drain 99 = .ok (.lor, 1) := by decide +kernel
theorem dL_drain_100 : decode cL_drain 100 = .ok (.lastore, 1) := by decide +kernel
theorem dL_drain_101 : decode cL_drain 101 = .ok (.iinc 9 1, 3) := by decide +kernel
theorem dL_drain_104 : decode cL_drain 104 = .ok (.goto (-84), 3) := by decide +kernel
theorem dL_drain_107 : decode cL_drain 107 = .ok (.iinc 8 1, 3) := by decide +kernel
theorem dL_drain_110 : decode cL_drain 110 = .ok (.goto (-107), 3) := by decide +kernel
theorem dL_drain_113 : decode cL_drain 113 = .ok (.return_, 1) := by decide +kernel
theorem dL_ones_0 : decode cL_ones 0 = .ok (.iconst 0, 1) := by decide +kernel
theorem dL_ones_1 : decode cL_ones 1 = .ok (.istore_n 2, 1) := by decide +kernel
theorem dL_ones_2 : decode cL_ones 2 = .ok (.lload_n 0, 1) := by decide +kernel
theorem dL_ones_3 : decode cL_ones 3 = .ok (.lstore_n 3, 1) := by decide +kernel
theorem dL_ones_4 : decode cL_ones 4 = .ok (.lload_n 3, 1) := by decide +kernel
theorem dL_ones_5 : decode cL_ones 5 = .ok (.lconst 0, 1) := by decide +kernel
theorem dL_ones_6 : decode cL_ones 6 = .ok (.lcmp, 1) := by decide +kernel
theorem dL_ones_7 : decode cL_ones 7 = .ok (.ifCond .eq 15, 3) := by decide +kernel
theorem dL_ones_10 : decode cL_ones 10 = .ok (.iinc 2 1, 3) := by decide +kernel
theorem dL_ones_13 : decode cL_ones 13 = .ok (.lload_n 3, 1) := by decide +kernel
theorem dL_ones_14 : decode cL_ones 14 = .ok (.lload_n 3, 1) := by decide +kernel
theorem dL_ones_15 : decode cL_ones 15 = .ok (.lconst 1, 1) := by decide +kernel
theorem dL_ones_16 : decode cL_ones 16 = .ok (.lsub, 1) := by decide +kernel
theorem dL_ones_17 : decode cL_ones 17 = .ok (.land, 1) := by decide +kernel
theorem dL_ones_18 : decode cL_ones 18 = .ok (.lstore_n 3, 1) := by decide +kernel
theorem dL_ones_19 : decode cL_ones 19 = .ok (.goto (-15), 3) := by decide +kernel
theorem dL_ones_22 : decode cL_ones 22 = .ok (.iload_n 2, 1) := by decide +kernel
theorem dL_ones_23 : decode cL_ones 23 = .ok (.ireturn, 1) := by decide +kernel
set_option maxRecDepth 20000 in
theorem ggL_types_X6_type : GoodIn wsL_types wsX6_type := goodIn_r _ [5, 6, 7, 8, 9, 10, 11, 12, 13, 14, 15, 16, 17, 18, 19, 20, 21, 22, 23, 24, 25, 26, 27, 28, 29, 30, 31] (by decide +kernel) (by decide +kernel)
set_option maxRecDepth 20000 in
theorem gL_types_X6_type : GoodIn wsL_types (wsV RL 27 RX6 yX6_type wsX6_type) := goodIn_app (goodIn_of _ (by decide +kernel)) ggL_types_X6_type
theorem dL_types_0 : decode cL_types 0 = .ok (.iload_n 1, 1) := by decide +kernel
theorem dL_types_1 : decode cL_types 1 = .ok (.ifCond .ge 12, 3) := by decide +kernel
theorem dL_types_4 : decode cL_types 4 = .ok (.aload_n 0, 1) := by decide +kernel
theorem dL_types_5 : decode cL_types 5 = .ok (.bipush 45, 2) := by decide +kernel
theorem dL_types_7 : decode cL_types 7 = .ok (.invokevirtual 27, 3) := by decide +kernel
theorem dL_types_10 : decode cL_types 10 = .ok (.ifCond .le 7, 3) := by decide +kernel
theorem dL_types_13 : decode cL_types 13 = .ok (.iconst 1, 1) := by decide +kernel
theorem dL_types_14 : decode cL_types 14 = .ok (.goto 4, 3) := by decide +kernel
theorem dL_types_17 : decode cL_types 17 = .ok (.iconst 0, 1) := by decide +kernel
theorem dL_types_18 : decode cL_types 18 = .ok (.istore_n 2, 1) := by decide +kernel
theorem dL_types_19 : decode cL_types 19 = .ok (.iload_n 1, 1) := by decide +kernel
theorem dL_types_20 : decode cL_types 20 = .ok (.ifCond .ge 8, 3) := by decide +kernel
theorem dL_types_23 : decode cL_types 23 = .ok (.iload_n 1, 1) := by decide +kernel
theorem dL_types_24 : decode cL_types 24 = .ok (.ineg, 1) := by decide +kernel
theorem dL_types_25 : decode cL_types 25 = .ok (.goto 4, 3) := by decide +kernel
theorem dL_types_28 : decode cL_types 28 = .ok (.iload_n 1, 1) := by decide +kernel
theorem dL_types_29 : decode cL_types 29 = .ok (.istore_n 3, 1) := by decide +kernel
theorem dL_types_30 : decode cL_types 30 = .ok (.iload_n 2, 1) := by decide +kernel
theorem dL_types_31 : decode cL_types 31 = .ok (.ifCond .eq 41, 3) := by decide +kernel
theorem dL_types_34 : decode cL_types 34 = .ok (.iload_n 3, 1) := by decide +kernel
theorem dL_types_35 : decode cL_types 35 = .ok (.bipush 10, 2) := by decide +kernel
theorem dL_types_37 : decode cL_types 37 = .ok (.if_icmp .lt 17, 3) := by decide +kernel
theorem dL_types_40 : decode cL_types 40 = .ok (.aload_n 0, 1) := by decide +kernel
theorem dL_types_41 : decode cL_types 41 = .ok (.bipush 48, 2) := by decide +kernel
theorem dL_types_43 : decode cL_types 43 = .ok (.iload_n 3, 1) := by decide +kernel
theorem dL_types_44 : decode cL_types 44 = .ok (.bipush 10, 2) := by decide +kernel
theorem dL_types_46 : decode cL_types 46 = .ok (.idiv, 1) := by decide +kernel
theorem dL_types_47 : decode cL_types 47 = .ok (.iadd, 1) := by decide +kernel
theorem dL_types_48 : decode cL_types 48 = .ok (.invokevirtual 27, 3) := by decide +kernel
theorem dL_types_51 : decode cL_types 51 = .ok (.ifCond .le 21, 3) := by decide +kernel
theorem dL_types_54 : decode cL_types 54 = .ok (.aload_n 0, 1) := by decide +kernel
theorem dL_types_55 : decode cL_types 55 = .ok (.bipush 48, 2) := by decide +kernel
theorem dL_types_57 : decode cL_types 57 = .ok (.iload_n 3, 1) := by decide +kernel
theorem dL_types_58 : decode cL_types 58 = .ok (.bipush 10, 2) := by decide +kernel
theorem dL_types_60 : decode cL_types 60 = .ok (.irem, 1) := by decide +kernel
theorem dL_types_61 : decode cL_types 61 = .ok (.iadd, 1) := by decide +kernel
theorem dL_types_62 : decode cL_types 62 = .ok (.invokevirtual 27, 3) := by decide +kernel
theorem dL_types_65 : decode cL_types 65 = .ok (.ifCond .le 7, 3) := by decide +kernel
theorem dL_types_68 : decode cL_types 68 = .ok (.iconst 1, 1) := by decide +kernel
theorem dL_types_69 : decode cL_types 69 = .ok (.goto 4, 3) := by decide +kernel
theorem dL_types_72 : decode cL_types 72 = .ok (.iconst 0, 1) := by decide +kernel
theorem dL_types_73 : decode cL_types 73 = .ok (.ireturn, 1) := by decide +kernel
