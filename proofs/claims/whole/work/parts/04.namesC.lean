theorem dX7_init_0 : decode cX7_init 0 = .ok (.aload_n 0, 1) := by decide +kernel
theorem dX7_init_1 : decode cX7_init 1 = .ok (.invokespecial 1, 3) := by decide +kernel
theorem dX7_init_4 : decode cX7_init 4 = .ok (.aload_n 0, 1) := by decide +kernel
theorem dX7_init_5 : decode cX7_init 5 = .ok (.sipush 269, 3) := by decide +kernel
theorem dX7_init_8 : decode cX7_init 8 = .ok (.newarray .int, 2) := by decide +kernel
theorem dX7_init_10 : decode cX7_init 10 = .ok (.putfield 7, 3) := by decide +kernel
theorem dX7_init_13 : decode cX7_init 13 = .ok (.aload_n 0, 1) := by decide +kernel
theorem dX7_init_14 : decode cX7_init 14 = .ok (.sipush 1076, 3) := by decide +kernel
theorem dX7_init_17 : decode cX7_init 17 = .ok (.newarray .int, 2) := by decide +kernel
theorem dX7_init_19 : decode cX7_init 19 = .ok (.putfield 13, 3) := by decide +kernel
theorem dX7_init_22 : decode cX7_init 22 = .ok (.aload_n 0, 1) := by decide +kernel
theorem dX7_init_23 : decode cX7_init 23 = .ok (.sipush 269, 3) := by decide +kernel
theorem dX7_init_26 : decode cX7_init 26 = .ok (.newarray .int, 2) := by decide +kernel
theorem dX7_init_28 : decode cX7_init 28 = .ok (.putfield 16, 3) := by decide +kernel
theorem dX7_init_31 : decode cX7_init 31 = .ok (.aload_n 0, 1) := by decide +kernel
theorem dX7_init_32 : decode cX7_init 32 = .ok (.bipush 80, 2) := by decide +kernel
theorem dX7_init_34 : decode cX7_init 34 = .ok (.newarray .int, 2) := by decide +kernel
theorem dX7_init_36 : decode cX7_init 36 = .ok (.putfield 19, 3) := by decide +kernel
theorem dX7_init_39 : decode cX7_init 39 = .ok (.aload_n 0, 1) := by decide +kernel
theorem dX7_init_40 : decode cX7_init 40 = .ok (.bipush 36, 2) := by decide +kernel
theorem dX7_init_42 : decode cX7_init 42 = .ok (.newarray .int, 2) := by decide +kernel
theorem dX7_init_44 : decode cX7_init 44 = .ok (.putfield 22, 3) := by decide +kernel
theorem dX7_init_47 : decode cX7_init 47 = .ok (.aload_n 0, 1) := by decide +kernel
theorem dX7_init_48 : decode cX7_init 48 = .ok (.getfield 7, 3) := by decide +kernel
theorem dX7_init_51 : decode cX7_init 51 = .ok (.iconst 0, 1) := by decide +kernel
theorem dX7_init_52 : decode cX7_init 52 = .ok (.iconst 2, 1) := by decide +kernel
theorem dX7_init_53 : decode cX7_init 53 = .ok (.iastore, 1) := by decide +kernel
theorem dX7_init_54 : decode cX7_init 54 = .ok (.aload_n 0, 1) := by decide +kernel
theorem dX7_init_55 : decode cX7_init 55 = .ok (.getfield 7, 3) := by decide +kernel
theorem dX7_init_58 : decode cX7_init 58 = .ok (.iconst 1, 1) := by decide +kernel
theorem dX7_init_59 : decode cX7_init 59 = .ok (.iconst 2, 1) := by decide +kernel
theorem dX7_init_60 : decode cX7_init 60 = .ok (.iastore, 1) := by decide +kernel
theorem dX7_init_61 : decode cX7_init 61 = .ok (.aload_n 0, 1) := by decide +kernel
theorem dX7_init_62 : decode cX7_init 62 = .ok (.getfield 7, 3) := by decide +kernel
theorem dX7_init_65 : decode cX7_init 65 = .ok (.iconst 2, 1) := by decide +kernel
theorem dX7_init_66 : decode cX7_init 66 = .ok (.iconst 2, 1) := by decide +kernel
theorem dX7_init_67 : decode cX7_init 67 = .ok (.iastore, 1) := by decide +kernel
theorem dX7_init_68 : decode cX7_init 68 = .ok (.aload_n 0, 1) := by decide +kernel
theorem dX7_init_69 : decode cX7_init 69 = .ok (.getfield 7, 3) := by decide +kernel
theorem dX7_init_72 : decode cX7_init 72 = .ok (.iconst 3, 1) := by decide +kernel
theorem dX7_init_73 : decode cX7_init 73 = .ok (.iconst 2, 1) := by decide +kernel
theorem dX7_init_74 : decode cX7_init 74 = .ok (.iastore, 1) := by decide +kernel
theorem dX7_init_75 : decode cX7_init 75 = .ok (.aload_n 0, 1) := by decide +kernel
theorem dX7_init_76 : decode cX7_init 76 = .ok (.getfield 7, 3) := by decide +kernel
theorem dX7_init_79 : decode cX7_init 79 = .ok (.iconst 4, 1) := by decide +kernel
theorem dX7_init_80 : decode cX7_init 80 = .ok (.iconst 2, 1) := by decide +kernel
theorem dX7_init_81 : decode cX7_init 81 = .ok (.iastore, 1) := by decide +kernel
theorem dX7_init_82 : decode cX7_init 82 = .ok (.return_, 1) := by decide +kernel
theorem dX7_in_0 : decode cX7_in 0 = .ok (.iload_n 0, 1) := by decide +kernel
theorem dX7_in_1 : decode cX7_in 1 = .ok (.iload_n 1, 1) := by decide +kernel
theorem dX7_in_2 : decode cX7_in 2 = .ok (.if_icmp .lt 12, 3) := by decide +kernel
theorem dX7_in_5 : decode cX7_in 5 = .ok (.iload_n 0, 1) := by decide +kernel
theorem dX7_in_6 : decode cX7_in 6 = .ok (.iload_n 2, 1) := by decide +kernel
theorem dX7_in_7 : decode cX7_in 7 = .ok (.if_icmp .gt 7, 3) := by decide +kernel
theorem dX7_in_10 : decode cX7_in 10 = .ok (.iconst 1, 1) := by decide +kernel
theorem dX7_in_11 : decode cX7_in 11 = .ok (.goto 4, 3) := by decide +kernel
theorem dX7_in_14 : decode cX7_in 14 = .ok (.iconst 0, 1) := by decide +kernel
theorem dX7_in_15 : decode cX7_in 15 = .ok (.ireturn, 1) := by decide +kernel
theorem dX7_changes_0 : decode cX7_changes 0 = .ok (.aload_n 0, 1) := by decide +kernel
theorem dX7_changes_1 : decode cX7_changes 1 = .ok (.getfield 25, 3) := by decide +kernel
theorem dX7_changes_4 : decode cX7_changes 4 = .ok (.iconst 4, 1) := by decide +kernel
theorem dX7_changes_5 : decode cX7_changes 5 = .ok (.if_icmp .ne 44, 3) := by decide +kernel
theorem dX7_changes_8 : decode cX7_changes 8 = .ok (.iconst 0, 1) := by decide +kernel
theorem dX7_changes_9 : decode cX7_changes 9 = .ok (.istore_n 1, 1) := by decide +kernel
theorem dX7_changes_10 : decode cX7_changes 10 = .ok (.iload_n 1, 1) := by decide +kernel
theorem dX7_changes_11 : decode cX7_changes 11 = .ok (.sipush 807, 3) := by decide +kernel
theorem dX7_changes_14 : decode cX7_changes 14 = .ok (.if_icmp .ge 25, 3) := by decide +kernel
theorem dX7_changes_17 : decode cX7_changes 17 = .ok (.aload_n 0, 1) := by decide +kernel
theorem dX7_changes_18 : decode cX7_changes 18 = .ok (.getfield 13, 3) := by decide +kernel
theorem dX7_changes_21 : decode cX7_changes 21 = .ok (.iload_n 1, 1) := by decide +kernel
theorem dX7_changes_22 : decode cX7_changes 22 = .ok (.aload_n 0, 1) := by decide +kernel
theorem dX7_changes_23 : decode cX7_changes 23 = .ok (.getfield 13, 3) := by decide +kernel
theorem dX7_changes_26 : decode cX7_changes 26 = .ok (.iload_n 1, 1) := by decide +kernel
theorem dX7_changes_27 : decode cX7_changes 27 = .ok (.sipush 269, 3) := by decide +kernel
theorem dX7_changes_30 : decode cX7_changes 30 = .ok (.iadd, 1) := by decide +kernel
theorem dX7_changes_31 : decode cX7_changes 31 = .ok (.iaload, 1) := by decide +kernel
theorem dX7_changes_32 : decode cX7_changes 32 = .ok (.iastore, 1) := by decide +kernel
theorem dX7_changes_33 : decode cX7_changes 33 = .ok (.iinc 1 1, 3) := by decide +kernel
theorem dX7_changes_36 : decode cX7_changes 36 = .ok (.goto (-26), 3) := by decide +kernel
theorem dX7_changes_39 : decode cX7_changes 39 = .ok (.aload_n 0, 1) := by decide +kernel
theorem dX7_changes_40 : decode cX7_changes 40 = .ok (.dup, 1) := by decide +kernel
theorem dX7_changes_41 : decode cX7_changes 41 = .ok (.getfield 25, 3) := by decide +kernel
theorem dX7_changes_44 : decode cX7_changes 44 = .ok (.iconst 1, 1) := by decide +kernel
theorem dX7_changes_45 : decode cX7_changes 45 = .ok (.isub, 1) := by decide +kernel
theorem dX7_changes_46 : decode cX7_changes 46 = .ok (.putfield 25, 3) := by decide +kernel
theorem dX7_changes_49 : decode cX7_changes 49 = .ok (.iconst 0, 1) := by decide +kernel
theorem dX7_changes_50 : decode cX7_changes 50 = .ok (.istore_n 1, 1) := by decide +kernel
theorem dX7_changes_51 : decode cX7_changes 51 = .ok (.iload_n 1, 1) := by decide +kernel
theorem dX7_changes_52 : decode cX7_changes 52 = .ok (.sipush 269, 3) := by decide +kernel
theorem dX7_changes_55 : decode cX7_changes 55 = .ok (.if_icmp .ge 30, 3) := by decide +kernel
theorem dX7_changes_58 : decode cX7_changes 58 = .ok (.aload_n 0, 1) := by decide +kernel
theorem dX7_changes_59 : decode cX7_changes 59 = .ok (.getfield 13, 3) := by decide +kernel
theorem dX7_changes_62 : decode cX7_changes 62 = .ok (.sipush 269, 3) := by decide +kernel
theorem dX7_changes_65 : decode cX7_changes 65 = .ok (.aload_n 0, 1) := by decide +kernel
theorem dX7_changes_66 : decode cX7_changes 66 = .ok (.getfield 25, 3) := by decide +kernel
theorem dX7_changes_69 : decode cX7_changes 69 = .ok (.imul, 1) := by decide +kernel
theorem dX7_changes_70 : decode cX7_changes 70 = .ok (.iload_n 1, 1) := by decide +kernel
theorem dX7_changes_71 : decode cX7_changes 71 = .ok (.iadd, 1) := by decide +kernel
theorem dX7_changes_72 : decode cX7_changes 72 = .ok (.aload_n 0, 1) := by decide +kernel
theorem dX7_changes_73 : decode cX7_changes 73 = .ok (.getfield 7, 3) := by decide +kernel
theorem dX7_changes_76 : decode cX7_changes 76 = .ok (.iload_n 1, 1) := by decide +kernel
theorem dX7_changes_77 : decode cX7_changes 77 = .ok (.iaload, 1) := by decide +kernel
theorem dX7_changes_78 : decode cX7_changes 78 = .ok (.iastore, 1) := by decide +kernel
theorem dX7_changes_79 : decode cX7_changes 79 = .ok (.iinc 1 1, 3) := by decide +kernel
theorem dX7_changes_82 : decode cX7_changes 82 = .ok (.goto (-31), 3) := by decide +kernel
theorem dX7_changes_85 : decode cX7_changes 85 = .ok (.aload_n 0, 1) := by decide +kernel
theorem dX7_changes_86 : decode cX7_changes 86 = .ok (.dup, 1) := by decide +kernel
theorem dX7_changes_87 : decode cX7_changes 87 = .ok (.getfield 25, 3) := by decide +kernel
theorem dX7_changes_90 : decode cX7_changes 90 = .ok (.iconst 1, 1) := by decide +kernel
theorem dX7_changes_91 : decode cX7_changes 91 = .ok (.iadd, 1) := by decide +kernel
theorem dX7_changes_92 : decode cX7_changes 92 = .ok (.putfield 25, 3) := by decide +kernel
theorem dX7_changes_95 : decode cX7_changes 95 = .ok (.return_, 1) := by decide +kernel
theorem dX7_clears_0 : decode cX7_clears 0 = .ok (.iconst 0, 1) := by decide +kernel
theorem dX7_clears_1 : decode cX7_clears 1 = .ok (.istore_n 3, 1) := by decide +kernel
theorem dX7_clears_2 : decode cX7_clears 2 = .ok (.iload_n 3, 1) := by decide +kernel
theorem dX7_clears_3 : decode cX7_clears 3 = .ok (.iload_n 2, 1) := by decide +kernel
theorem dX7_clears_4 : decode cX7_clears 4 = .ok (.if_icmp .ge 18, 3) := by decide +kernel
theorem dX7_clears_7 : decode cX7_clears 7 = .ok (.aload_n 0, 1) := by decide +kernel
theorem dX7_clears_8 : decode cX7_clears 8 = .ok (.getfield 7, 3) := by decide +kernel
theorem dX7_clears_11 : decode cX7_clears 11 = .ok (.iload_n 1, 1) := by decide +kernel
theorem dX7_clears_12 : decode cX7_clears 12 = .ok (.iload_n 3, 1) := by decide +kernel
theorem dX7_clears_13 : decode cX7_clears 13 = .ok (.iadd, 1) := by decide +kernel
theorem dX7_clears_14 : decode cX7_clears 14 = .ok (.iconst 0, 1) := by decide +kernel
theorem dX7_clears_15 : decode cX7_clears 15 = .ok (.iastore, 1) := by decide +kernel
theorem dX7_clears_16 : decode cX7_clears 16 = .ok (.iinc 3 1, 3) := by decide +kernel
theorem dX7_clears_19 : decode cX7_clears 19 = .ok (.goto (-17), 3) := by decide +kernel
theorem dX7_clears_22 : decode cX7_clears 22 = .ok (.return_, 1) := by decide +kernel
theorem dX7_along_0 : decode cX7_along 0 = .ok (.iload_n 1, 1) := by decide +kernel
theorem dX7_along_1 : decode cX7_along 1 = .ok (.aload_n 0, 1) := by decide +kernel
theorem dX7_along_2 : decode cX7_along 2 = .ok (.getfield 7, 3) := by decide +kernel
theorem dX7_along_5 : decode cX7_along 5 = .ok (.iconst 0, 1) := by decide +kernel
theorem dX7_along_6 : decode cX7_along 6 = .ok (.iaload, 1) := by decide +kernel
theorem dX7_along_7 : decode cX7_along 7 = .ok (.iadd, 1) := by decide +kernel
theorem dX7_along_8 : decode cX7_along 8 = .ok (.iconst 1, 1) := by decide +kernel
theorem dX7_along_9 : decode cX7_along 9 = .ok (.isub, 1) := by decide +kernel
theorem dX7_along_10 : decode cX7_along 10 = .ok (.aload_n 0, 1) := by decide +kernel
theorem dX7_along_11 : decode cX7_along 11 = .ok (.getfield 7, 3) := by decide +kernel
theorem dX7_along_14 : decode cX7_along 14 = .ok (.iconst 0, 1) := by decide +kernel
theorem dX7_along_15 : decode cX7_along 15 = .ok (.iaload, 1) := by decide +kernel
theorem dX7_along_16 : decode cX7_along 16 = .ok (.idiv, 1) := by decide +kernel
theorem dX7_along_17 : decode cX7_along 17 = .ok (.ireturn, 1) := by decide +kernel
set_option maxRecDepth 20000 in
theorem ggX7_tiles_X7_along : GoodIn wsX7_tiles wsX7_along := goodIn_r _ [6, 1, 7, 8, 9, 10, 11, 12, 13, 14, 15, 16, 17, 18, 19, 20, 21, 22] (by decide +kernel) (by decide +kernel)
set_option maxRecDepth 20000 in
theorem gX7_tiles_X7_along : GoodIn wsX7_tiles (wsV RX7 29 RX7 yX7_along wsX7_along) := goodIn_app (goodIn_of _ (by decide +kernel)) ggX7_tiles_X7_along
theorem dX7_tiles_0 : decode cX7_tiles 0 = .ok (.aload_n 0, 1) := by decide +kernel
theorem dX7_tiles_1 : decode cX7_tiles 1 = .ok (.aload_n 0, 1) := by decide +kernel
theorem dX7_tiles_2 : decode cX7_tiles 2 = .ok (.getfield 7, 3) := by decide +kernel
theorem dX7_tiles_5 : decode cX7_tiles 5 = .ok (.iconst 1, 1) := by decide +kernel
theorem dX7_tiles_6 : decode cX7_tiles 6 = .ok (.iaload, 1) := by decide +kernel
theorem dX7_tiles_7 : decode cX7_tiles 7 = .ok (.invokevirtual 29, 3) := by decide +kernel
theorem dX7_tiles_10 : decode cX7_tiles 10 = .ok (.aload_n 0, 1) := by decide +kernel
theorem dX7_tiles_11 : decode cX7_tiles 11 = .ok (.aload_n 0, 1) := by decide +kernel
theorem dX7_tiles_12 : decode cX7_tiles 12 = .ok (.getfield 7, 3) := by decide +kernel
theorem dX7_tiles_15 : decode cX7_tiles 15 = .ok (.iconst 3, 1) := by decide +kernel
theorem dX7_tiles_16 : decode cX7_tiles 16 = .ok (.iaload, 1) := by decide +kernel
theorem dX7_tiles_17 : decode cX7_tiles 17 = .ok (.invokevirtual 29, 3) := by decide +kernel
theorem dX7_tiles_20 : decode cX7_tiles 20 = .ok (.imul, 1) := by decide +kernel
theorem dX7_tiles_21 : decode cX7_tiles 21 = .ok (.ireturn, 1) := by decide +kernel
set_option maxRecDepth 20000 in
theorem ggX7_side_X7_in : GoodIn wsX7_side wsX7_in := goodIn_r _ [6] (by decide +kernel) (by decide +kernel)
set_option maxRecDepth 20000 in
theorem gX7_side_X7_in : GoodIn wsX7_side (va_wsS RX7 33 yX7_in wsX7_in) := goodIn_app (goodIn_of _ (by decide +kernel)) ggX7_side_X7_in
set_option maxRecDepth 20000 in
theorem ggX7_side_X7_changes : GoodIn wsX7_side wsX7_changes := goodIn_r _ [10, 11, 12, 2, 17, 18, 19, 20, 21, 22, 23, 24, 25, 26, 27, 28, 29, 30, 31, 32] (by decide +kernel) (by decide +kernel)
set_option maxRecDepth 20000 in
theorem gX7_side_X7_changes : GoodIn wsX7_side (wsV RX7 38 RX7 yX7_changes wsX7_changes) := goodIn_app (goodIn_of _ (by decide +kernel)) ggX7_side_X7_changes
set_option maxRecDepth 20000 in
theorem ggX7_side_X7_clears : GoodIn wsX7_side wsX7_clears := goodIn_r _ [16, 2, 17, 18, 19, 20, 21, 22, 23, 24, 25, 26, 27, 28, 29, 30, 31, 32] (by decide +kernel) (by decide +kernel)
set_option maxRecDepth 20000 in
theorem gX7_side_X7_clears : GoodIn wsX7_side (wsV RX7 41 RX7 yX7_clears wsX7_clears) := goodIn_app (goodIn_of _ (by decide +kernel)) ggX7_side_X7_clears
theorem dX7_side_0 : decode cX7_side 0 = .ok (.iload_n 1, 1) := by decide +kernel
theorem dX7_side_1 : decode cX7_side 1 = .ok (.iconst 1, 1) := by decide +kernel
theorem dX7_side_2 : decode cX7_side 2 = .ok (.iconst 4, 1) := by decide +kernel
theorem dX7_side_3 : decode cX7_side 3 = .ok (.invokestatic 33, 3) := by decide +kernel
theorem dX7_side_6 : decode cX7_side 6 = .ok (.ifCond .ne 6, 3) := by decide +kernel
theorem dX7_side_9 : decode cX7_side 9 = .ok (.ldc 37, 2) := by decide +kernel
theorem dX7_side_11 : decode cX7_side 11 = .ok (.ireturn, 1) := by decide +kernel
theorem dX7_side_12 : decode cX7_side 12 = .ok (.aload_n 0, 1) := by decide +kernel
theorem dX7_side_13 : decode cX7_side 13 = .ok (.invokevirtual 38, 3) := by decide +kernel
theorem dX7_side_16 : decode cX7_side 16 = .ok (.aload_n 0, 1) := by decide +kernel
theorem dX7_side_17 : decode cX7_side 17 = .ok (.getfield 7, 3) := by decide +kernel
theorem dX7_side_20 : decode cX7_side 20 = .ok (.iconst 0, 1) := by decide +kernel
theorem dX7_side_21 : decode cX7_side 21 = .ok (.iaload, 1) := by decide +kernel
theorem dX7_side_22 : decode cX7_side 22 = .ok (.istore_n 2, 1) := by decide +kernel
theorem dX7_side_23 : decode cX7_side 23 = .ok (.aload_n 0, 1) := by decide +kernel
theorem dX7_side_24 : decode cX7_side 24 = .ok (.getfield 7, 3) := by decide +kernel
theorem dX7_side_27 : decode cX7_side 27 = .ok (.iconst 0, 1) := by decide +kernel
theorem dX7_side_28 : decode cX7_side 28 = .ok (.iload_n 1, 1) := by decide +kernel
theorem dX7_side_29 : decode cX7_side 29 = .ok (.iastore, 1) := by decide +kernel
theorem dX7_side_30 : decode cX7_side 30 = .ok (.aload_n 0, 1) := by decide +kernel
theorem dX7_side_31 : decode cX7_side 31 = .ok (.getfield 7, 3) := by decide +kernel
theorem dX7_side_34 : decode cX7_side 34 = .ok (.iconst 4, 1) := by decide +kernel
theorem dX7_side_35 : decode cX7_side 35 = .ok (.iload_n 1, 1) := by decide +kernel
theorem dX7_side_36 : decode cX7_side 36 = .ok (.iastore, 1) := by decide +kernel
theorem dX7_side_37 : decode cX7_side 37 = .ok (.aload_n 0, 1) := by decide +kernel
theorem dX7_side_38 : decode cX7_side 38 = .ok (.getfield 7, 3) := by decide +kernel
theorem dX7_side_41 : decode cX7_side 41 = .ok (.iconst 5, 1) := by decide +kernel
theorem dX7_side_42 : decode cX7_side 42 = .ok (.iconst 0, 1) := by decide +kernel
theorem dX7_side_43 : decode cX7_side 43 = .ok (.iastore, 1) := by decide +kernel
theorem dX7_side_44 : decode cX7_side 44 = .ok (.aload_n 0, 1) := by decide +kernel
theorem dX7_side_45 : decode cX7_side 45 = .ok (.sipush 153, 3) := by decide +kernel
theorem dX7_side_48 : decode cX7_side 48 = .ok (.bipush 20, 2) := by decide +kernel
theorem dX7_side_50 : decode cX7_side 50 = .ok (.invokevirtual 41, 3) := by decide +kernel
theorem dX7_side_53 : decode cX7_side 53 = .ok (.aload_n 0, 1) := by decide +kernel
theorem dX7_side_54 : decode cX7_side 54 = .ok (.bipush 117, 2) := by decide +kernel
theorem dX7_side_56 : decode cX7_side 56 = .ok (.bipush 36, 2) := by decide +kernel
theorem dX7_side_58 : decode cX7_side 58 = .ok (.invokevirtual 41, 3) := by decide +kernel
theorem dX7_side_61 : decode cX7_side 61 = .ok (.iload_n 2, 1) := by decide +kernel
theorem dX7_side_62 : decode cX7_side 62 = .ok (.ireturn, 1) := by decide +kernel
set_option maxRecDepth 20000 in
theorem ggX7_shape_X7_in : GoodIn wsX7_shape wsX7_in := goodIn_r _ [6] (by decide +kernel) (by decide +kernel)
set_option maxRecDepth 20000 in
theorem gX7_shape_X7_in : GoodIn wsX7_shape (va_wsS RX7 33 yX7_in wsX7_in) := goodIn_app (goodIn_of _ (by decide +kernel)) ggX7_shape_X7_in
set_option maxRecDepth 20000 in
theorem ggX7_shape_X7_changes : GoodIn wsX7_shape wsX7_changes := goodIn_r _ [10, 11, 12, 2, 25, 26, 27, 28, 29, 30, 31, 32, 33, 34, 35, 36, 37, 38, 39, 40] (by decide +kernel) (by decide +kernel)
set_option maxRecDepth 20000 in
theorem gX7_shape_X7_changes : GoodIn wsX7_shape (wsV RX7 38 RX7 yX7_changes wsX7_changes) := goodIn_app (goodIn_of _ (by decide +kernel)) ggX7_shape_X7_changes
set_option maxRecDepth 20000 in
theorem ggX7_shape_X7_clears : GoodIn wsX7_shape wsX7_clears := goodIn_r _ [16, 2, 25, 26, 27, 28, 29, 30, 31, 32, 33, 34, 35, 36, 37, 38, 39, 40] (by decide +kernel) (by decide +kernel)
set_option maxRecDepth 20000 in
theorem gX7_shape_X7_clears : GoodIn wsX7_shape (wsV RX7 41 RX7 yX7_clears wsX7_clears) := goodIn_app (goodIn_of _ (by decide +kernel)) ggX7_shape_X7_clears
set_option maxRecDepth 20000 in
theorem ggX7_shape_X7_tiles : GoodIn wsX7_shape wsX7_tiles := goodIn_r _ [20, 2, 21, 22, 23, 5, 24, 25, 26, 27, 28, 29, 30, 31, 32, 33, 34, 35, 36, 37, 38, 39, 40] (by decide +kernel) (by decide +kernel)
set_option maxRecDepth 20000 in
theorem gX7_shape_X7_tiles : GoodIn wsX7_shape (wsV RX7 45 RX7 yX7_tiles wsX7_tiles) := goodIn_app (goodIn_of _ (by decide +kernel)) ggX7_shape_X7_tiles
theorem dX7_shape_0 : decode cX7_shape 0 = .ok (.iload_n 1, 1) := by decide +kernel
theorem dX7_shape_1 : decode cX7_shape 1 = .ok (.iconst 1, 1) := by decide +kernel
theorem dX7_shape_2 : decode cX7_shape 2 = .ok (.bipush 6, 2) := by decide +kernel
theorem dX7_shape_4 : decode cX7_shape 4 = .ok (.invokestatic 33, 3) := by decide +kernel
theorem dX7_shape_7 : decode cX7_shape 7 = .ok (.ifCond .eq 23, 3) := by decide +kernel
theorem dX7_shape_10 : decode cX7_shape 10 = .ok (.iload_n 2, 1) := by decide +kernel
theorem dX7_shape_11 : decode cX7_shape 11 = .ok (.iconst 1, 1) := by decide +kernel
theorem dX7_shape_12 : decode cX7_shape 12 = .ok (.bipush 6, 2) := by decide +kernel
theorem dX7_shape_14 : decode cX7_shape 14 = .ok (.invokestatic 33, 3) := by decide +kernel
theorem dX7_shape_17 : decode cX7_shape 17 = .ok (.ifCond .eq 13, 3) := by decide +kernel
theorem dX7_shape_20 : decode cX7_shape 20 = .ok (.iload_n 3, 1) := by decide +kernel
theorem dX7_shape_21 : decode cX7_shape 21 = .ok (.iconst 1, 1) := by decide +kernel
theorem dX7_shape_22 : decode cX7_shape 22 = .ok (.bipush 6, 2) := by decide +kernel
theorem dX7_shape_24 : decode cX7_shape 24 = .ok (.invokestatic 33, 3) := by decide +kernel
theorem dX7_shape_27 : decode cX7_shape 27 = .ok (.ifCond .ne 6, 3) := by decide +kernel
theorem dX7_shape_30 : decode cX7_shape 30 = .ok (.ldc 37, 2) := by decide +kernel
theorem dX7_shape_32 : decode cX7_shape 32 = .ok (.ireturn, 1) := by decide +kernel
theorem dX7_shape_33 : decode cX7_shape 33 = .ok (.aload_n 0, 1) := by decide +kernel
theorem dX7_shape_34 : decode cX7_shape 34 = .ok (.invokevirtual 38, 3) := by decide +kernel
theorem dX7_shape_37 : decode cX7_shape 37 = .ok (.aload_n 0, 1) := by decide +kernel
theorem dX7_shape_38 : decode cX7_shape 38 = .ok (.getfield 7, 3) := by decide +kernel
theorem dX7_shape_41 : decode cX7_shape 41 = .ok (.iconst 1, 1) := by decide +kernel
theorem dX7_shape_42 : decode cX7_shape 42 = .ok (.iload_n 1, 1) := by decide +kernel
theorem dX7_shape_43 : decode cX7_shape 43 = .ok (.iastore, 1) := by decide +kernel
theorem dX7_shape_44 : decode cX7_shape 44 = .ok (.aload_n 0, 1) := by decide +kernel
theorem dX7_shape_45 : decode cX7_shape 45 = .ok (.getfield 7, 3) := by decide +kernel
theorem dX7_shape_48 : decode cX7_shape 48 = .ok (.iconst 2, 1) := by decide +kernel
theorem dX7_shape_49 : decode cX7_shape 49 = .ok (.iload_n 2, 1) := by decide +kernel
theorem dX7_shape_50 : decode cX7_shape 50 = .ok (.iastore, 1) := by decide +kernel
theorem dX7_shape_51 : decode cX7_shape 51 = .ok (.aload_n 0, 1) := by decide +kernel
theorem dX7_shape_52 : decode cX7_shape 52 = .ok (.getfield 7, 3) := by decide +kernel
theorem dX7_shape_55 : decode cX7_shape 55 = .ok (.iconst 3, 1) := by decide +kernel
theorem dX7_shape_56 : decode cX7_shape 56 = .ok (.iload_n 3, 1) := by decide +kernel
theorem dX7_shape_57 : decode cX7_shape 57 = .ok (.iastore, 1) := by decide +kernel
theorem dX7_shape_58 : decode cX7_shape 58 = .ok (.aload_n 0, 1) := by decide +kernel
theorem dX7_shape_59 : decode cX7_shape 59 = .ok (.getfield 7, 3) := by decide +kernel
theorem dX7_shape_62 : decode cX7_shape 62 = .ok (.iconst 5, 1) := by decide +kernel
theorem dX7_shape_63 : decode cX7_shape 63 = .ok (.iconst 0, 1) := by decide +kernel
theorem dX7_shape_64 : decode cX7_shape 64 = .ok (.iastore, 1) := by decide +kernel
theorem dX7_shape_65 : decode cX7_shape 65 = .ok (.aload_n 0, 1) := by decide +kernel
theorem dX7_shape_66 : decode cX7_shape 66 = .ok (.bipush 9, 2) := by decide +kernel
theorem dX7_shape_68 : decode cX7_shape 68 = .ok (.bipush 72, 2) := by decide +kernel
theorem dX7_shape_70 : decode cX7_shape 70 = .ok (.invokevirtual 41, 3) := by decide +kernel
theorem dX7_shape_73 : decode cX7_shape 73 = .ok (.aload_n 0, 1) := by decide +kernel
theorem dX7_shape_74 : decode cX7_shape 74 = .ok (.bipush 117, 2) := by decide +kernel
theorem dX7_shape_76 : decode cX7_shape 76 = .ok (.bipush 36, 2) := by decide +kernel
theorem dX7_shape_78 : decode cX7_shape 78 = .ok (.invokevirtual 41, 3) := by decide +kernel
theorem dX7_shape_81 : decode cX7_shape 81 = .ok (.aload_n 0, 1) := by decide +kernel
theorem dX7_shape_82 : decode cX7_shape 82 = .ok (.invokevirtual 45, 3) := by decide +kernel
theorem dX7_shape_85 : decode cX7_shape 85 = .ok (.ireturn, 1) := by decide +kernel
theorem dX7_rowsOf_0 : decode cX7_rowsOf 0 = .ok (.iload_n 1, 1) := by decide +kernel
theorem dX7_rowsOf_1 : decode cX7_rowsOf 1 = .ok (.ifCond .ne 12, 3) := by decide +kernel
theorem dX7_rowsOf_4 : decode cX7_rowsOf 4 = .ok (.aload_n 0, 1) := by decide +kernel
theorem dX7_rowsOf_5 : decode cX7_rowsOf 5 = .ok (.getfield 7, 3) := by decide +kernel
theorem dX7_rowsOf_8 : decode cX7_rowsOf 8 = .ok (.iconst 1, 1) := by decide +kernel
theorem dX7_rowsOf_9 : decode cX7_rowsOf 9 = .ok (.iaload, 1) := by decide +kernel
theorem dX7_rowsOf_10 : decode cX7_rowsOf 10 = .ok (.goto 9, 3) := by decide +kernel
theorem dX7_rowsOf_13 : decode cX7_rowsOf 13 = .ok (.aload_n 0, 1) := by decide +kernel
theorem dX7_rowsOf_14 : decode cX7_rowsOf 14 = .ok (.getfield 7, 3) := by decide +kernel
theorem dX7_rowsOf_17 : decode cX7_rowsOf 17 = .ok (.iconst 2, 1) := by decide +kernel
theorem dX7_rowsOf_18 : decode cX7_rowsOf 18 = .ok (.iaload, 1) := by decide +kernel
theorem dX7_rowsOf_19 : decode cX7_rowsOf 19 = .ok (.ireturn, 1) := by decide +kernel
theorem dX7_columnsOf_0 : decode cX7_columnsOf 0 = .ok (.iload_n 1, 1) := by decide +kernel
theorem dX7_columnsOf_1 : decode cX7_columnsOf 1 = .ok (.ifCond .ne 12, 3) := by decide +kernel
theorem dX7_columnsOf_4 : decode cX7_columnsOf 4 = .ok (.aload_n 0, 1) := by decide +kernel
theorem dX7_columnsOf_5 : decode cX7_columnsOf 5 = .ok (.getfield 7, 3) := by decide +kernel
theorem dX7_columnsOf_8 : decode cX7_columnsOf 8 = .ok (.iconst 2, 1) := by decide +kernel
theorem dX7_columnsOf_9 : decode cX7_columnsOf 9 = .ok (.iaload, 1) := by decide +kernel
theorem dX7_columnsOf_10 : decode cX7_columnsOf 10 = .ok (.goto 9, 3) := by decide +kernel
theorem dX7_columnsOf_13 : decode cX7_columnsOf 13 = .ok (.aload_n 0, 1) := by decide +kernel
theorem dX7_columnsOf_14 : decode cX7_columnsOf 14 = .ok (.getfield 7, 3) := by decide +kernel
theorem dX7_columnsOf_17 : decode cX7_columnsOf 17 = .ok (.iconst 3, 1) := by decide +kernel
theorem dX7_columnsOf_18 : decode cX7_columnsOf 18 = .ok (.iaload, 1) := by decide +kernel
theorem dX7_columnsOf_19 : decode cX7_columnsOf 19 = .ok (.ireturn, 1) := by decide +kernel
set_option maxRecDepth 20000 in
theorem ggX7_isEntry_X7_in : GoodIn wsX7_isEntry wsX7_in := goodIn_r _ [4] (by decide +kernel) (by decide +kernel)
set_option maxRecDepth 20000 in
theorem gX7_isEntry_X7_in : GoodIn wsX7_isEntry (va_wsS RX7 33 yX7_in wsX7_in) := goodIn_app (goodIn_of _ (by decide +kernel)) ggX7_isEntry_X7_in
set_option maxRecDepth 20000 in
theorem ggX7_isEntry_X7_rowsOf : GoodIn wsX7_isEntry wsX7_rowsOf := goodIn_r _ [8, 9, 14, 15, 16, 17, 18, 19, 20, 21, 22, 23, 24, 25, 26, 27, 28, 29] (by decide +kernel) (by decide +kernel)
set_option maxRecDepth 20000 in
theorem gX7_isEntry_X7_rowsOf : GoodIn wsX7_isEntry (wsV RX7 49 RX7 yX7_rowsOf wsX7_rowsOf) := goodIn_app (goodIn_of _ (by decide +kernel)) ggX7_isEntry_X7_rowsOf
set_option maxRecDepth 20000 in
theorem ggX7_isEntry_X7_columnsOf : GoodIn wsX7_isEntry wsX7_columnsOf := goodIn_r _ [13, 9, 14, 15, 16, 17, 18, 19, 20, 21, 22, 23, 24, 25, 26, 27, 28, 29] (by decide +kernel) (by decide +kernel)
set_option maxRecDepth 20000 in
theorem gX7_isEntry_X7_columnsOf : GoodIn wsX7_isEntry (wsV RX7 52 RX7 yX7_columnsOf wsX7_columnsOf) := goodIn_app (goodIn_of _ (by decide +kernel)) ggX7_isEntry_X7_columnsOf
theorem dX7_isEntry_0 : decode cX7_isEntry 0 = .ok (.iload_n 1, 1) := by decide +kernel
theorem dX7_isEntry_1 : decode cX7_isEntry 1 = .ok (.iconst 0, 1) := by decide +kernel
theorem dX7_isEntry_2 : decode cX7_isEntry 2 = .ok (.iconst 1, 1) := by decide +kernel
theorem dX7_isEntry_3 : decode cX7_isEntry 3 = .ok (.invokestatic 33, 3) := by decide +kernel
theorem dX7_isEntry_6 : decode cX7_isEntry 6 = .ok (.ifCond .eq 37, 3) := by decide +kernel
theorem dX7_isEntry_9 : decode cX7_isEntry 9 = .ok (.iload_n 2, 1) := by decide +kernel
theorem dX7_isEntry_10 : decode cX7_isEntry 10 = .ok (.iconst 0, 1) := by decide +kernel
theorem dX7_isEntry_11 : decode cX7_isEntry 11 = .ok (.aload_n 0, 1) := by decide +kernel
theorem dX7_isEntry_12 : decode cX7_isEntry 12 = .ok (.iload_n 1, 1) := by decide +kernel
theorem dX7_isEntry_13 : decode cX7_isEntry 13 = .ok (.invokevirtual 49, 3) := by decide +kernel
theorem dX7_isEntry_16 : decode cX7_isEntry 16 = .ok (.iconst 1, 1) := by decide +kernel
theorem dX7_isEntry_17 : decode cX7_isEntry 17 = .ok (.isub, 1) := by decide +kernel
theorem dX7_isEntry_18 : decode cX7_isEntry 18 = .ok (.invokestatic 33, 3) := by decide +kernel
theorem dX7_isEntry_21 : decode cX7_isEntry 21 = .ok (.ifCond .eq 22, 3) := by decide +kernel
theorem dX7_isEntry_24 : decode cX7_isEntry 24 = .ok (.iload_n 3, 1) := by decide +kernel
theorem dX7_isEntry_25 : decode cX7_isEntry 25 = .ok (.iconst 0, 1) := by decide +kernel
theorem dX7_isEntry_26 : decode cX7_isEntry 26 = .ok (.aload_n 0, 1) := by decide +kernel
theorem dX7_isEntry_27 : decode cX7_isEntry 27 = .ok (.iload_n 1, 1) := by decide +kernel
theorem dX7_isEntry_28 : decode cX7_isEntry 28 = .ok (.invokevirtual 52, 3) := by decide +kernel
theorem dX7_isEntry_31 : decode cX7_isEntry 31 = .ok (.iconst 1, 1) := by decide +kernel
theorem dX7_isEntry_32 : decode cX7_isEntry 32 = .ok (.isub, 1) := by decide +kernel
theorem dX7_isEntry_33 : decode cX7_isEntry 33 = .ok (.invokestatic 33, 3) := by decide +kernel
theorem dX7_isEntry_36 : decode cX7_isEntry 36 = .ok (.ifCond .eq 7, 3) := by decide +kernel
theorem dX7_isEntry_39 : decode cX7_isEntry 39 = .ok (.iconst 1, 1) := by decide +kernel
theorem dX7_isEntry_40 : decode cX7_isEntry 40 = .ok (.goto 4, 3) := by decide +kernel
theorem dX7_isEntry_43 : decode cX7_isEntry 43 = .ok (.iconst 0, 1) := by decide +kernel
theorem dX7_isEntry_44 : decode cX7_isEntry 44 = .ok (.ireturn, 1) := by decide +kernel
set_option maxRecDepth 20000 in
theorem ggX7_sets_X7_isEntry : GoodIn wsX7_sets wsX7_isEntry := goodIn_r _ [8, 9, 10, 7, 11, 12, 13, 14, 15, 2, 16, 17, 18, 19, 30, 31, 32, 33, 34, 35, 36, 37, 38, 39, 40, 41, 42, 43, 44, 45] (by decide +kernel) (by decide +kernel)
set_option maxRecDepth 20000 in
theorem gX7_sets_X7_isEntry : GoodIn wsX7_sets (wsV RX7 55 RX7 yX7_isEntry wsX7_isEntry) := goodIn_app (goodIn_of _ (by decide +kernel)) ggX7_sets_X7_isEntry
set_option maxRecDepth 20000 in
theorem ggX7_sets_X7_in : GoodIn wsX7_sets wsX7_in := goodIn_r _ [11] (by decide +kernel) (by decide +kernel)
set_option maxRecDepth 20000 in
theorem gX7_sets_X7_in : GoodIn wsX7_sets (va_wsS RX7 33 yX7_in wsX7_in) := goodIn_app (goodIn_of _ (by decide +kernel)) ggX7_sets_X7_in
set_option maxRecDepth 20000 in
theorem ggX7_sets_X7_changes : GoodIn wsX7_sets wsX7_changes := goodIn_r _ [23, 24, 25, 2, 30, 31, 32, 33, 34, 35, 36, 37, 38, 39, 40, 41, 42, 43, 44, 45] (by decide +kernel) (by decide +kernel)
set_option maxRecDepth 20000 in
theorem gX7_sets_X7_changes : GoodIn wsX7_sets (wsV RX7 38 RX7 yX7_changes wsX7_changes) := goodIn_app (goodIn_of _ (by decide +kernel)) ggX7_sets_X7_changes
set_option maxRecDepth 20000 in
theorem ggX7_sets_X7_clears : GoodIn wsX7_sets wsX7_clears := goodIn_r _ [29, 2, 30, 31, 32, 33, 34, 35, 36, 37, 38, 39, 40, 41, 42, 43, 44, 45] (by decide +kernel) (by decide +kernel)
set_option maxRecDepth 20000 in
theorem gX7_sets_X7_clears : GoodIn wsX7_sets (wsV RX7 41 RX7 yX7_clears wsX7_clears) := goodIn_app (goodIn_of _ (by decide +kernel)) ggX7_sets_X7_clears
theorem dX7_sets_0 : decode cX7_sets 0 = .ok (.aload_n 0, 1) := by decide +kernel
theorem dX7_sets_1 : decode cX7_sets 1 = .ok (.iload_n 1, 1) := by decide +kernel
theorem dX7_sets_2 : decode cX7_sets 2 = .ok (.iload_n 2, 1) := by decide +kernel
theorem dX7_sets_3 : decode cX7_sets 3 = .ok (.iload_n 3, 1) := by decide +kernel
theorem dX7_sets_4 : decode cX7_sets 4 = .ok (.invokevirtual 55, 3) := by decide +kernel
theorem dX7_sets_7 : decode cX7_sets 7 = .ok (.ifCond .eq 15, 3) := by decide +kernel
theorem dX7_sets_10 : decode cX7_sets 10 = .ok (.iload 4, 2) := by decide +kernel
theorem dX7_sets_12 : decode cX7_sets 12 = .ok (.bipush (-99), 2) := by decide +kernel
theorem dX7_sets_14 : decode cX7_sets 14 = .ok (.bipush 99, 2) := by decide +kernel
theorem dX7_sets_16 : decode cX7_sets 16 = .ok (.invokestatic 33, 3) := by decide +kernel
theorem dX7_sets_19 : decode cX7_sets 19 = .ok (.ifCond .ne 6, 3) := by decide +kernel
theorem dX7_sets_22 : decode cX7_sets 22 = .ok (.ldc 37, 2) := by decide +kernel
theorem dX7_sets_24 : decode cX7_sets 24 = .ok (.ireturn, 1) := by decide +kernel
theorem dX7_sets_25 : decode cX7_sets 25 = .ok (.aload_n 0, 1) := by decide +kernel
theorem dX7_sets_26 : decode cX7_sets 26 = .ok (.getfield 7, 3) := by decide +kernel
theorem dX7_sets_29 : decode cX7_sets 29 = .ok (.iconst 5, 1) := by decide +kernel
theorem dX7_sets_30 : decode cX7_sets 30 = .ok (.iaload, 1) := by decide +kernel
theorem dX7_sets_31 : decode cX7_sets 31 = .ok (.iconst 1, 1) := by decide +kernel
theorem dX7_sets_32 : decode cX7_sets 32 = .ok (.if_icmp .ne 6, 3) := by decide +kernel
theorem dX7_sets_35 : decode cX7_sets 35 = .ok (.ldc 58, 2) := by decide +kernel
theorem dX7_sets_37 : decode cX7_sets 37 = .ok (.ireturn, 1) := by decide +kernel
theorem dX7_sets_38 : decode cX7_sets 38 = .ok (.aload_n 0, 1) := by decide +kernel
theorem dX7_sets_39 : decode cX7_sets 39 = .ok (.invokevirtual 38, 3) := by decide +kernel
theorem dX7_sets_42 : decode cX7_sets 42 = .ok (.bipush 9, 2) := by decide +kernel
theorem dX7_sets_44 : decode cX7_sets 44 = .ok (.bipush 36, 2) := by decide +kernel
theorem dX7_sets_46 : decode cX7_sets 46 = .ok (.iload_n 1, 1) := by decide +kernel
theorem dX7_sets_47 : decode cX7_sets 47 = .ok (.imul, 1) := by decide +kernel
theorem dX7_sets_48 : decode cX7_sets 48 = .ok (.iadd, 1) := by decide +kernel
theorem dX7_sets_49 : decode cX7_sets 49 = .ok (.bipush 6, 2) := by decide +kernel
theorem dX7_sets_51 : decode cX7_sets 51 = .ok (.iload_n 2, 1) := by decide +kernel
theorem dX7_sets_52 : decode cX7_sets 52 = .ok (.imul, 1) := by decide +kernel
theorem dX7_sets_53 : decode cX7_sets 53 = .ok (.iadd, 1) := by decide +kernel
theorem dX7_sets_54 : decode cX7_sets 54 = .ok (.iload_n 3, 1) := by decide +kernel
theorem dX7_sets_55 : decode cX7_sets 55 = .ok (.iadd, 1) := by decide +kernel
theorem dX7_sets_56 : decode cX7_sets 56 = .ok (.istore 5, 2) := by decide +kernel
theorem dX7_sets_58 : decode cX7_sets 58 = .ok (.aload_n 0, 1) := by decide +kernel
theorem dX7_sets_59 : decode cX7_sets 59 = .ok (.getfield 7, 3) := by decide +kernel
theorem dX7_sets_62 : decode cX7_sets 62 = .ok (.iload 5, 2) := by decide +kernel
theorem dX7_sets_64 : decode cX7_sets 64 = .ok (.iaload, 1) := by decide +kernel
theorem dX7_sets_65 : decode cX7_sets 65 = .ok (.istore 6, 2) := by decide +kernel
theorem dX7_sets_67 : decode cX7_sets 67 = .ok (.aload_n 0, 1) := by decide +kernel
theorem dX7_sets_68 : decode cX7_sets 68 = .ok (.getfield 7, 3) := by decide +kernel
theorem dX7_sets_71 : decode cX7_sets 71 = .ok (.iload 5, 2) := by decide +kernel
theorem dX7_sets_73 : decode cX7_sets 73 = .ok (.iload 4, 2) := by decide +kernel
theorem dX7_sets_75 : decode cX7_sets 75 = .ok (.iastore, 1) := by decide +kernel
theorem dX7_sets_76 : decode cX7_sets 76 = .ok (.aload_n 0, 1) := by decide +kernel
theorem dX7_sets_77 : decode cX7_sets 77 = .ok (.bipush 117, 2) := by decide +kernel
theorem dX7_sets_79 : decode cX7_sets 79 = .ok (.bipush 36, 2) := by decide +kernel
theorem dX7_sets_81 : decode cX7_sets 81 = .ok (.invokevirtual 41, 3) := by decide +kernel
theorem dX7_sets_84 : decode cX7_sets 84 = .ok (.iload 6, 2) := by decide +kernel
theorem dX7_sets_86 : decode cX7_sets 86 = .ok (.ireturn, 1) := by decide +kernel
set_option maxRecDepth 20000 in
theorem ggX7_left_X7_sets : GoodIn wsX7_left wsX7_sets := goodIn_r _ [5, 6, 7, 8, 9, 10, 11, 4, 12, 13, 14, 15, 16, 17, 18, 19, 20, 21, 22, 23, 24, 25, 26, 27, 28, 29, 30, 31, 32, 33, 34, 35, 36, 37, 38, 39, 40, 41, 42, 43, 44, 45, 46, 47, 48, 49] (by decide +kernel) (by decide +kernel)
set_option maxRecDepth 20000 in
theorem gX7_left_X7_sets : GoodIn wsX7_left (wsV RX7 59 RX7 yX7_sets wsX7_sets) := goodIn_app (goodIn_of _ (by decide +kernel)) ggX7_left_X7_sets
theorem dX7_left_0 : decode cX7_left 0 = .ok (.aload_n 0, 1) := by decide +kernel
theorem dX7_left_1 : decode cX7_left 1 = .ok (.iconst 0, 1) := by decide +kernel
theorem dX7_left_2 : decode cX7_left 2 = .ok (.iload_n 1, 1) := by decide +kernel
theorem dX7_left_3 : decode cX7_left 3 = .ok (.iload_n 2, 1) := by decide +kernel
theorem dX7_left_4 : decode cX7_left 4 = .ok (.iload_n 3, 1) := by decide +kernel
theorem dX7_left_5 : decode cX7_left 5 = .ok (.invokevirtual 59, 3) := by decide +kernel
theorem dX7_left_8 : decode cX7_left 8 = .ok (.ireturn, 1) := by decide +kernel
set_option maxRecDepth 20000 in
theorem ggX7_right_X7_sets : GoodIn wsX7_right wsX7_sets := goodIn_r _ [5, 6, 7, 8, 9, 10, 11, 4, 12, 13, 14, 15, 16, 17, 18, 19, 20, 21, 22, 23, 24, 25, 26, 27, 28, 29, 30, 31, 32, 33, 34, 35, 36, 37, 38, 39, 40, 41, 42, 43, 44, 45, 46, 47, 48, 49] (by decide +kernel) (by decide +kernel)
set_option maxRecDepth 20000 in
theorem gX7_right_X7_sets : GoodIn wsX7_right (wsV RX7 59 RX7 yX7_sets wsX7_sets) := goodIn_app (goodIn_of _ (by decide +kernel)) ggX7_right_X7_sets
theorem dX7_right_0 : decode cX7_right 0 = .ok (.aload_n 0, 1) := by decide +kernel
theorem dX7_right_1 : decode cX7_right 1 = .ok (.iconst 1, 1) := by decide +kernel
theorem dX7_right_2 : decode cX7_right 2 = .ok (.iload_n 1, 1) := by decide +kernel
theorem dX7_right_3 : decode cX7_right 3 = .ok (.iload_n 2, 1) := by decide +kernel
theorem dX7_right_4 : decode cX7_right 4 = .ok (.iload_n 3, 1) := by decide +kernel
theorem dX7_right_5 : decode cX7_right 5 = .ok (.invokevirtual 59, 3) := by decide +kernel
theorem dX7_right_8 : decode cX7_right 8 = .ok (.ireturn, 1) := by decide +kernel
set_option maxRecDepth 20000 in
theorem ggX7_fault_X7_in : GoodIn wsX7_fault wsX7_in := goodIn_r _ [7] (by decide +kernel) (by decide +kernel)
set_option maxRecDepth 20000 in
theorem gX7_fault_X7_in : GoodIn wsX7_fault (va_wsS RX7 33 yX7_in wsX7_in) := goodIn_app (goodIn_of _ (by decide +kernel)) ggX7_fault_X7_in
set_option maxRecDepth 20000 in
theorem ggX7_fault_X7_changes : GoodIn wsX7_fault wsX7_changes := goodIn_r _ [11, 12, 13, 1, 14, 15, 16, 17, 18, 19, 20, 21, 22, 23, 24, 25, 26, 27, 28, 29] (by decide +kernel) (by decide +kernel)
set_option maxRecDepth 20000 in
theorem gX7_fault_X7_changes : GoodIn wsX7_fault (wsV RX7 38 RX7 yX7_changes wsX7_changes) := goodIn_app (goodIn_of _ (by decide +kernel)) ggX7_fault_X7_changes
theorem dX7_fault_0 : decode cX7_fault 0 = .ok (.iload_n 1, 1) := by decide +kernel
theorem dX7_fault_1 : decode cX7_fault 1 = .ok (.iconst 0, 1) := by decide +kernel
theorem dX7_fault_2 : decode cX7_fault 2 = .ok (.aload_n 0, 1) := by decide +kernel
theorem dX7_fault_3 : decode cX7_fault 3 = .ok (.getfield 7, 3) := by decide +kernel
theorem dX7_fault_6 : decode cX7_fault 6 = .ok (.iconst 0, 1) := by decide +kernel
theorem dX7_fault_7 : decode cX7_fault 7 = .ok (.iaload, 1) := by decide +kernel
theorem dX7_fault_8 : decode cX7_fault 8 = .ok (.iconst 1, 1) := by decide +kernel
theorem dX7_fault_9 : decode cX7_fault 9 = .ok (.isub, 1) := by decide +kernel
theorem dX7_fault_10 : decode cX7_fault 10 = .ok (.invokestatic 33, 3) := by decide +kernel
theorem dX7_fault_13 : decode cX7_fault 13 = .ok (.ifCond .eq 26, 3) := by decide +kernel
theorem dX7_fault_16 : decode cX7_fault 16 = .ok (.iload_n 2, 1) := by decide +kernel
theorem dX7_fault_17 : decode cX7_fault 17 = .ok (.iconst 0, 1) := by decide +kernel
theorem dX7_fault_18 : decode cX7_fault 18 = .ok (.aload_n 0, 1) := by decide +kernel
theorem dX7_fault_19 : decode cX7_fault 19 = .ok (.getfield 7, 3) := by decide +kernel
theorem dX7_fault_22 : decode cX7_fault 22 = .ok (.iconst 0, 1) := by decide +kernel
theorem dX7_fault_23 : decode cX7_fault 23 = .ok (.iaload, 1) := by decide +kernel
theorem dX7_fault_24 : decode cX7_fault 24 = .ok (.invokestatic 33, 3) := by decide +kernel
theorem dX7_fault_27 : decode cX7_fault 27 = .ok (.ifCond .eq 12, 3) := by decide +kernel
theorem dX7_fault_30 : decode cX7_fault 30 = .ok (.iload_n 3, 1) := by decide +kernel
theorem dX7_fault_31 : decode cX7_fault 31 = .ok (.iconst 0, 1) := by decide +kernel
theorem dX7_fault_32 : decode cX7_fault 32 = .ok (.iconst 4, 1) := by decide +kernel
theorem dX7_fault_33 : decode cX7_fault 33 = .ok (.invokestatic 33, 3) := by decide +kernel
theorem dX7_fault_36 : decode cX7_fault 36 = .ok (.ifCond .ne 6, 3) := by decide +kernel
theorem dX7_fault_39 : decode cX7_fault 39 = .ok (.ldc 37, 2) := by decide +kernel
theorem dX7_fault_41 : decode cX7_fault 41 = .ok (.ireturn, 1) := by decide +kernel
theorem dX7_fault_42 : decode cX7_fault 42 = .ok (.aload_n 0, 1) := by decide +kernel
theorem dX7_fault_43 : decode cX7_fault 43 = .ok (.getfield 7, 3) := by decide +kernel
theorem dX7_fault_46 : decode cX7_fault 46 = .ok (.iconst 5, 1) := by decide +kernel
theorem dX7_fault_47 : decode cX7_fault 47 = .ok (.iaload, 1) := by decide +kernel
theorem dX7_fault_48 : decode cX7_fault 48 = .ok (.iconst 1, 1) := by decide +kernel
theorem dX7_fault_49 : decode cX7_fault 49 = .ok (.if_icmp .ne 6, 3) := by decide +kernel
theorem dX7_fault_52 : decode cX7_fault 52 = .ok (.ldc 58, 2) := by decide +kernel
theorem dX7_fault_54 : decode cX7_fault 54 = .ok (.ireturn, 1) := by decide +kernel
theorem dX7_fault_55 : decode cX7_fault 55 = .ok (.aload_n 0, 1) := by decide +kernel
theorem dX7_fault_56 : decode cX7_fault 56 = .ok (.invokevirtual 38, 3) := by decide +kernel
theorem dX7_fault_59 : decode cX7_fault 59 = .ok (.aload_n 0, 1) := by decide +kernel
theorem dX7_fault_60 : decode cX7_fault 60 = .ok (.getfield 7, 3) := by decide +kernel
theorem dX7_fault_63 : decode cX7_fault 63 = .ok (.sipush 153, 3) := by decide +kernel
theorem dX7_fault_66 : decode cX7_fault 66 = .ok (.iconst 5, 1) := by decide +kernel
theorem dX7_fault_67 : decode cX7_fault 67 = .ok (.iload_n 1, 1) := by decide +kernel
theorem dX7_fault_68 : decode cX7_fault 68 = .ok (.imul, 1) := by decide +kernel
theorem dX7_fault_69 : decode cX7_fault 69 = .ok (.iadd, 1) := by decide +kernel
theorem dX7_fault_70 : decode cX7_fault 70 = .ok (.iload_n 2, 1) := by decide +kernel
theorem dX7_fault_71 : decode cX7_fault 71 = .ok (.iadd, 1) := by decide +kernel
theorem dX7_fault_72 : decode cX7_fault 72 = .ok (.iaload, 1) := by decide +kernel
theorem dX7_fault_73 : decode cX7_fault 73 = .ok (.istore 4, 2) := by decide +kernel
theorem dX7_fault_75 : decode cX7_fault 75 = .ok (.aload_n 0, 1) := by decide +kernel
theorem dX7_fault_76 : decode cX7_fault 76 = .ok (.getfield 7, 3) := by decide +kernel
theorem dX7_fault_79 : decode cX7_fault 79 = .ok (.sipush 153, 3) := by decide +kernel
theorem dX7_fault_82 : decode cX7_fault 82 = .ok (.iconst 5, 1) := by decide +kernel
theorem dX7_fault_83 : decode cX7_fault 83 = .ok (.iload_n 1, 1) := by decide +kernel
theorem dX7_fault_84 : decode cX7_fault 84 = .ok (.imul, 1) := by decide +kernel
theorem dX7_fault_85 : decode cX7_fault 85 = .ok (.iadd, 1) := by decide +kernel
theorem dX7_fault_86 : decode cX7_fault 86 = .ok (.iload_n 2, 1) := by decide +kernel
theorem dX7_fault_87 : decode cX7_fault 87 = .ok (.iadd, 1) := by decide +kernel
theorem dX7_fault_88 : decode cX7_fault 88 = .ok (.iload_n 3, 1) := by decide +kernel
theorem dX7_fault_89 : decode cX7_fault 89 = .ok (.iastore, 1) := by decide +kernel
theorem dX7_fault_90 : decode cX7_fault 90 = .ok (.iload 4, 2) := by decide +kernel
theorem dX7_fault_92 : decode cX7_fault 92 = .ok (.ireturn, 1) := by decide +kernel
set_option maxRecDepth 20000 in
theorem ggX7_leave_X7_in : GoodIn wsX7_leave wsX7_in := goodIn_r _ [7] (by decide +kernel) (by decide +kernel)
set_option maxRecDepth 20000 in
theorem gX7_leave_X7_in : GoodIn wsX7_leave (va_wsS RX7 33 yX7_in wsX7_in) := goodIn_app (goodIn_of _ (by decide +kernel)) ggX7_leave_X7_in
set_option maxRecDepth 20000 in
theorem ggX7_leave_X7_changes : GoodIn wsX7_leave wsX7_changes := goodIn_r _ [11, 12, 13, 1, 14, 15, 16, 17, 18, 19, 20, 21, 22, 23, 24, 25, 26, 27, 28, 29] (by decide +kernel) (by decide +kernel)
set_option maxRecDepth 20000 in
theorem gX7_leave_X7_changes : GoodIn wsX7_leave (wsV RX7 38 RX7 yX7_changes wsX7_changes) := goodIn_app (goodIn_of _ (by decide +kernel)) ggX7_leave_X7_changes
theorem dX7_leave_0 : decode cX7_leave 0 = .ok (.iload_n 1, 1) := by decide +kernel
theorem dX7_leave_1 : decode cX7_leave 1 = .ok (.iconst 0, 1) := by decide +kernel
theorem dX7_leave_2 : decode cX7_leave 2 = .ok (.aload_n 0, 1) := by decide +kernel
theorem dX7_leave_3 : decode cX7_leave 3 = .ok (.getfield 7, 3) := by decide +kernel
theorem dX7_leave_6 : decode cX7_leave 6 = .ok (.iconst 0, 1) := by decide +kernel
theorem dX7_leave_7 : decode cX7_leave 7 = .ok (.iaload, 1) := by decide +kernel
theorem dX7_leave_8 : decode cX7_leave 8 = .ok (.invokestatic 33, 3) := by decide +kernel
theorem dX7_leave_11 : decode cX7_leave 11 = .ok (.ifCond .ne 6, 3) := by decide +kernel
theorem dX7_leave_14 : decode cX7_leave 14 = .ok (.ldc 37, 2) := by decide +kernel
theorem dX7_leave_16 : decode cX7_leave 16 = .ok (.ireturn, 1) := by decide +kernel
theorem dX7_leave_17 : decode cX7_leave 17 = .ok (.aload_n 0, 1) := by decide +kernel
theorem dX7_leave_18 : decode cX7_leave 18 = .ok (.getfield 7, 3) := by decide +kernel
theorem dX7_leave_21 : decode cX7_leave 21 = .ok (.iconst 5, 1) := by decide +kernel
theorem dX7_leave_22 : decode cX7_leave 22 = .ok (.iaload, 1) := by decide +kernel
theorem dX7_leave_23 : decode cX7_leave 23 = .ok (.iconst 1, 1) := by decide +kernel
theorem dX7_leave_24 : decode cX7_leave 24 = .ok (.if_icmp .ne 6, 3) := by decide +kernel
theorem dX7_leave_27 : decode cX7_leave 27 = .ok (.ldc 58, 2) := by decide +kernel
theorem dX7_leave_29 : decode cX7_leave 29 = .ok (.ireturn, 1) := by decide +kernel
theorem dX7_leave_30 : decode cX7_leave 30 = .ok (.aload_n 0, 1) := by decide +kernel
theorem dX7_leave_31 : decode cX7_leave 31 = .ok (.invokevirtual 38, 3) := by decide +kernel
theorem dX7_leave_34 : decode cX7_leave 34 = .ok (.aload_n 0, 1) := by decide +kernel
theorem dX7_leave_35 : decode cX7_leave 35 = .ok (.getfield 7, 3) := by decide +kernel
theorem dX7_leave_38 : decode cX7_leave 38 = .ok (.iconst 4, 1) := by decide +kernel
theorem dX7_leave_39 : decode cX7_leave 39 = .ok (.iaload, 1) := by decide +kernel
theorem dX7_leave_40 : decode cX7_leave 40 = .ok (.istore_n 2, 1) := by decide +kernel
theorem dX7_leave_41 : decode cX7_leave 41 = .ok (.aload_n 0, 1) := by decide +kernel
theorem dX7_leave_42 : decode cX7_leave 42 = .ok (.getfield 7, 3) := by decide +kernel
theorem dX7_leave_45 : decode cX7_leave 45 = .ok (.iconst 4, 1) := by decide +kernel
theorem dX7_leave_46 : decode cX7_leave 46 = .ok (.iload_n 1, 1) := by decide +kernel
theorem dX7_leave_47 : decode cX7_leave 47 = .ok (.iastore, 1) := by decide +kernel
theorem dX7_leave_48 : decode cX7_leave 48 = .ok (.iload_n 2, 1) := by decide +kernel
theorem dX7_leave_49 : decode cX7_leave 49 = .ok (.ireturn, 1) := by decide +kernel
theorem dX7_tileRows_0 : decode cX7_tileRows 0 = .ok (.aload_n 0, 1) := by decide +kernel
theorem dX7_tileRows_1 : decode cX7_tileRows 1 = .ok (.getfield 7, 3) := by decide +kernel
theorem dX7_tileRows_4 : decode cX7_tileRows 4 = .ok (.iconst 1, 1) := by decide +kernel
theorem dX7_tileRows_5 : decode cX7_tileRows 5 = .ok (.iaload, 1) := by decide +kernel
theorem dX7_tileRows_6 : decode cX7_tileRows 6 = .ok (.aload_n 0, 1) := by decide +kernel
theorem dX7_tileRows_7 : decode cX7_tileRows 7 = .ok (.getfield 7, 3) := by decide +kernel
theorem dX7_tileRows_10 : decode cX7_tileRows 10 = .ok (.iconst 0, 1) := by decide +kernel
theorem dX7_tileRows_11 : decode cX7_tileRows 11 = .ok (.iaload, 1) := by decide +kernel
theorem dX7_tileRows_12 : decode cX7_tileRows 12 = .ok (.aload_n 0, 1) := by decide +kernel
theorem dX7_tileRows_13 : decode cX7_tileRows 13 = .ok (.getfield 7, 3) := by decide +kernel
theorem dX7_tileRows_16 : decode cX7_tileRows 16 = .ok (.bipush 6, 2) := by decide +kernel
theorem dX7_tileRows_18 : decode cX7_tileRows 18 = .ok (.iaload, 1) := by decide +kernel
theorem dX7_tileRows_19 : decode cX7_tileRows 19 = .ok (.imul, 1) := by decide +kernel
theorem dX7_tileRows_20 : decode cX7_tileRows 20 = .ok (.isub, 1) := by decide +kernel
theorem dX7_tileRows_21 : decode cX7_tileRows 21 = .ok (.istore_n 1, 1) := by decide +kernel
theorem dX7_tileRows_22 : decode cX7_tileRows 22 = .ok (.iload_n 1, 1) := by decide +kernel
theorem dX7_tileRows_23 : decode cX7_tileRows 23 = .ok (.aload_n 0, 1) := by decide +kernel
theorem dX7_tileRows_24 : decode cX7_tileRows 24 = .ok (.getfield 7, 3) := by decide +kernel
theorem dX7_tileRows_27 : decode cX7_tileRows 27 = .ok (.iconst 0, 1) := by decide +kernel
theorem dX7_tileRows_28 : decode cX7_tileRows 28 = .ok (.iaload, 1) := by decide +kernel
theorem dX7_tileRows_29 : decode cX7_tileRows 29 = .ok (.if_icmp .ge 7, 3) := by decide +kernel
theorem dX7_tileRows_32 : decode cX7_tileRows 32 = .ok (.iload_n 1, 1) := by decide +kernel
theorem dX7_tileRows_33 : decode cX7_tileRows 33 = .ok (.goto 9, 3) := by decide +kernel
theorem dX7_tileRows_36 : decode cX7_tileRows 36 = .ok (.aload_n 0, 1) := by decide +kernel
theorem dX7_tileRows_37 : decode cX7_tileRows 37 = .ok (.getfield 7, 3) := by decide +kernel
theorem dX7_tileRows_40 : decode cX7_tileRows 40 = .ok (.iconst 0, 1) := by decide +kernel
theorem dX7_tileRows_41 : decode cX7_tileRows 41 = .ok (.iaload, 1) := by decide +kernel
theorem dX7_tileRows_42 : decode cX7_tileRows 42 = .ok (.ireturn, 1) := by decide +kernel
theorem dX7_tileColumns_0 : decode cX7_tileColumns 0 = .ok (.aload_n 0, 1) := by decide +kernel
theorem dX7_tileColumns_1 : decode cX7_tileColumns 1 = .ok (.getfield 7, 3) := by decide +kernel
theorem dX7_tileColumns_4 : decode cX7_tileColumns 4 = .ok (.iconst 3, 1) := by decide +kernel
theorem dX7_tileColumns_5 : decode cX7_tileColumns 5 = .ok (.iaload, 1) := by decide +kernel
theorem dX7_tileColumns_6 : decode cX7_tileColumns 6 = .ok (.aload_n 0, 1) := by decide +kernel
theorem dX7_tileColumns_7 : decode cX7_tileColumns 7 = .ok (.getfield 7, 3) := by decide +kernel
theorem dX7_tileColumns_10 : decode cX7_tileColumns 10 = .ok (.iconst 0, 1) := by decide +kernel
theorem dX7_tileColumns_11 : decode cX7_tileColumns 11 = .ok (.iaload, 1) := by decide +kernel
theorem dX7_tileColumns_12 : decode cX7_tileColumns 12 = .ok (.aload_n 0, 1) := by decide +kernel
theorem dX7_tileColumns_13 : decode cX7_tileColumns 13 = .ok (.getfield 7, 3) := by decide +kernel
theorem dX7_tileColumns_16 : decode cX7_tileColumns 16 = .ok (.bipush 7, 2) := by decide +kernel
theorem dX7_tileColumns_18 : decode cX7_tileColumns 18 = .ok (.iaload, 1) := by decide +kernel
theorem dX7_tileColumns_19 : decode cX7_tileColumns 19 = .ok (.imul, 1) := by decide +kernel
theorem dX7_tileColumns_20 : decode cX7_tileColumns 20 = .ok (.isub, 1) := by decide +kernel
theorem dX7_tileColumns_21 : decode cX7_tileColumns 21 = .ok (.istore_n 1, 1) := by decide +kernel
theorem dX7_tileColumns_22 : decode cX7_tileColumns 22 = .ok (.iload_n 1, 1) := by decide +kernel
theorem dX7_tileColumns_23 : decode cX7_tileColumns 23 = .ok (.aload_n 0, 1) := by decide +kernel
theorem dX7_tileColumns_24 : decode cX7_tileColumns 24 = .ok (.getfield 7, 3) := by decide +kernel
theorem dX7_tileColumns_27 : decode cX7_tileColumns 27 = .ok (.iconst 0, 1) := by decide +kernel
theorem dX7_tileColumns_28 : decode cX7_tileColumns 28 = .ok (.iaload, 1) := by decide +kernel
theorem dX7_tileColumns_29 : decode cX7_tileColumns 29 = .ok (.if_icmp .ge 7, 3) := by decide +kernel
theorem dX7_tileColumns_32 : decode cX7_tileColumns 32 = .ok (.iload_n 1, 1) := by decide +kernel
theorem dX7_tileColumns_33 : decode cX7_tileColumns 33 = .ok (.goto 9, 3) := by decide +kernel
theorem dX7_tileColumns_36 : decode cX7_tileColumns 36 = .ok (.aload_n 0, 1) := by decide +kernel
theorem dX7_tileColumns_37 : decode cX7_tileColumns 37 = .ok (.getfield 7, 3) := by decide +kernel
theorem dX7_tileColumns_40 : decode cX7_tileColumns 40 = .ok (.iconst 0, 1) := by decide +kernel
theorem dX7_tileColumns_41 : decode cX7_tileColumns 41 = .ok (.iaload, 1) := by decide +kernel
theorem dX7_tileColumns_42 : decode cX7_tileColumns 42 = .ok (.ireturn, 1) := by decide +kernel
set_option maxRecDepth 20000 in
theorem ggX7_ticks_X7_tileRows : GoodIn wsX7_ticks wsX7_tileRows := goodIn_r _ [6, 1, 11, 12, 13, 14, 15, 16, 17, 18, 19, 20, 21, 22, 23, 24, 25, 26] (by decide +kernel) (by decide +kernel)
set_option maxRecDepth 20000 in
theorem gX7_ticks_X7_tileRows : GoodIn wsX7_ticks (wsV RX7 63 RX7 yX7_tileRows wsX7_tileRows) := goodIn_app (goodIn_of _ (by decide +kernel)) ggX7_ticks_X7_tileRows
set_option maxRecDepth 20000 in
theorem ggX7_ticks_X7_tileColumns : GoodIn wsX7_ticks wsX7_tileColumns := goodIn_r _ [10, 1, 11, 12, 13, 14, 15, 16, 17, 18, 19, 20, 21, 22, 23, 24, 25, 26] (by decide +kernel) (by decide +kernel)
set_option maxRecDepth 20000 in
theorem gX7_ticks_X7_tileColumns : GoodIn wsX7_ticks (wsV RX7 66 RX7 yX7_tileColumns wsX7_tileColumns) := goodIn_app (goodIn_of _ (by decide +kernel)) ggX7_ticks_X7_tileColumns
theorem dX7_ticks_0 : decode cX7_ticks 0 = .ok (.aload_n 0, 1) := by decide +kernel
theorem dX7_ticks_1 : decode cX7_ticks 1 = .ok (.invokevirtual 63, 3) := by decide +kernel
theorem dX7_ticks_4 : decode cX7_ticks 4 = .ok (.aload_n 0, 1) := by decide +kernel
theorem dX7_ticks_5 : decode cX7_ticks 5 = .ok (.invokevirtual 66, 3) := by decide +kernel
theorem dX7_ticks_8 : decode cX7_ticks 8 = .ok (.iadd, 1) := by decide +kernel
theorem dX7_ticks_9 : decode cX7_ticks 9 = .ok (.aload_n 0, 1) := by decide +kernel
theorem dX7_ticks_10 : decode cX7_ticks 10 = .ok (.getfield 7, 3) := by decide +kernel
theorem dX7_ticks_13 : decode cX7_ticks 13 = .ok (.iconst 2, 1) := by decide +kernel
theorem dX7_ticks_14 : decode cX7_ticks 14 = .ok (.iaload, 1) := by decide +kernel
theorem dX7_ticks_15 : decode cX7_ticks 15 = .ok (.iadd, 1) := by decide +kernel
theorem dX7_ticks_16 : decode cX7_ticks 16 = .ok (.iconst 2, 1) := by decide +kernel
theorem dX7_ticks_17 : decode cX7_ticks 17 = .ok (.isub, 1) := by decide +kernel
theorem dX7_ticks_18 : decode cX7_ticks 18 = .ok (.ireturn, 1) := by decide +kernel
set_option maxRecDepth 20000 in
theorem ggX7_begins_X7_clears : GoodIn wsX7_begins wsX7_clears := goodIn_r _ [6, 1, 7, 8, 9, 10, 11, 12, 13, 14, 15, 16, 17, 18, 19, 20, 21, 22] (by decide +kernel) (by decide +kernel)
set_option maxRecDepth 20000 in
theorem gX7_begins_X7_clears : GoodIn wsX7_begins (wsV RX7 41 RX7 yX7_clears wsX7_clears) := goodIn_app (goodIn_of _ (by decide +kernel)) ggX7_begins_X7_clears
theorem dX7_begins_0 : decode cX7_begins 0 = .ok (.aload_n 0, 1) := by decide +kernel
theorem dX7_begins_1 : decode cX7_begins 1 = .ok (.getfield 7, 3) := by decide +kernel
theorem dX7_begins_4 : decode cX7_begins 4 = .ok (.iconst 5, 1) := by decide +kernel
theorem dX7_begins_5 : decode cX7_begins 5 = .ok (.iconst 1, 1) := by decide +kernel
theorem dX7_begins_6 : decode cX7_begins 6 = .ok (.iastore, 1) := by decide +kernel
theorem dX7_begins_7 : decode cX7_begins 7 = .ok (.aload_n 0, 1) := by decide +kernel
theorem dX7_begins_8 : decode cX7_begins 8 = .ok (.getfield 7, 3) := by decide +kernel
theorem dX7_begins_11 : decode cX7_begins 11 = .ok (.bipush 6, 2) := by decide +kernel
theorem dX7_begins_13 : decode cX7_begins 13 = .ok (.iload_n 1, 1) := by decide +kernel
theorem dX7_begins_14 : decode cX7_begins 14 = .ok (.iastore, 1) := by decide +kernel
theorem dX7_begins_15 : decode cX7_begins 15 = .ok (.aload_n 0, 1) := by decide +kernel
theorem dX7_begins_16 : decode cX7_begins 16 = .ok (.getfield 7, 3) := by decide +kernel
theorem dX7_begins_19 : decode cX7_begins 19 = .ok (.bipush 7, 2) := by decide +kernel
theorem dX7_begins_21 : decode cX7_begins 21 = .ok (.iload_n 2, 1) := by decide +kernel
theorem dX7_begins_22 : decode cX7_begins 22 = .ok (.iastore, 1) := by decide +kernel
theorem dX7_begins_23 : decode cX7_begins 23 = .ok (.aload_n 0, 1) := by decide +kernel
theorem dX7_begins_24 : decode cX7_begins 24 = .ok (.getfield 7, 3) := by decide +kernel
theorem dX7_begins_27 : decode cX7_begins 27 = .ok (.bipush 8, 2) := by decide +kernel
theorem dX7_begins_29 : decode cX7_begins 29 = .ok (.iconst 0, 1) := by decide +kernel
theorem dX7_begins_30 : decode cX7_begins 30 = .ok (.iastore, 1) := by decide +kernel
theorem dX7_begins_31 : decode cX7_begins 31 = .ok (.aload_n 0, 1) := by decide +kernel
theorem dX7_begins_32 : decode cX7_begins 32 = .ok (.sipush 173, 3) := by decide +kernel
theorem dX7_begins_35 : decode cX7_begins 35 = .ok (.bipush 96, 2) := by decide +kernel
theorem dX7_begins_37 : decode cX7_begins 37 = .ok (.invokevirtual 41, 3) := by decide +kernel
theorem dX7_begins_40 : decode cX7_begins 40 = .ok (.return_, 1) := by decide +kernel
set_option maxRecDepth 20000 in
theorem ggX7_begin_X7_along : GoodIn wsX7_begin wsX7_along := goodIn_r _ [8, 1, 38, 39, 40, 41, 42, 43, 44, 45, 46, 47, 48, 49, 50, 51, 52, 53] (by decide +kernel) (by decide +kernel)
set_option maxRecDepth 20000 in
theorem gX7_begin_X7_along : GoodIn wsX7_begin (wsV RX7 29 RX7 yX7_along wsX7_along) := goodIn_app (goodIn_of _ (by decide +kernel)) ggX7_begin_X7_along
set_option maxRecDepth 20000 in
theorem ggX7_begin_X7_in : GoodIn wsX7_begin wsX7_in := goodIn_r _ [11] (by decide +kernel) (by decide +kernel)
set_option maxRecDepth 20000 in
theorem gX7_begin_X7_in : GoodIn wsX7_begin (va_wsS RX7 33 yX7_in wsX7_in) := goodIn_app (goodIn_of _ (by decide +kernel)) ggX7_begin_X7_in
set_option maxRecDepth 20000 in
theorem ggX7_begin_X7_changes : GoodIn wsX7_begin wsX7_changes := goodIn_r _ [15, 16, 17, 1, 38, 39, 40, 41, 42, 43, 44, 45, 46, 47, 48, 49, 50, 51, 52, 53] (by decide +kernel) (by decide +kernel)
set_option maxRecDepth 20000 in
theorem gX7_begin_X7_changes : GoodIn wsX7_begin (wsV RX7 38 RX7 yX7_changes wsX7_changes) := goodIn_app (goodIn_of _ (by decide +kernel)) ggX7_begin_X7_changes
set_option maxRecDepth 20000 in
theorem ggX7_begin_X7_begins : GoodIn wsX7_begin wsX7_begins := goodIn_r _ [21, 1, 22, 23, 24, 7, 25, 38, 39, 40, 41, 42, 43, 44, 45, 46, 47, 48, 49, 50, 51, 52, 53] (by decide +kernel) (by decide +kernel)
set_option maxRecDepth 20000 in
theorem gX7_begin_X7_begins : GoodIn wsX7_begin (wsV RX7 69 RX7 yX7_begins wsX7_begins) := goodIn_app (goodIn_of _ (by decide +kernel)) ggX7_begin_X7_begins
set_option maxRecDepth 20000 in
theorem ggX7_begin_X7_ticks : GoodIn wsX7_begin wsX7_ticks := goodIn_r _ [29, 1, 30, 31, 32, 7, 33, 34, 35, 36, 37, 38, 39, 40, 41, 42, 43, 44, 45, 46, 47, 48, 49, 50, 51, 52, 53] (by decide +kernel) (by decide +kernel)
set_option maxRecDepth 20000 in
theorem gX7_begin_X7_ticks : GoodIn wsX7_begin (wsV RX7 72 RX7 yX7_ticks wsX7_ticks) := goodIn_app (goodIn_of _ (by decide +kernel)) ggX7_begin_X7_ticks
theorem dX7_begin_0 : decode cX7_begin 0 = .ok (.iload_n 1, 1) := by decide +kernel
theorem dX7_begin_1 : decode cX7_begin 1 = .ok (.iconst 0, 1) := by decide +kernel
theorem dX7_begin_2 : decode cX7_begin 2 = .ok (.aload_n 0, 1) := by decide +kernel
theorem dX7_begin_3 : decode cX7_begin 3 = .ok (.aload_n 0, 1) := by decide +kernel
theorem dX7_begin_4 : decode cX7_begin 4 = .ok (.getfield 7, 3) := by decide +kernel
theorem dX7_begin_7 : decode cX7_begin 7 = .ok (.iconst 1, 1) := by decide +kernel
theorem dX7_begin_8 : decode cX7_begin 8 = .ok (.iaload, 1) := by decide +kernel
theorem dX7_begin_9 : decode cX7_begin 9 = .ok (.invokevirtual 29, 3) := by decide +kernel
theorem dX7_begin_12 : decode cX7_begin 12 = .ok (.iconst 1, 1) := by decide +kernel
theorem dX7_begin_13 : decode cX7_begin 13 = .ok (.isub, 1) := by decide +kernel
theorem dX7_begin_14 : decode cX7_begin 14 = .ok (.invokestatic 33, 3) := by decide +kernel
theorem dX7_begin_17 : decode cX7_begin 17 = .ok (.ifCond .eq 23, 3) := by decide +kernel
theorem dX7_begin_20 : decode cX7_begin 20 = .ok (.iload_n 2, 1) := by decide +kernel
theorem dX7_begin_21 : decode cX7_begin 21 = .ok (.iconst 0, 1) := by decide +kernel
theorem dX7_begin_22 : decode cX7_begin 22 = .ok (.aload_n 0, 1) := by decide +kernel
theorem dX7_begin_23 : decode cX7_begin 23 = .ok (.aload_n 0, 1) := by decide +kernel
theorem dX7_begin_24 : decode cX7_begin 24 = .ok (.getfield 7, 3) := by decide +kernel
theorem dX7_begin_27 : decode cX7_begin 27 = .ok (.iconst 3, 1) := by decide +kernel
theorem dX7_begin_28 : decode cX7_begin 28 = .ok (.iaload, 1) := by decide +kernel
theorem dX7_begin_29 : decode cX7_begin 29 = .ok (.invokevirtual 29, 3) := by decide +kernel
theorem dX7_begin_32 : decode cX7_begin 32 = .ok (.iconst 1, 1) := by decide +kernel
theorem dX7_begin_33 : decode cX7_begin 33 = .ok (.isub, 1) := by decide +kernel
theorem dX7_begin_34 : decode cX7_begin 34 = .ok (.invokestatic 33, 3) := by decide +kernel
theorem dX7_begin_37 : decode cX7_begin 37 = .ok (.ifCond .ne 6, 3) := by decide +kernel
theorem dX7_begin_40 : decode cX7_begin 40 = .ok (.ldc 37, 2) := by decide +kernel
theorem dX7_begin_42 : decode cX7_begin 42 = .ok (.ireturn, 1) := by decide +kernel
theorem dX7_begin_43 : decode cX7_begin 43 = .ok (.aload_n 0, 1) := by decide +kernel
theorem dX7_begin_44 : decode cX7_begin 44 = .ok (.getfield 7, 3) := by decide +kernel
theorem dX7_begin_47 : decode cX7_begin 47 = .ok (.iconst 5, 1) := by decide +kernel
theorem dX7_begin_48 : decode cX7_begin 48 = .ok (.iaload, 1) := by decide +kernel
theorem dX7_begin_49 : decode cX7_begin 49 = .ok (.iconst 1, 1) := by decide +kernel
theorem dX7_begin_50 : decode cX7_begin 50 = .ok (.if_icmp .ne 6, 3) := by decide +kernel
theorem dX7_begin_53 : decode cX7_begin 53 = .ok (.ldc 58, 2) := by decide +kernel
theorem dX7_begin_55 : decode cX7_begin 55 = .ok (.ireturn, 1) := by decide +kernel
theorem dX7_begin_56 : decode cX7_begin 56 = .ok (.aload_n 0, 1) := by decide +kernel
theorem dX7_begin_57 : decode cX7_begin 57 = .ok (.invokevirtual 38, 3) := by decide +kernel
theorem dX7_begin_60 : decode cX7_begin 60 = .ok (.aload_n 0, 1) := by decide +kernel
theorem dX7_begin_61 : decode cX7_begin 61 = .ok (.iload_n 1, 1) := by decide +kernel
theorem dX7_begin_62 : decode cX7_begin 62 = .ok (.iload_n 2, 1) := by decide +kernel
theorem dX7_begin_63 : decode cX7_begin 63 = .ok (.invokevirtual 69, 3) := by decide +kernel
theorem dX7_begin_66 : decode cX7_begin 66 = .ok (.aload_n 0, 1) := by decide +kernel
theorem dX7_begin_67 : decode cX7_begin 67 = .ok (.invokevirtual 72, 3) := by decide +kernel
theorem dX7_begin_70 : decode cX7_begin 70 = .ok (.ireturn, 1) := by decide +kernel
theorem dX7_placeOf_0 : decode cX7_placeOf 0 = .ok (.iload_n 1, 1) := by decide +kernel
theorem dX7_placeOf_1 : decode cX7_placeOf 1 = .ok (.aload_n 0, 1) := by decide +kernel
theorem dX7_placeOf_2 : decode cX7_placeOf 2 = .ok (.getfield 7, 3) := by decide +kernel
theorem dX7_placeOf_5 : decode cX7_placeOf 5 = .ok (.iconst 4, 1) := by decide +kernel
theorem dX7_placeOf_6 : decode cX7_placeOf 6 = .ok (.iaload, 1) := by decide +kernel
theorem dX7_placeOf_7 : decode cX7_placeOf 7 = .ok (.if_icmp .ge 7, 3) := by decide +kernel
theorem dX7_placeOf_10 : decode cX7_placeOf 10 = .ok (.iload_n 1, 1) := by decide +kernel
theorem dX7_placeOf_11 : decode cX7_placeOf 11 = .ok (.goto 6, 3) := by decide +kernel
theorem dX7_placeOf_14 : decode cX7_placeOf 14 = .ok (.iload_n 1, 1) := by decide +kernel
theorem dX7_placeOf_15 : decode cX7_placeOf 15 = .ok (.iconst 1, 1) := by decide +kernel
theorem dX7_placeOf_16 : decode cX7_placeOf 16 = .ok (.iadd, 1) := by decide +kernel
theorem dX7_placeOf_17 : decode cX7_placeOf 17 = .ok (.ireturn, 1) := by decide +kernel
set_option maxRecDepth 20000 in
theorem ggX7_faultOf_X7_placeOf : GoodIn wsX7_faultOf wsX7_placeOf := goodIn_r _ [6, 1, 7, 8, 9, 10, 11, 12, 13, 14, 15, 16, 17, 18, 19, 20, 21, 22] (by decide +kernel) (by decide +kernel)
set_option maxRecDepth 20000 in
theorem gX7_faultOf_X7_placeOf : GoodIn wsX7_faultOf (wsV RX7 75 RX7 yX7_placeOf wsX7_placeOf) := goodIn_app (goodIn_of _ (by decide +kernel)) ggX7_faultOf_X7_placeOf
theorem dX7_faultOf_0 : decode cX7_faultOf 0 = .ok (.aload_n 0, 1) := by decide +kernel
theorem dX7_faultOf_1 : decode cX7_faultOf 1 = .ok (.getfield 7, 3) := by decide +kernel
theorem dX7_faultOf_4 : decode cX7_faultOf 4 = .ok (.sipush 153, 3) := by decide +kernel
theorem dX7_faultOf_7 : decode cX7_faultOf 7 = .ok (.iconst 5, 1) := by decide +kernel
theorem dX7_faultOf_8 : decode cX7_faultOf 8 = .ok (.iload_n 1, 1) := by decide +kernel
theorem dX7_faultOf_9 : decode cX7_faultOf 9 = .ok (.imul, 1) := by decide +kernel
theorem dX7_faultOf_10 : decode cX7_faultOf 10 = .ok (.iadd, 1) := by decide +kernel
theorem dX7_faultOf_11 : decode cX7_faultOf 11 = .ok (.aload_n 0, 1) := by decide +kernel
theorem dX7_faultOf_12 : decode cX7_faultOf 12 = .ok (.iload_n 2, 1) := by decide +kernel
theorem dX7_faultOf_13 : decode cX7_faultOf 13 = .ok (.invokevirtual 75, 3) := by decide +kernel
theorem dX7_faultOf_16 : decode cX7_faultOf 16 = .ok (.iadd, 1) := by decide +kernel
theorem dX7_faultOf_17 : decode cX7_faultOf 17 = .ok (.iaload, 1) := by decide +kernel
theorem dX7_faultOf_18 : decode cX7_faultOf 18 = .ok (.ireturn, 1) := by decide +kernel
theorem dX7_cell_0 : decode cX7_cell 0 = .ok (.sipush 173, 3) := by decide +kernel
theorem dX7_cell_3 : decode cX7_cell 3 = .ok (.bipush 24, 2) := by decide +kernel
theorem dX7_cell_5 : decode cX7_cell 5 = .ok (.iload_n 0, 1) := by decide +kernel
theorem dX7_cell_6 : decode cX7_cell 6 = .ok (.imul, 1) := by decide +kernel
theorem dX7_cell_7 : decode cX7_cell 7 = .ok (.iadd, 1) := by decide +kernel
theorem dX7_cell_8 : decode cX7_cell 8 = .ok (.bipush 6, 2) := by decide +kernel
theorem dX7_cell_10 : decode cX7_cell 10 = .ok (.iload_n 1, 1) := by decide +kernel
theorem dX7_cell_11 : decode cX7_cell 11 = .ok (.imul, 1) := by decide +kernel
theorem dX7_cell_12 : decode cX7_cell 12 = .ok (.iadd, 1) := by decide +kernel
theorem dX7_cell_13 : decode cX7_cell 13 = .ok (.ireturn, 1) := by decide +kernel
set_option maxRecDepth 20000 in
theorem ggX7_gets_X7_in : GoodIn wsX7_gets wsX7_in := goodIn_r _ [9] (by decide +kernel) (by decide +kernel)
set_option maxRecDepth 20000 in
theorem gX7_gets_X7_in : GoodIn wsX7_gets (va_wsS RX7 33 yX7_in wsX7_in) := goodIn_app (goodIn_of _ (by decide +kernel)) ggX7_gets_X7_in
set_option maxRecDepth 20000 in
theorem ggX7_gets_X7_cell : GoodIn wsX7_gets wsX7_cell := goodIn_r _ [12] (by decide +kernel) (by decide +kernel)
set_option maxRecDepth 20000 in
theorem gX7_gets_X7_cell : GoodIn wsX7_gets (va_wsS RX7 78 yX7_cell wsX7_cell) := goodIn_app (goodIn_of _ (by decide +kernel)) ggX7_gets_X7_cell
theorem dX7_gets_0 : decode cX7_gets 0 = .ok (.aload_n 0, 1) := by decide +kernel
theorem dX7_gets_1 : decode cX7_gets 1 = .ok (.getfield 7, 3) := by decide +kernel
theorem dX7_gets_4 : decode cX7_gets 4 = .ok (.bipush 8, 2) := by decide +kernel
theorem dX7_gets_6 : decode cX7_gets 6 = .ok (.iaload, 1) := by decide +kernel
theorem dX7_gets_7 : decode cX7_gets 7 = .ok (.iload_n 1, 1) := by decide +kernel
theorem dX7_gets_8 : decode cX7_gets 8 = .ok (.isub, 1) := by decide +kernel
theorem dX7_gets_9 : decode cX7_gets 9 = .ok (.istore_n 3, 1) := by decide +kernel
theorem dX7_gets_10 : decode cX7_gets 10 = .ok (.aload_n 0, 1) := by decide +kernel
theorem dX7_gets_11 : decode cX7_gets 11 = .ok (.getfield 7, 3) := by decide +kernel
theorem dX7_gets_14 : decode cX7_gets 14 = .ok (.bipush 8, 2) := by decide +kernel
theorem dX7_gets_16 : decode cX7_gets 16 = .ok (.iaload, 1) := by decide +kernel
theorem dX7_gets_17 : decode cX7_gets 17 = .ok (.iload_n 2, 1) := by decide +kernel
theorem dX7_gets_18 : decode cX7_gets 18 = .ok (.isub, 1) := by decide +kernel
theorem dX7_gets_19 : decode cX7_gets 19 = .ok (.istore 4, 2) := by decide +kernel
theorem dX7_gets_21 : decode cX7_gets 21 = .ok (.aload_n 0, 1) := by decide +kernel
theorem dX7_gets_22 : decode cX7_gets 22 = .ok (.iload_n 2, 1) := by decide +kernel
theorem dX7_gets_23 : decode cX7_gets 23 = .ok (.ifCond .ne 19, 3) := by decide +kernel
theorem dX7_gets_26 : decode cX7_gets 26 = .ok (.iload_n 3, 1) := by decide +kernel
theorem dX7_gets_27 : decode cX7_gets 27 = .ok (.iconst 0, 1) := by decide +kernel
theorem dX7_gets_28 : decode cX7_gets 28 = .ok (.aload_n 0, 1) := by decide +kernel
theorem dX7_gets_29 : decode cX7_gets 29 = .ok (.getfield 7, 3) := by decide +kernel
theorem dX7_gets_32 : decode cX7_gets 32 = .ok (.iconst 2, 1) := by decide +kernel
theorem dX7_gets_33 : decode cX7_gets 33 = .ok (.iaload, 1) := by decide +kernel
theorem dX7_gets_34 : decode cX7_gets 34 = .ok (.iconst 1, 1) := by decide +kernel
theorem dX7_gets_35 : decode cX7_gets 35 = .ok (.isub, 1) := by decide +kernel
theorem dX7_gets_36 : decode cX7_gets 36 = .ok (.invokestatic 33, 3) := by decide +kernel
theorem dX7_gets_39 : decode cX7_gets 39 = .ok (.goto 26, 3) := by decide +kernel
theorem dX7_gets_42 : decode cX7_gets 42 = .ok (.aload_n 0, 1) := by decide +kernel
theorem dX7_gets_43 : decode cX7_gets 43 = .ok (.getfield 7, 3) := by decide +kernel
theorem dX7_gets_46 : decode cX7_gets 46 = .ok (.iload_n 1, 1) := by decide +kernel
theorem dX7_gets_47 : decode cX7_gets 47 = .ok (.iload_n 2, 1) := by decide +kernel
theorem dX7_gets_48 : decode cX7_gets 48 = .ok (.iconst 1, 1) := by decide +kernel
theorem dX7_gets_49 : decode cX7_gets 49 = .ok (.isub, 1) := by decide +kernel
theorem dX7_gets_50 : decode cX7_gets 50 = .ok (.invokestatic 78, 3) := by decide +kernel
theorem dX7_gets_53 : decode cX7_gets 53 = .ok (.iconst 1, 1) := by decide +kernel
theorem dX7_gets_54 : decode cX7_gets 54 = .ok (.iadd, 1) := by decide +kernel
theorem dX7_gets_55 : decode cX7_gets 55 = .ok (.iaload, 1) := by decide +kernel
theorem dX7_gets_56 : decode cX7_gets 56 = .ok (.iconst 1, 1) := by decide +kernel
theorem dX7_gets_57 : decode cX7_gets 57 = .ok (.if_icmp .ne 7, 3) := by decide +kernel
theorem dX7_gets_60 : decode cX7_gets 60 = .ok (.iconst 1, 1) := by decide +kernel
theorem dX7_gets_61 : decode cX7_gets 61 = .ok (.goto 4, 3) := by decide +kernel
theorem dX7_gets_64 : decode cX7_gets 64 = .ok (.iconst 0, 1) := by decide +kernel
theorem dX7_gets_65 : decode cX7_gets 65 = .ok (.putfield 82, 3) := by decide +kernel
theorem dX7_gets_68 : decode cX7_gets 68 = .ok (.aload_n 0, 1) := by decide +kernel
theorem dX7_gets_69 : decode cX7_gets 69 = .ok (.iload_n 1, 1) := by decide +kernel
theorem dX7_gets_70 : decode cX7_gets 70 = .ok (.ifCond .ne 20, 3) := by decide +kernel
theorem dX7_gets_73 : decode cX7_gets 73 = .ok (.iload 4, 2) := by decide +kernel
theorem dX7_gets_75 : decode cX7_gets 75 = .ok (.iconst 0, 1) := by decide +kernel
theorem dX7_gets_76 : decode cX7_gets 76 = .ok (.aload_n 0, 1) := by decide +kernel
theorem dX7_gets_77 : decode cX7_gets 77 = .ok (.getfield 7, 3) := by decide +kernel
theorem dX7_gets_80 : decode cX7_gets 80 = .ok (.iconst 2, 1) := by decide +kernel
theorem dX7_gets_81 : decode cX7_gets 81 = .ok (.iaload, 1) := by decide +kernel
theorem dX7_gets_82 : decode cX7_gets 82 = .ok (.iconst 1, 1) := by decide +kernel
theorem dX7_gets_83 : decode cX7_gets 83 = .ok (.isub, 1) := by decide +kernel
theorem dX7_gets_84 : decode cX7_gets 84 = .ok (.invokestatic 33, 3) := by decide +kernel
theorem dX7_gets_87 : decode cX7_gets 87 = .ok (.goto 26, 3) := by decide +kernel
theorem dX7_gets_90 : decode cX7_gets 90 = .ok (.aload_n 0, 1) := by decide +kernel
theorem dX7_gets_91 : decode cX7_gets 91 = .ok (.getfield 7, 3) := by decide +kernel
theorem dX7_gets_94 : decode cX7_gets 94 = .ok (.iload_n 1, 1) := by decide +kernel
theorem dX7_gets_95 : decode cX7_gets 95 = .ok (.iconst 1, 1) := by decide +kernel
theorem dX7_gets_96 : decode cX7_gets 96 = .ok (.isub, 1) := by decide +kernel
theorem dX7_gets_97 : decode cX7_gets 97 = .ok (.iload_n 2, 1) := by decide +kernel
theorem dX7_gets_98 : decode cX7_gets 98 = .ok (.invokestatic 78, 3) := by decide +kernel
theorem dX7_gets_101 : decode cX7_gets 101 = .ok (.iconst 3, 1) := by decide +kernel
theorem dX7_gets_102 : decode cX7_gets 102 = .ok (.iadd, 1) := by decide +kernel
theorem dX7_gets_103 : decode cX7_gets 103 = .ok (.iaload, 1) := by decide +kernel
theorem dX7_gets_104 : decode cX7_gets 104 = .ok (.iconst 1, 1) := by decide +kernel
theorem dX7_gets_105 : decode cX7_gets 105 = .ok (.if_icmp .ne 7, 3) := by decide +kernel
theorem dX7_gets_108 : decode cX7_gets 108 = .ok (.iconst 1, 1) := by decide +kernel
theorem dX7_gets_109 : decode cX7_gets 109 = .ok (.goto 4, 3) := by decide +kernel
theorem dX7_gets_112 : decode cX7_gets 112 = .ok (.iconst 0, 1) := by decide +kernel
theorem dX7_gets_113 : decode cX7_gets 113 = .ok (.putfield 86, 3) := by decide +kernel
theorem dX7_gets_116 : decode cX7_gets 116 = .ok (.aload_n 0, 1) := by decide +kernel
theorem dX7_gets_117 : decode cX7_gets 117 = .ok (.iconst 0, 1) := by decide +kernel
theorem dX7_gets_118 : decode cX7_gets 118 = .ok (.putfield 89, 3) := by decide +kernel
theorem dX7_gets_121 : decode cX7_gets 121 = .ok (.aload_n 0, 1) := by decide +kernel
theorem dX7_gets_122 : decode cX7_gets 122 = .ok (.iconst 0, 1) := by decide +kernel
theorem dX7_gets_123 : decode cX7_gets 123 = .ok (.putfield 92, 3) := by decide +kernel
theorem dX7_gets_126 : decode cX7_gets 126 = .ok (.aload_n 0, 1) := by decide +kernel
theorem dX7_gets_127 : decode cX7_gets 127 = .ok (.getfield 82, 3) := by decide +kernel
theorem dX7_gets_130 : decode cX7_gets 130 = .ok (.ifCond .eq 57, 3) := by decide +kernel
theorem dX7_gets_133 : decode cX7_gets 133 = .ok (.aload_n 0, 1) := by decide +kernel
theorem dX7_gets_134 : decode cX7_gets 134 = .ok (.iload_n 2, 1) := by decide +kernel
theorem dX7_gets_135 : decode cX7_gets 135 = .ok (.ifCond .ne 35, 3) := by decide +kernel
theorem dX7_gets_138 : decode cX7_gets 138 = .ok (.aload_n 0, 1) := by decide +kernel
theorem dX7_gets_139 : decode cX7_gets 139 = .ok (.getfield 7, 3) := by decide +kernel
theorem dX7_gets_142 : decode cX7_gets 142 = .ok (.bipush 9, 2) := by decide +kernel
theorem dX7_gets_144 : decode cX7_gets 144 = .ok (.bipush 6, 2) := by decide +kernel
theorem dX7_gets_146 : decode cX7_gets 146 = .ok (.aload_n 0, 1) := by decide +kernel
theorem dX7_gets_147 : decode cX7_gets 147 = .ok (.getfield 7, 3) := by decide +kernel
theorem dX7_gets_150 : decode cX7_gets 150 = .ok (.iconst 0, 1) := by decide +kernel
theorem dX7_gets_151 : decode cX7_gets 151 = .ok (.iaload, 1) := by decide +kernel
theorem dX7_gets_152 : decode cX7_gets 152 = .ok (.aload_n 0, 1) := by decide +kernel
theorem dX7_gets_153 : decode cX7_gets 153 = .ok (.getfield 7, 3) := by decide +kernel
theorem dX7_gets_156 : decode cX7_gets 156 = .ok (.bipush 6, 2) := by decide +kernel
theorem dX7_gets_158 : decode cX7_gets 158 = .ok (.iaload, 1) := by decide +kernel
theorem dX7_gets_159 : decode cX7_gets 159 = .ok (.imul, 1) := by decide +kernel
theorem dX7_gets_160 : decode cX7_gets 160 = .ok (.iload_n 1, 1) := by decide +kernel
theorem dX7_gets_161 : decode cX7_gets 161 = .ok (.iadd, 1) := by decide +kernel
theorem dX7_gets_162 : decode cX7_gets 162 = .ok (.imul, 1) := by decide +kernel
theorem dX7_gets_163 : decode cX7_gets 163 = .ok (.iadd, 1) := by decide +kernel
theorem dX7_gets_164 : decode cX7_gets 164 = .ok (.iload_n 3, 1) := by decide +kernel
theorem dX7_gets_165 : decode cX7_gets 165 = .ok (.iadd, 1) := by decide +kernel
theorem dX7_gets_166 : decode cX7_gets 166 = .ok (.iaload, 1) := by decide +kernel
theorem dX7_gets_167 : decode cX7_gets 167 = .ok (.goto 17, 3) := by decide +kernel
theorem dX7_gets_170 : decode cX7_gets 170 = .ok (.aload_n 0, 1) := by decide +kernel
theorem dX7_gets_171 : decode cX7_gets 171 = .ok (.getfield 7, 3) := by decide +kernel
theorem dX7_gets_174 : decode cX7_gets 174 = .ok (.iload_n 1, 1) := by decide +kernel
theorem dX7_gets_175 : decode cX7_gets 175 = .ok (.iload_n 2, 1) := by decide +kernel
theorem dX7_gets_176 : decode cX7_gets 176 = .ok (.iconst 1, 1) := by decide +kernel
theorem dX7_gets_177 : decode cX7_gets 177 = .ok (.isub, 1) := by decide +kernel
theorem dX7_gets_178 : decode cX7_gets 178 = .ok (.invokestatic 78, 3) := by decide +kernel
theorem dX7_gets_181 : decode cX7_gets 181 = .ok (.iconst 2, 1) := by decide +kernel
theorem dX7_gets_182 : decode cX7_gets 182 = .ok (.iadd, 1) := by decide +kernel
theorem dX7_gets_183 : decode cX7_gets 183 = .ok (.iaload, 1) := by decide +kernel
theorem dX7_gets_184 : decode cX7_gets 184 = .ok (.putfield 89, 3) := by decide +kernel
theorem dX7_gets_187 : decode cX7_gets 187 = .ok (.aload_n 0, 1) := by decide +kernel
theorem dX7_gets_188 : decode cX7_gets 188 = .ok (.getfield 86, 3) := by decide +kernel
theorem dX7_gets_191 : decode cX7_gets 191 = .ok (.ifCond .eq 58, 3) := by decide +kernel
theorem dX7_gets_194 : decode cX7_gets 194 = .ok (.aload_n 0, 1) := by decide +kernel
theorem dX7_gets_195 : decode cX7_gets 195 = .ok (.iload_n 1, 1) := by decide +kernel
theorem dX7_gets_196 : decode cX7_gets 196 = .ok (.ifCond .ne 36, 3) := by decide +kernel
theorem dX7_gets_199 : decode cX7_gets 199 = .ok (.aload_n 0, 1) := by decide +kernel
theorem dX7_gets_200 : decode cX7_gets 200 = .ok (.getfield 7, 3) := by decide +kernel
theorem dX7_gets_203 : decode cX7_gets 203 = .ok (.bipush 45, 2) := by decide +kernel
theorem dX7_gets_205 : decode cX7_gets 205 = .ok (.bipush 6, 2) := by decide +kernel
theorem dX7_gets_207 : decode cX7_gets 207 = .ok (.iload 4, 2) := by decide +kernel
theorem dX7_gets_209 : decode cX7_gets 209 = .ok (.imul, 1) := by decide +kernel
theorem dX7_gets_210 : decode cX7_gets 210 = .ok (.iadd, 1) := by decide +kernel
theorem dX7_gets_211 : decode cX7_gets 211 = .ok (.aload_n 0, 1) := by decide +kernel
theorem dX7_gets_212 : decode cX7_gets 212 = .ok (.getfield 7, 3) := by decide +kernel
theorem dX7_gets_215 : decode cX7_gets 215 = .ok (.iconst 0, 1) := by decide +kernel
theorem dX7_gets_216 : decode cX7_gets 216 = .ok (.iaload, 1) := by decide +kernel
theorem dX7_gets_217 : decode cX7_gets 217 = .ok (.aload_n 0, 1) := by decide +kernel
theorem dX7_gets_218 : decode cX7_gets 218 = .ok (.getfield 7, 3) := by decide +kernel
theorem dX7_gets_221 : decode cX7_gets 221 = .ok (.bipush 7, 2) := by decide +kernel
theorem dX7_gets_223 : decode cX7_gets 223 = .ok (.iaload, 1) := by decide +kernel
theorem dX7_gets_224 : decode cX7_gets 224 = .ok (.imul, 1) := by decide +kernel
theorem dX7_gets_225 : decode cX7_gets 225 = .ok (.iadd, 1) := by decide +kernel
theorem dX7_gets_226 : decode cX7_gets 226 = .ok (.iload_n 2, 1) := by decide +kernel
theorem dX7_gets_227 : decode cX7_gets 227 = .ok (.iadd, 1) := by decide +kernel
theorem dX7_gets_228 : decode cX7_gets 228 = .ok (.iaload, 1) := by decide +kernel
theorem dX7_gets_229 : decode cX7_gets 229 = .ok (.goto 17, 3) := by decide +kernel
theorem dX7_gets_232 : decode cX7_gets 232 = .ok (.aload_n 0, 1) := by decide +kernel
theorem dX7_gets_233 : decode cX7_gets 233 = .ok (.getfield 7, 3) := by decide +kernel
theorem dX7_gets_236 : decode cX7_gets 236 = .ok (.iload_n 1, 1) := by decide +kernel
theorem dX7_gets_237 : decode cX7_gets 237 = .ok (.iconst 1, 1) := by decide +kernel
theorem dX7_gets_238 : decode cX7_gets 238 = .ok (.isub, 1) := by decide +kernel
theorem dX7_gets_239 : decode cX7_gets 239 = .ok (.iload_n 2, 1) := by decide +kernel
theorem dX7_gets_240 : decode cX7_gets 240 = .ok (.invokestatic 78, 3) := by decide +kernel
theorem dX7_gets_243 : decode cX7_gets 243 = .ok (.iconst 4, 1) := by decide +kernel
theorem dX7_gets_244 : decode cX7_gets 244 = .ok (.iadd, 1) := by decide +kernel
theorem dX7_gets_245 : decode cX7_gets 245 = .ok (.iaload, 1) := by decide +kernel
theorem dX7_gets_246 : decode cX7_gets 246 = .ok (.putfield 92, 3) := by decide +kernel
theorem dX7_gets_249 : decode cX7_gets 249 = .ok (.return_, 1) := by decide +kernel
set_option maxRecDepth 20000 in
theorem ggX7_goes_X7_tileRows : GoodIn wsX7_goes wsX7_tileRows := goodIn_r _ [10, 3, 33, 34, 35, 36, 37, 38, 39, 40, 41, 42, 43, 44, 45, 46, 47, 48] (by decide +kernel) (by decide +kernel)
set_option maxRecDepth 20000 in
theorem gX7_goes_X7_tileRows : GoodIn wsX7_goes (wsV RX7 63 RX7 yX7_tileRows wsX7_tileRows) := goodIn_app (goodIn_of _ (by decide +kernel)) ggX7_goes_X7_tileRows
set_option maxRecDepth 20000 in
theorem ggX7_goes_X7_tileColumns : GoodIn wsX7_goes wsX7_tileColumns := goodIn_r _ [14, 3, 33, 34, 35, 36, 37, 38, 39, 40, 41, 42, 43, 44, 45, 46, 47, 48] (by decide +kernel) (by decide +kernel)
set_option maxRecDepth 20000 in
theorem gX7_goes_X7_tileColumns : GoodIn wsX7_goes (wsV RX7 66 RX7 yX7_tileColumns wsX7_tileColumns) := goodIn_app (goodIn_of _ (by decide +kernel)) ggX7_goes_X7_tileColumns
set_option maxRecDepth 20000 in
theorem ggX7_goes_X7_gets : GoodIn wsX7_goes wsX7_gets := goodIn_r _ [18, 3, 1, 2, 4, 5, 19, 20, 9, 21, 22, 23, 24, 33, 34, 35, 36, 37, 38, 39, 40, 41, 42, 43, 44, 45, 46, 47, 48] (by decide +kernel) (by decide +kernel)
set_option maxRecDepth 20000 in
theorem gX7_goes_X7_gets : GoodIn wsX7_goes (wsV RX7 95 RX7 yX7_gets wsX7_gets) := goodIn_app (goodIn_of _ (by decide +kernel)) ggX7_goes_X7_gets
set_option maxRecDepth 20000 in
theorem ggX7_goes_X7_cell : GoodIn wsX7_goes wsX7_cell := goodIn_r _ [24] (by decide +kernel) (by decide +kernel)
set_option maxRecDepth 20000 in
theorem gX7_goes_X7_cell : GoodIn wsX7_goes (va_wsS RX7 78 yX7_cell wsX7_cell) := goodIn_app (goodIn_of _ (by decide +kernel)) ggX7_goes_X7_cell
set_option maxRecDepth 20000 in
theorem ggX7_goes_X7_faultOf : GoodIn wsX7_goes wsX7_faultOf := goodIn_r _ [28, 3, 29, 30, 31, 9, 32, 33, 34, 35, 36, 37, 38, 39, 40, 41, 42, 43, 44, 45, 46, 47, 48] (by decide +kernel) (by decide +kernel)
set_option maxRecDepth 20000 in
theorem gX7_goes_X7_faultOf : GoodIn wsX7_goes (wsV RX7 98 RX7 yX7_faultOf wsX7_faultOf) := goodIn_app (goodIn_of _ (by decide +kernel)) ggX7_goes_X7_faultOf
theorem dX7_goes_0 : decode cX7_goes 0 = .ok (.aload_n 0, 1) := by decide +kernel
theorem dX7_goes_1 : decode cX7_goes 1 = .ok (.invokevirtual 63, 3) := by decide +kernel
theorem dX7_goes_4 : decode cX7_goes 4 = .ok (.iconst 1, 1) := by decide +kernel
theorem dX7_goes_5 : decode cX7_goes 5 = .ok (.isub, 1) := by decide +kernel
theorem dX7_goes_6 : decode cX7_goes 6 = .ok (.istore_n 1, 1) := by decide +kernel
theorem dX7_goes_7 : decode cX7_goes 7 = .ok (.iload_n 1, 1) := by decide +kernel
theorem dX7_goes_8 : decode cX7_goes 8 = .ok (.ifCond .lt 198, 3) := by decide +kernel
theorem dX7_goes_11 : decode cX7_goes 11 = .ok (.aload_n 0, 1) := by decide +kernel
theorem dX7_goes_12 : decode cX7_goes 12 = .ok (.invokevirtual 66, 3) := by decide +kernel
theorem dX7_goes_15 : decode cX7_goes 15 = .ok (.iconst 1, 1) := by decide +kernel
theorem dX7_goes_16 : decode cX7_goes 16 = .ok (.isub, 1) := by decide +kernel
theorem dX7_goes_17 : decode cX7_goes 17 = .ok (.istore_n 2, 1) := by decide +kernel
theorem dX7_goes_18 : decode cX7_goes 18 = .ok (.iload_n 2, 1) := by decide +kernel
theorem dX7_goes_19 : decode cX7_goes 19 = .ok (.ifCond .lt 181, 3) := by decide +kernel
theorem dX7_goes_22 : decode cX7_goes 22 = .ok (.aload_n 0, 1) := by decide +kernel
theorem dX7_goes_23 : decode cX7_goes 23 = .ok (.iload_n 1, 1) := by decide +kernel
theorem dX7_goes_24 : decode cX7_goes 24 = .ok (.iload_n 2, 1) := by decide +kernel
theorem dX7_goes_25 : decode cX7_goes 25 = .ok (.invokevirtual 95, 3) := by decide +kernel
theorem dX7_goes_28 : decode cX7_goes 28 = .ok (.iload_n 1, 1) := by decide +kernel
theorem dX7_goes_29 : decode cX7_goes 29 = .ok (.iload_n 2, 1) := by decide +kernel
theorem dX7_goes_30 : decode cX7_goes 30 = .ok (.invokestatic 78, 3) := by decide +kernel
theorem dX7_goes_33 : decode cX7_goes 33 = .ok (.istore_n 3, 1) := by decide +kernel
theorem dX7_goes_34 : decode cX7_goes 34 = .ok (.aload_n 0, 1) := by decide +kernel
theorem dX7_goes_35 : decode cX7_goes 35 = .ok (.iload_n 1, 1) := by decide +kernel
theorem dX7_goes_36 : decode cX7_goes 36 = .ok (.iload_n 2, 1) := by decide +kernel
theorem dX7_goes_37 : decode cX7_goes 37 = .ok (.invokevirtual 98, 3) := by decide +kernel
theorem dX7_goes_40 : decode cX7_goes 40 = .ok (.istore 4, 2) := by decide +kernel
theorem dX7_goes_42 : decode cX7_goes 42 = .ok (.aload_n 0, 1) := by decide +kernel
theorem dX7_goes_43 : decode cX7_goes 43 = .ok (.getfield 82, 3) := by decide +kernel
theorem dX7_goes_46 : decode cX7_goes 46 = .ok (.ifCond .eq 64, 3) := by decide +kernel
theorem dX7_goes_49 : decode cX7_goes 49 = .ok (.aload_n 0, 1) := by decide +kernel
theorem dX7_goes_50 : decode cX7_goes 50 = .ok (.getfield 86, 3) := by decide +kernel
theorem dX7_goes_53 : decode cX7_goes 53 = .ok (.ifCond .eq 57, 3) := by decide +kernel
theorem dX7_goes_56 : decode cX7_goes 56 = .ok (.aload_n 0, 1) := by decide +kernel
theorem dX7_goes_57 : decode cX7_goes 57 = .ok (.getfield 7, 3) := by decide +kernel
theorem dX7_goes_60 : decode cX7_goes 60 = .ok (.iload_n 3, 1) := by decide +kernel
theorem dX7_goes_61 : decode cX7_goes 61 = .ok (.iconst 0, 1) := by decide +kernel
theorem dX7_goes_62 : decode cX7_goes 62 = .ok (.iadd, 1) := by decide +kernel
theorem dX7_goes_63 : decode cX7_goes 63 = .ok (.dup2, 1) := by decide +kernel
theorem dX7_goes_64 : decode cX7_goes 64 = .ok (.iaload, 1) := by decide +kernel
theorem dX7_goes_65 : decode cX7_goes 65 = .ok (.aload_n 0, 1) := by decide +kernel
theorem dX7_goes_66 : decode cX7_goes 66 = .ok (.getfield 89, 3) := by decide +kernel
theorem dX7_goes_69 : decode cX7_goes 69 = .ok (.aload_n 0, 1) := by decide +kernel
theorem dX7_goes_70 : decode cX7_goes 70 = .ok (.getfield 92, 3) := by decide +kernel
theorem dX7_goes_73 : decode cX7_goes 73 = .ok (.imul, 1) := by decide +kernel
theorem dX7_goes_74 : decode cX7_goes 74 = .ok (.iload 4, 2) := by decide +kernel
theorem dX7_goes_76 : decode cX7_goes 76 = .ok (.iconst 1, 1) := by decide +kernel
theorem dX7_goes_77 : decode cX7_goes 77 = .ok (.if_icmp .ne 7, 3) := by decide +kernel
theorem dX7_goes_80 : decode cX7_goes 80 = .ok (.iconst 0, 1) := by decide +kernel
theorem dX7_goes_81 : decode cX7_goes 81 = .ok (.goto 14, 3) := by decide +kernel
theorem dX7_goes_84 : decode cX7_goes 84 = .ok (.iload 4, 2) := by decide +kernel
theorem dX7_goes_86 : decode cX7_goes 86 = .ok (.iconst 2, 1) := by decide +kernel
theorem dX7_goes_87 : decode cX7_goes 87 = .ok (.if_icmp .ne 7, 3) := by decide +kernel
theorem dX7_goes_90 : decode cX7_goes 90 = .ok (.iconst 2, 1) := by decide +kernel
theorem dX7_goes_91 : decode cX7_goes 91 = .ok (.goto 4, 3) := by decide +kernel
theorem dX7_goes_94 : decode cX7_goes 94 = .ok (.iconst 1, 1) := by decide +kernel
theorem dX7_goes_95 : decode cX7_goes 95 = .ok (.imul, 1) := by decide +kernel
theorem dX7_goes_96 : decode cX7_goes 96 = .ok (.iadd, 1) := by decide +kernel
theorem dX7_goes_97 : decode cX7_goes 97 = .ok (.iastore, 1) := by decide +kernel
theorem dX7_goes_98 : decode cX7_goes 98 = .ok (.aload_n 0, 1) := by decide +kernel
theorem dX7_goes_99 : decode cX7_goes 99 = .ok (.getfield 7, 3) := by decide +kernel
theorem dX7_goes_102 : decode cX7_goes 102 = .ok (.iload_n 3, 1) := by decide +kernel
theorem dX7_goes_103 : decode cX7_goes 103 = .ok (.iconst 5, 1) := by decide +kernel
theorem dX7_goes_104 : decode cX7_goes 104 = .ok (.iadd, 1) := by decide +kernel
theorem dX7_goes_105 : decode cX7_goes 105 = .ok (.dup2, 1) := by decide +kernel
theorem dX7_goes_106 : decode cX7_goes 106 = .ok (.iaload, 1) := by decide +kernel
theorem dX7_goes_107 : decode cX7_goes 107 = .ok (.iconst 1, 1) := by decide +kernel
theorem dX7_goes_108 : decode cX7_goes 108 = .ok (.iadd, 1) := by decide +kernel
theorem dX7_goes_109 : decode cX7_goes 109 = .ok (.iastore, 1) := by decide +kernel
theorem dX7_goes_110 : decode cX7_goes 110 = .ok (.aload_n 0, 1) := by decide +kernel
theorem dX7_goes_111 : decode cX7_goes 111 = .ok (.getfield 7, 3) := by decide +kernel
theorem dX7_goes_114 : decode cX7_goes 114 = .ok (.iload_n 3, 1) := by decide +kernel
theorem dX7_goes_115 : decode cX7_goes 115 = .ok (.iconst 1, 1) := by decide +kernel
theorem dX7_goes_116 : decode cX7_goes 116 = .ok (.iadd, 1) := by decide +kernel
theorem dX7_goes_117 : decode cX7_goes 117 = .ok (.aload_n 0, 1) := by decide +kernel
theorem dX7_goes_118 : decode cX7_goes 118 = .ok (.getfield 82, 3) := by decide +kernel
theorem dX7_goes_121 : decode cX7_goes 121 = .ok (.ifCond .eq 7, 3) := by decide +kernel
theorem dX7_goes_124 : decode cX7_goes 124 = .ok (.iconst 1, 1) := by decide +kernel
theorem dX7_goes_125 : decode cX7_goes 125 = .ok (.goto 4, 3) := by decide +kernel
theorem dX7_goes_128 : decode cX7_goes 128 = .ok (.iconst 0, 1) := by decide +kernel
theorem dX7_goes_129 : decode cX7_goes 129 = .ok (.iastore, 1) := by decide +kernel
theorem dX7_goes_130 : decode cX7_goes 130 = .ok (.aload_n 0, 1) := by decide +kernel
theorem dX7_goes_131 : decode cX7_goes 131 = .ok (.getfield 7, 3) := by decide +kernel
theorem dX7_goes_134 : decode cX7_goes 134 = .ok (.iload_n 3, 1) := by decide +kernel
theorem dX7_goes_135 : decode cX7_goes 135 = .ok (.iconst 2, 1) := by decide +kernel
theorem dX7_goes_136 : decode cX7_goes 136 = .ok (.iadd, 1) := by decide +kernel
theorem dX7_goes_137 : decode cX7_goes 137 = .ok (.iload 4, 2) := by decide +kernel
theorem dX7_goes_139 : decode cX7_goes 139 = .ok (.iconst 3, 1) := by decide +kernel
theorem dX7_goes_140 : decode cX7_goes 140 = .ok (.if_icmp .ne 7, 3) := by decide +kernel
theorem dX7_goes_143 : decode cX7_goes 143 = .ok (.iconst 0, 1) := by decide +kernel
theorem dX7_goes_144 : decode cX7_goes 144 = .ok (.goto 7, 3) := by decide +kernel
theorem dX7_goes_147 : decode cX7_goes 147 = .ok (.aload_n 0, 1) := by decide +kernel
theorem dX7_goes_148 : decode cX7_goes 148 = .ok (.getfield 89, 3) := by decide +kernel
theorem dX7_goes_151 : decode cX7_goes 151 = .ok (.iastore, 1) := by decide +kernel
theorem dX7_goes_152 : decode cX7_goes 152 = .ok (.aload_n 0, 1) := by decide +kernel
theorem dX7_goes_153 : decode cX7_goes 153 = .ok (.getfield 7, 3) := by decide +kernel
theorem dX7_goes_156 : decode cX7_goes 156 = .ok (.iload_n 3, 1) := by decide +kernel
theorem dX7_goes_157 : decode cX7_goes 157 = .ok (.iconst 3, 1) := by decide +kernel
theorem dX7_goes_158 : decode cX7_goes 158 = .ok (.iadd, 1) := by decide +kernel
theorem dX7_goes_159 : decode cX7_goes 159 = .ok (.aload_n 0, 1) := by decide +kernel
theorem dX7_goes_160 : decode cX7_goes 160 = .ok (.getfield 86, 3) := by decide +kernel
theorem dX7_goes_163 : decode cX7_goes 163 = .ok (.ifCond .eq 7, 3) := by decide +kernel
theorem dX7_goes_166 : decode cX7_goes 166 = .ok (.iconst 1, 1) := by decide +kernel
theorem dX7_goes_167 : decode cX7_goes 167 = .ok (.goto 4, 3) := by decide +kernel
theorem dX7_goes_170 : decode cX7_goes 170 = .ok (.iconst 0, 1) := by decide +kernel
theorem dX7_goes_171 : decode cX7_goes 171 = .ok (.iastore, 1) := by decide +kernel
theorem dX7_goes_172 : decode cX7_goes 172 = .ok (.aload_n 0, 1) := by decide +kernel
theorem dX7_goes_173 : decode cX7_goes 173 = .ok (.getfield 7, 3) := by decide +kernel
theorem dX7_goes_176 : decode cX7_goes 176 = .ok (.iload_n 3, 1) := by decide +kernel
theorem dX7_goes_177 : decode cX7_goes 177 = .ok (.iconst 4, 1) := by decide +kernel
theorem dX7_goes_178 : decode cX7_goes 178 = .ok (.iadd, 1) := by decide +kernel
theorem dX7_goes_179 : decode cX7_goes 179 = .ok (.iload 4, 2) := by decide +kernel
theorem dX7_goes_181 : decode cX7_goes 181 = .ok (.iconst 4, 1) := by decide +kernel
theorem dX7_goes_182 : decode cX7_goes 182 = .ok (.if_icmp .ne 7, 3) := by decide +kernel
theorem dX7_goes_185 : decode cX7_goes 185 = .ok (.iconst 0, 1) := by decide +kernel
theorem dX7_goes_186 : decode cX7_goes 186 = .ok (.goto 7, 3) := by decide +kernel
theorem dX7_goes_189 : decode cX7_goes 189 = .ok (.aload_n 0, 1) := by decide +kernel
theorem dX7_goes_190 : decode cX7_goes 190 = .ok (.getfield 92, 3) := by decide +kernel
theorem dX7_goes_193 : decode cX7_goes 193 = .ok (.iastore, 1) := by decide +kernel
theorem dX7_goes_194 : decode cX7_goes 194 = .ok (.iinc 2 (-1), 3) := by decide +kernel
theorem dX7_goes_197 : decode cX7_goes 197 = .ok (.goto (-179), 3) := by decide +kernel
theorem dX7_goes_200 : decode cX7_goes 200 = .ok (.iinc 1 (-1), 3) := by decide +kernel
theorem dX7_goes_203 : decode cX7_goes 203 = .ok (.goto (-196), 3) := by decide +kernel
theorem dX7_goes_206 : decode cX7_goes 206 = .ok (.aload_n 0, 1) := by decide +kernel
theorem dX7_goes_207 : decode cX7_goes 207 = .ok (.getfield 7, 3) := by decide +kernel
theorem dX7_goes_210 : decode cX7_goes 210 = .ok (.bipush 8, 2) := by decide +kernel
theorem dX7_goes_212 : decode cX7_goes 212 = .ok (.dup2, 1) := by decide +kernel
theorem dX7_goes_213 : decode cX7_goes 213 = .ok (.iaload, 1) := by decide +kernel
theorem dX7_goes_214 : decode cX7_goes 214 = .ok (.iconst 1, 1) := by decide +kernel
theorem dX7_goes_215 : decode cX7_goes 215 = .ok (.iadd, 1) := by decide +kernel
theorem dX7_goes_216 : decode cX7_goes 216 = .ok (.iastore, 1) := by decide +kernel
theorem dX7_goes_217 : decode cX7_goes 217 = .ok (.return_, 1) := by decide +kernel
set_option maxRecDepth 20000 in
theorem ggX7_isDone_X7_ticks : GoodIn wsX7_isDone wsX7_ticks := goodIn_r _ [6, 1, 7, 8, 9, 5, 10, 11, 12, 13, 14, 15, 16, 17, 18, 19, 20, 21, 22, 23, 24, 25, 26, 27, 28, 29, 30] (by decide +kernel) (by decide +kernel)
set_option maxRecDepth 20000 in
theorem gX7_isDone_X7_ticks : GoodIn wsX7_isDone (wsV RX7 72 RX7 yX7_ticks wsX7_ticks) := goodIn_app (goodIn_of _ (by decide +kernel)) ggX7_isDone_X7_ticks
theorem dX7_isDone_0 : decode cX7_isDone 0 = .ok (.aload_n 0, 1) := by decide +kernel
theorem dX7_isDone_1 : decode cX7_isDone 1 = .ok (.getfield 7, 3) := by decide +kernel
theorem dX7_isDone_4 : decode cX7_isDone 4 = .ok (.bipush 8, 2) := by decide +kernel
theorem dX7_isDone_6 : decode cX7_isDone 6 = .ok (.iaload, 1) := by decide +kernel
theorem dX7_isDone_7 : decode cX7_isDone 7 = .ok (.aload_n 0, 1) := by decide +kernel
theorem dX7_isDone_8 : decode cX7_isDone 8 = .ok (.invokevirtual 72, 3) := by decide +kernel
theorem dX7_isDone_11 : decode cX7_isDone 11 = .ok (.if_icmp .ne 7, 3) := by decide +kernel
theorem dX7_isDone_14 : decode cX7_isDone 14 = .ok (.iconst 1, 1) := by decide +kernel
theorem dX7_isDone_15 : decode cX7_isDone 15 = .ok (.goto 4, 3) := by decide +kernel
theorem dX7_isDone_18 : decode cX7_isDone 18 = .ok (.iconst 0, 1) := by decide +kernel
theorem dX7_isDone_19 : decode cX7_isDone 19 = .ok (.ireturn, 1) := by decide +kernel
set_option maxRecDepth 20000 in
theorem ggX7_tick_X7_in : GoodIn wsX7_tick wsX7_in := goodIn_r _ [7] (by decide +kernel) (by decide +kernel)
set_option maxRecDepth 20000 in
theorem gX7_tick_X7_in : GoodIn wsX7_tick (va_wsS RX7 33 yX7_in wsX7_in) := goodIn_app (goodIn_of _ (by decide +kernel)) ggX7_tick_X7_in
set_option maxRecDepth 20000 in
theorem ggX7_tick_X7_isDone : GoodIn wsX7_tick wsX7_isDone := goodIn_r _ [11, 2, 12, 13, 14, 6, 15, 16, 17, 18, 19, 20, 21, 22, 23, 53, 54, 55, 56, 57, 58, 59, 60, 61, 62, 63, 64, 65, 66, 67, 68] (by decide +kernel) (by decide +kernel)
set_option maxRecDepth 20000 in
theorem gX7_tick_X7_isDone : GoodIn wsX7_tick (wsV RX7 101 RX7 yX7_isDone wsX7_isDone) := goodIn_app (goodIn_of _ (by decide +kernel)) ggX7_tick_X7_isDone
set_option maxRecDepth 20000 in
theorem ggX7_tick_X7_changes : GoodIn wsX7_tick wsX7_changes := goodIn_r _ [27, 28, 29, 2, 53, 54, 55, 56, 57, 58, 59, 60, 61, 62, 63, 64, 65, 66, 67, 68] (by decide +kernel) (by decide +kernel)
set_option maxRecDepth 20000 in
theorem gX7_tick_X7_changes : GoodIn wsX7_tick (wsV RX7 38 RX7 yX7_changes wsX7_changes) := goodIn_app (goodIn_of _ (by decide +kernel)) ggX7_tick_X7_changes
set_option maxRecDepth 20000 in
theorem ggX7_tick_X7_goes : GoodIn wsX7_tick wsX7_goes := goodIn_r _ [33, 34, 35, 2, 36, 37, 16, 17, 18, 6, 19, 20, 21, 22, 23, 38, 39, 40, 41, 4, 5, 7, 42, 43, 44, 45, 46, 47, 48, 49, 50, 51, 52, 53, 54, 55, 56, 57, 58, 59, 60, 61, 62, 63, 64, 65, 66, 67, 68] (by decide +kernel) (by decide +kernel)
set_option maxRecDepth 20000 in
theorem gX7_tick_X7_goes : GoodIn wsX7_tick (wsV RX7 105 RX7 yX7_goes wsX7_goes) := goodIn_app (goodIn_of _ (by decide +kernel)) ggX7_tick_X7_goes
set_option maxRecDepth 20000 in
theorem ggX7_tick_X7_ticks : GoodIn wsX7_tick wsX7_ticks := goodIn_r _ [15, 2, 16, 17, 18, 6, 19, 20, 21, 22, 23, 53, 54, 55, 56, 57, 58, 59, 60, 61, 62, 63, 64, 65, 66, 67, 68] (by decide +kernel) (by decide +kernel)
set_option maxRecDepth 20000 in
theorem gX7_tick_X7_ticks : GoodIn wsX7_tick (wsV RX7 72 RX7 yX7_ticks wsX7_ticks) := goodIn_app (goodIn_of _ (by decide +kernel)) ggX7_tick_X7_ticks
theorem dX7_tick_0 : decode cX7_tick 0 = .ok (.iload_n 1, 1) := by decide +kernel
theorem dX7_tick_1 : decode cX7_tick 1 = .ok (.iconst 1, 1) := by decide +kernel
theorem dX7_tick_2 : decode cX7_tick 2 = .ok (.bipush 20, 2) := by decide +kernel
theorem dX7_tick_4 : decode cX7_tick 4 = .ok (.invokestatic 33, 3) := by decide +kernel
theorem dX7_tick_7 : decode cX7_tick 7 = .ok (.ifCond .ne 6, 3) := by decide +kernel
theorem dX7_tick_10 : decode cX7_tick 10 = .ok (.ldc 37, 2) := by decide +kernel
theorem dX7_tick_12 : decode cX7_tick 12 = .ok (.ireturn, 1) := by decide +kernel
theorem dX7_tick_13 : decode cX7_tick 13 = .ok (.aload_n 0, 1) := by decide +kernel
theorem dX7_tick_14 : decode cX7_tick 14 = .ok (.getfield 7, 3) := by decide +kernel
theorem dX7_tick_17 : decode cX7_tick 17 = .ok (.iconst 5, 1) := by decide +kernel
theorem dX7_tick_18 : decode cX7_tick 18 = .ok (.iaload, 1) := by decide +kernel
theorem dX7_tick_19 : decode cX7_tick 19 = .ok (.ifCond .eq 10, 3) := by decide +kernel
theorem dX7_tick_22 : decode cX7_tick 22 = .ok (.aload_n 0, 1) := by decide +kernel
theorem dX7_tick_23 : decode cX7_tick 23 = .ok (.invokevirtual 101, 3) := by decide +kernel
theorem dX7_tick_26 : decode cX7_tick 26 = .ok (.ifCond .eq 6, 3) := by decide +kernel
theorem dX7_tick_29 : decode cX7_tick 29 = .ok (.ldc 58, 2) := by decide +kernel
theorem dX7_tick_31 : decode cX7_tick 31 = .ok (.ireturn, 1) := by decide +kernel
theorem dX7_tick_32 : decode cX7_tick 32 = .ok (.aload_n 0, 1) := by decide +kernel
theorem dX7_tick_33 : decode cX7_tick 33 = .ok (.invokevirtual 38, 3) := by decide +kernel
theorem dX7_tick_36 : decode cX7_tick 36 = .ok (.iconst 0, 1) := by decide +kernel
theorem dX7_tick_37 : decode cX7_tick 37 = .ok (.istore_n 2, 1) := by decide +kernel
theorem dX7_tick_38 : decode cX7_tick 38 = .ok (.iload_n 2, 1) := by decide +kernel
theorem dX7_tick_39 : decode cX7_tick 39 = .ok (.iload_n 1, 1) := by decide +kernel
theorem dX7_tick_40 : decode cX7_tick 40 = .ok (.if_icmp .ge 20, 3) := by decide +kernel
theorem dX7_tick_43 : decode cX7_tick 43 = .ok (.aload_n 0, 1) := by decide +kernel
theorem dX7_tick_44 : decode cX7_tick 44 = .ok (.invokevirtual 101, 3) := by decide +kernel
theorem dX7_tick_47 : decode cX7_tick 47 = .ok (.ifCond .ne 13, 3) := by decide +kernel
theorem dX7_tick_50 : decode cX7_tick 50 = .ok (.aload_n 0, 1) := by decide +kernel
theorem dX7_tick_51 : decode cX7_tick 51 = .ok (.invokevirtual 105, 3) := by decide +kernel
theorem dX7_tick_54 : decode cX7_tick 54 = .ok (.iinc 2 1, 3) := by decide +kernel
theorem dX7_tick_57 : decode cX7_tick 57 = .ok (.goto (-19), 3) := by decide +kernel
theorem dX7_tick_60 : decode cX7_tick 60 = .ok (.aload_n 0, 1) := by decide +kernel
theorem dX7_tick_61 : decode cX7_tick 61 = .ok (.invokevirtual 72, 3) := by decide +kernel
theorem dX7_tick_64 : decode cX7_tick 64 = .ok (.aload_n 0, 1) := by decide +kernel
theorem dX7_tick_65 : decode cX7_tick 65 = .ok (.getfield 7, 3) := by decide +kernel
theorem dX7_tick_68 : decode cX7_tick 68 = .ok (.bipush 8, 2) := by decide +kernel
theorem dX7_tick_70 : decode cX7_tick 70 = .ok (.iaload, 1) := by decide +kernel
theorem dX7_tick_71 : decode cX7_tick 71 = .ok (.isub, 1) := by decide +kernel
theorem dX7_tick_72 : decode cX7_tick 72 = .ok (.ireturn, 1) := by decide +kernel
set_option maxRecDepth 20000 in
theorem ggX7_drains_X7_tileRows : GoodIn wsX7_drains wsX7_tileRows := goodIn_r _ [6, 1, 14, 15, 16, 17, 18, 19, 20, 21, 22, 23, 24, 25, 26, 27, 28, 29] (by decide +kernel) (by decide +kernel)
set_option maxRecDepth 20000 in
theorem gX7_drains_X7_tileRows : GoodIn wsX7_drains (wsV RX7 63 RX7 yX7_tileRows wsX7_tileRows) := goodIn_app (goodIn_of _ (by decide +kernel)) ggX7_drains_X7_tileRows
set_option maxRecDepth 20000 in
theorem ggX7_drains_X7_tileColumns : GoodIn wsX7_drains wsX7_tileColumns := goodIn_r _ [10, 1, 14, 15, 16, 17, 18, 19, 20, 21, 22, 23, 24, 25, 26, 27, 28, 29] (by decide +kernel) (by decide +kernel)
set_option maxRecDepth 20000 in
theorem gX7_drains_X7_tileColumns : GoodIn wsX7_drains (wsV RX7 66 RX7 yX7_tileColumns wsX7_tileColumns) := goodIn_app (goodIn_of _ (by decide +kernel)) ggX7_drains_X7_tileColumns
set_option maxRecDepth 20000 in
theorem ggX7_drains_X7_cell : GoodIn wsX7_drains wsX7_cell := goodIn_r _ [13] (by decide +kernel) (by decide +kernel)
set_option maxRecDepth 20000 in
theorem gX7_drains_X7_cell : GoodIn wsX7_drains (va_wsS RX7 78 yX7_cell wsX7_cell) := goodIn_app (goodIn_of _ (by decide +kernel)) ggX7_drains_X7_cell
theorem dX7_drains_0 : decode cX7_drains 0 = .ok (.iconst 0, 1) := by decide +kernel
theorem dX7_drains_1 : decode cX7_drains 1 = .ok (.istore_n 1, 1) := by decide +kernel
theorem dX7_drains_2 : decode cX7_drains 2 = .ok (.iload_n 1, 1) := by decide +kernel
theorem dX7_drains_3 : decode cX7_drains 3 = .ok (.aload_n 0, 1) := by decide +kernel
theorem dX7_drains_4 : decode cX7_drains 4 = .ok (.invokevirtual 63, 3) := by decide +kernel
theorem dX7_drains_7 : decode cX7_drains 7 = .ok (.if_icmp .ge 93, 3) := by decide +kernel
theorem dX7_drains_10 : decode cX7_drains 10 = .ok (.iconst 0, 1) := by decide +kernel
theorem dX7_drains_11 : decode cX7_drains 11 = .ok (.istore_n 2, 1) := by decide +kernel
theorem dX7_drains_12 : decode cX7_drains 12 = .ok (.iload_n 2, 1) := by decide +kernel
theorem dX7_drains_13 : decode cX7_drains 13 = .ok (.aload_n 0, 1) := by decide +kernel
theorem dX7_drains_14 : decode cX7_drains 14 = .ok (.invokevirtual 66, 3) := by decide +kernel
theorem dX7_drains_17 : decode cX7_drains 17 = .ok (.if_icmp .ge 77, 3) := by decide +kernel
theorem dX7_drains_20 : decode cX7_drains 20 = .ok (.bipush 6, 2) := by decide +kernel
theorem dX7_drains_22 : decode cX7_drains 22 = .ok (.aload_n 0, 1) := by decide +kernel
theorem dX7_drains_23 : decode cX7_drains 23 = .ok (.getfield 7, 3) := by decide +kernel
theorem dX7_drains_26 : decode cX7_drains 26 = .ok (.iconst 0, 1) := by decide +kernel
theorem dX7_drains_27 : decode cX7_drains 27 = .ok (.iaload, 1) := by decide +kernel
theorem dX7_drains_28 : decode cX7_drains 28 = .ok (.aload_n 0, 1) := by decide +kernel
theorem dX7_drains_29 : decode cX7_drains 29 = .ok (.getfield 7, 3) := by decide +kernel
theorem dX7_drains_32 : decode cX7_drains 32 = .ok (.bipush 6, 2) := by decide +kernel
theorem dX7_drains_34 : decode cX7_drains 34 = .ok (.iaload, 1) := by decide +kernel
theorem dX7_drains_35 : decode cX7_drains 35 = .ok (.imul, 1) := by decide +kernel
theorem dX7_drains_36 : decode cX7_drains 36 = .ok (.iload_n 1, 1) := by decide +kernel
theorem dX7_drains_37 : decode cX7_drains 37 = .ok (.iadd, 1) := by decide +kernel
theorem dX7_drains_38 : decode cX7_drains 38 = .ok (.imul, 1) := by decide +kernel
theorem dX7_drains_39 : decode cX7_drains 39 = .ok (.aload_n 0, 1) := by decide +kernel
theorem dX7_drains_40 : decode cX7_drains 40 = .ok (.getfield 7, 3) := by decide +kernel
theorem dX7_drains_43 : decode cX7_drains 43 = .ok (.iconst 0, 1) := by decide +kernel
theorem dX7_drains_44 : decode cX7_drains 44 = .ok (.iaload, 1) := by decide +kernel
theorem dX7_drains_45 : decode cX7_drains 45 = .ok (.aload_n 0, 1) := by decide +kernel
theorem dX7_drains_46 : decode cX7_drains 46 = .ok (.getfield 7, 3) := by decide +kernel
theorem dX7_drains_49 : decode cX7_drains 49 = .ok (.bipush 7, 2) := by decide +kernel
theorem dX7_drains_51 : decode cX7_drains 51 = .ok (.iaload, 1) := by decide +kernel
theorem dX7_drains_52 : decode cX7_drains 52 = .ok (.imul, 1) := by decide +kernel
theorem dX7_drains_53 : decode cX7_drains 53 = .ok (.iadd, 1) := by decide +kernel
theorem dX7_drains_54 : decode cX7_drains 54 = .ok (.iload_n 2, 1) := by decide +kernel
theorem dX7_drains_55 : decode cX7_drains 55 = .ok (.iadd, 1) := by decide +kernel
theorem dX7_drains_56 : decode cX7_drains 56 = .ok (.istore_n 3, 1) := by decide +kernel
theorem dX7_drains_57 : decode cX7_drains 57 = .ok (.aload_n 0, 1) := by decide +kernel
theorem dX7_drains_58 : decode cX7_drains 58 = .ok (.getfield 7, 3) := by decide +kernel
theorem dX7_drains_61 : decode cX7_drains 61 = .ok (.bipush 81, 2) := by decide +kernel
theorem dX7_drains_63 : decode cX7_drains 63 = .ok (.iload_n 3, 1) := by decide +kernel
theorem dX7_drains_64 : decode cX7_drains 64 = .ok (.iadd, 1) := by decide +kernel
theorem dX7_drains_65 : decode cX7_drains 65 = .ok (.aload_n 0, 1) := by decide +kernel
theorem dX7_drains_66 : decode cX7_drains 66 = .ok (.getfield 7, 3) := by decide +kernel
theorem dX7_drains_69 : decode cX7_drains 69 = .ok (.iload_n 1, 1) := by decide +kernel
theorem dX7_drains_70 : decode cX7_drains 70 = .ok (.iload_n 2, 1) := by decide +kernel
theorem dX7_drains_71 : decode cX7_drains 71 = .ok (.invokestatic 78, 3) := by decide +kernel
theorem dX7_drains_74 : decode cX7_drains 74 = .ok (.iconst 0, 1) := by decide +kernel
theorem dX7_drains_75 : decode cX7_drains 75 = .ok (.iadd, 1) := by decide +kernel
theorem dX7_drains_76 : decode cX7_drains 76 = .ok (.iaload, 1) := by decide +kernel
theorem dX7_drains_77 : decode cX7_drains 77 = .ok (.iastore, 1) := by decide +kernel
theorem dX7_drains_78 : decode cX7_drains 78 = .ok (.aload_n 0, 1) := by decide +kernel
theorem dX7_drains_79 : decode cX7_drains 79 = .ok (.getfield 7, 3) := by decide +kernel
theorem dX7_drains_82 : decode cX7_drains 82 = .ok (.bipush 117, 2) := by decide +kernel
theorem dX7_drains_84 : decode cX7_drains 84 = .ok (.iload_n 3, 1) := by decide +kernel
theorem dX7_drains_85 : decode cX7_drains 85 = .ok (.iadd, 1) := by decide +kernel
theorem dX7_drains_86 : decode cX7_drains 86 = .ok (.iconst 1, 1) := by decide +kernel
theorem dX7_drains_87 : decode cX7_drains 87 = .ok (.iastore, 1) := by decide +kernel
theorem dX7_drains_88 : decode cX7_drains 88 = .ok (.iinc 2 1, 3) := by decide +kernel
theorem dX7_drains_91 : decode cX7_drains 91 = .ok (.goto (-79), 3) := by decide +kernel
theorem dX7_drains_94 : decode cX7_drains 94 = .ok (.iinc 1 1, 3) := by decide +kernel
theorem dX7_drains_97 : decode cX7_drains 97 = .ok (.goto (-95), 3) := by decide +kernel
theorem dX7_drains_100 : decode cX7_drains 100 = .ok (.aload_n 0, 1) := by decide +kernel
theorem dX7_drains_101 : decode cX7_drains 101 = .ok (.getfield 7, 3) := by decide +kernel
theorem dX7_drains_104 : decode cX7_drains 104 = .ok (.iconst 5, 1) := by decide +kernel
theorem dX7_drains_105 : decode cX7_drains 105 = .ok (.iconst 0, 1) := by decide +kernel
theorem dX7_drains_106 : decode cX7_drains 106 = .ok (.iastore, 1) := by decide +kernel
theorem dX7_drains_107 : decode cX7_drains 107 = .ok (.return_, 1) := by decide +kernel
theorem dX7_known_0 : decode cX7_known 0 = .ok (.iconst 0, 1) := by decide +kernel
theorem dX7_known_1 : decode cX7_known 1 = .ok (.istore_n 1, 1) := by decide +kernel
theorem dX7_known_2 : decode cX7_known 2 = .ok (.iconst 0, 1) := by decide +kernel
theorem dX7_known_3 : decode cX7_known 3 = .ok (.istore_n 2, 1) := by decide +kernel
theorem dX7_known_4 : decode cX7_known 4 = .ok (.iload_n 2, 1) := by decide +kernel
theorem dX7_known_5 : decode cX7_known 5 = .ok (.bipush 36, 2) := by decide +kernel
theorem dX7_known_7 : decode cX7_known 7 = .ok (.if_icmp .ge 21, 3) := by decide +kernel
theorem dX7_known_10 : decode cX7_known 10 = .ok (.iload_n 1, 1) := by decide +kernel
theorem dX7_known_11 : decode cX7_known 11 = .ok (.aload_n 0, 1) := by decide +kernel
theorem dX7_known_12 : decode cX7_known 12 = .ok (.getfield 7, 3) := by decide +kernel
theorem dX7_known_15 : decode cX7_known 15 = .ok (.bipush 117, 2) := by decide +kernel
theorem dX7_known_17 : decode cX7_known 17 = .ok (.iload_n 2, 1) := by decide +kernel
theorem dX7_known_18 : decode cX7_known 18 = .ok (.iadd, 1) := by decide +kernel
theorem dX7_known_19 : decode cX7_known 19 = .ok (.iaload, 1) := by decide +kernel
theorem dX7_known_20 : decode cX7_known 20 = .ok (.iadd, 1) := by decide +kernel
theorem dX7_known_21 : decode cX7_known 21 = .ok (.istore_n 1, 1) := by decide +kernel
theorem dX7_known_22 : decode cX7_known 22 = .ok (.iinc 2 1, 3) := by decide +kernel
theorem dX7_known_25 : decode cX7_known 25 = .ok (.goto (-21), 3) := by decide +kernel
theorem dX7_known_28 : decode cX7_known 28 = .ok (.iload_n 1, 1) := by decide +kernel
theorem dX7_known_29 : decode cX7_known 29 = .ok (.ireturn, 1) := by decide +kernel
set_option maxRecDepth 20000 in
theorem ggX7_drain_X7_isDone : GoodIn wsX7_drain wsX7_isDone := goodIn_r _ [7, 1, 8, 9, 10, 6, 11, 12, 13, 14, 15, 16, 17, 18, 19, 37, 38, 39, 40, 41, 42, 43, 44, 45, 46, 47, 48, 49, 50, 51, 52] (by decide +kernel) (by decide +kernel)
set_option maxRecDepth 20000 in
theorem gX7_drain_X7_isDone : GoodIn wsX7_drain (wsV RX7 101 RX7 yX7_isDone wsX7_isDone) := goodIn_app (goodIn_of _ (by decide +kernel)) ggX7_drain_X7_isDone
set_option maxRecDepth 20000 in
theorem ggX7_drain_X7_changes : GoodIn wsX7_drain wsX7_changes := goodIn_r _ [23, 24, 25, 1, 37, 38, 39, 40, 41, 42, 43, 44, 45, 46, 47, 48, 49, 50, 51, 52] (by decide +kernel) (by decide +kernel)
set_option maxRecDepth 20000 in
theorem gX7_drain_X7_changes : GoodIn wsX7_drain (wsV RX7 38 RX7 yX7_changes wsX7_changes) := goodIn_app (goodIn_of _ (by decide +kernel)) ggX7_drain_X7_changes
set_option maxRecDepth 20000 in
theorem ggX7_drain_X7_drains : GoodIn wsX7_drain wsX7_drains := goodIn_r _ [29, 1, 12, 13, 14, 6, 15, 16, 17, 18, 19, 30, 31, 32, 37, 38, 39, 40, 41, 42, 43, 44, 45, 46, 47, 48, 49, 50, 51, 52] (by decide +kernel) (by decide +kernel)
set_option maxRecDepth 20000 in
theorem gX7_drain_X7_drains : GoodIn wsX7_drain (wsV RX7 108 RX7 yX7_drains wsX7_drains) := goodIn_app (goodIn_of _ (by decide +kernel)) ggX7_drain_X7_drains
set_option maxRecDepth 20000 in
theorem ggX7_drain_X7_known : GoodIn wsX7_drain wsX7_known := goodIn_r _ [36, 1, 37, 38, 39, 40, 41, 42, 43, 44, 45, 46, 47, 48, 49, 50, 51, 52] (by decide +kernel) (by decide +kernel)
set_option maxRecDepth 20000 in
theorem gX7_drain_X7_known : GoodIn wsX7_drain (wsV RX7 111 RX7 yX7_known wsX7_known) := goodIn_app (goodIn_of _ (by decide +kernel)) ggX7_drain_X7_known
theorem dX7_drain_0 : decode cX7_drain 0 = .ok (.aload_n 0, 1) := by decide +kernel
theorem dX7_drain_1 : decode cX7_drain 1 = .ok (.getfield 7, 3) := by decide +kernel
theorem dX7_drain_4 : decode cX7_drain 4 = .ok (.iconst 5, 1) := by decide +kernel
theorem dX7_drain_5 : decode cX7_drain 5 = .ok (.iaload, 1) := by decide +kernel
theorem dX7_drain_6 : decode cX7_drain 6 = .ok (.ifCond .eq 10, 3) := by decide +kernel
theorem dX7_drain_9 : decode cX7_drain 9 = .ok (.aload_n 0, 1) := by decide +kernel
theorem dX7_drain_10 : decode cX7_drain 10 = .ok (.invokevirtual 101, 3) := by decide +kernel
theorem dX7_drain_13 : decode cX7_drain 13 = .ok (.ifCond .ne 6, 3) := by decide +kernel
