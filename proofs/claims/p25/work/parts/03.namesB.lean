theorem dX4_scanSemicolon_33 : decode cX4_scanSemicolon 33 = .ok (.aload_n 0, 1) := by decide +kernel
theorem dX4_scanSemicolon_34 : decode cX4_scanSemicolon 34 = .ok (.dup, 1) := by decide +kernel
theorem dX4_scanSemicolon_35 : decode cX4_scanSemicolon 35 = .ok (.getfield 43, 3) := by decide +kernel
theorem dX4_scanSemicolon_38 : decode cX4_scanSemicolon 38 = .ok (.iconst 1, 1) := by decide +kernel
theorem dX4_scanSemicolon_39 : decode cX4_scanSemicolon 39 = .ok (.iadd, 1) := by decide +kernel
theorem dX4_scanSemicolon_40 : decode cX4_scanSemicolon 40 = .ok (.putfield 43, 3) := by decide +kernel
theorem dX4_scanSemicolon_43 : decode cX4_scanSemicolon 43 = .ok (.aload_n 0, 1) := by decide +kernel
theorem dX4_scanSemicolon_44 : decode cX4_scanSemicolon 44 = .ok (.iconst 0, 1) := by decide +kernel
theorem dX4_scanSemicolon_45 : decode cX4_scanSemicolon 45 = .ok (.putfield 46, 3) := by decide +kernel
theorem dX4_scanSemicolon_48 : decode cX4_scanSemicolon 48 = .ok (.return_, 1) := by decide +kernel
set_option maxRecDepth 20000 in
theorem ggX4_finishScan_X4_setFault : GoodIn wsX4_finishScan wsX4_setFault := goodIn_r _ [12, 13, 14, 46, 47, 48, 49, 50, 51, 52, 53, 54, 55, 56] (by decide +kernel) (by decide +kernel)
set_option maxRecDepth 20000 in
theorem gX4_finishScan_X4_setFault : GoodIn wsX4_finishScan (wsV RX4 72 RX4 yX4_setFault wsX4_setFault) := goodIn_app (goodIn_of _ (by decide +kernel)) ggX4_finishScan_X4_setFault
set_option maxRecDepth 20000 in
theorem ggX4_finishScan_X4_rowIsShort : GoodIn wsX4_finishScan wsX4_rowIsShort := goodIn_r _ [18, 4, 19, 6, 46, 47, 48, 49, 50, 51, 52, 53, 54, 55, 56] (by decide +kernel) (by decide +kernel)
set_option maxRecDepth 20000 in
theorem gX4_finishScan_X4_rowIsShort : GoodIn wsX4_finishScan (wsV RX4 79 RX4 yX4_rowIsShort wsX4_rowIsShort) := goodIn_app (goodIn_of _ (by decide +kernel)) ggX4_finishScan_X4_rowIsShort
set_option maxRecDepth 20000 in
theorem ggX4_finishScan_X4_endEntry : GoodIn wsX4_finishScan wsX4_endEntry := goodIn_r _ [23, 3, 4, 19, 24, 25, 26, 27, 28, 29, 30, 31, 32, 33, 34, 35, 36, 37, 38, 39, 40, 11, 41, 1, 46, 47, 48, 49, 50, 51, 52, 53, 54, 55, 56, 57, 58, 59] (by decide +kernel) (by decide +kernel)
set_option maxRecDepth 20000 in
theorem gX4_finishScan_X4_endEntry : GoodIn wsX4_finishScan (wsV RX4 76 RX4 yX4_endEntry wsX4_endEntry) := goodIn_app (goodIn_of _ (by decide +kernel)) ggX4_finishScan_X4_endEntry
set_option maxRecDepth 20000 in
theorem ggX4_finishScan_X4_endRow : GoodIn wsX4_finishScan wsX4_endRow := goodIn_r _ [45, 4, 19, 6, 46, 47, 48, 49, 50, 51, 52, 53, 54, 55, 56] (by decide +kernel) (by decide +kernel)
set_option maxRecDepth 20000 in
theorem gX4_finishScan_X4_endRow : GoodIn wsX4_finishScan (wsV RX4 83 RX4 yX4_endRow wsX4_endRow) := goodIn_app (goodIn_of _ (by decide +kernel)) ggX4_finishScan_X4_endRow
theorem dX4_finishScan_0 : decode cX4_finishScan 0 = .ok (.aload_n 0, 1) := by decide +kernel
theorem dX4_finishScan_1 : decode cX4_finishScan 1 = .ok (.getfield 59, 3) := by decide +kernel
theorem dX4_finishScan_4 : decode cX4_finishScan 4 = .ok (.ifCond .ne 15, 3) := by decide +kernel
theorem dX4_finishScan_7 : decode cX4_finishScan 7 = .ok (.aload_n 0, 1) := by decide +kernel
theorem dX4_finishScan_8 : decode cX4_finishScan 8 = .ok (.aload_n 0, 1) := by decide +kernel
theorem dX4_finishScan_9 : decode cX4_finishScan 9 = .ok (.getfield 22, 3) := by decide +kernel
theorem dX4_finishScan_12 : decode cX4_finishScan 12 = .ok (.iconst 1, 1) := by decide +kernel
theorem dX4_finishScan_13 : decode cX4_finishScan 13 = .ok (.invokevirtual 72, 3) := by decide +kernel
theorem dX4_finishScan_16 : decode cX4_finishScan 16 = .ok (.goto 54, 3) := by decide +kernel
theorem dX4_finishScan_19 : decode cX4_finishScan 19 = .ok (.aload_n 0, 1) := by decide +kernel
theorem dX4_finishScan_20 : decode cX4_finishScan 20 = .ok (.invokevirtual 79, 3) := by decide +kernel
theorem dX4_finishScan_23 : decode cX4_finishScan 23 = .ok (.ifCond .eq 15, 3) := by decide +kernel
theorem dX4_finishScan_26 : decode cX4_finishScan 26 = .ok (.aload_n 0, 1) := by decide +kernel
theorem dX4_finishScan_27 : decode cX4_finishScan 27 = .ok (.aload_n 0, 1) := by decide +kernel
theorem dX4_finishScan_28 : decode cX4_finishScan 28 = .ok (.getfield 22, 3) := by decide +kernel
theorem dX4_finishScan_31 : decode cX4_finishScan 31 = .ok (.iconst 2, 1) := by decide +kernel
theorem dX4_finishScan_32 : decode cX4_finishScan 32 = .ok (.invokevirtual 72, 3) := by decide +kernel
theorem dX4_finishScan_35 : decode cX4_finishScan 35 = .ok (.goto 35, 3) := by decide +kernel
theorem dX4_finishScan_38 : decode cX4_finishScan 38 = .ok (.aload_n 0, 1) := by decide +kernel
theorem dX4_finishScan_39 : decode cX4_finishScan 39 = .ok (.invokevirtual 76, 3) := by decide +kernel
theorem dX4_finishScan_42 : decode cX4_finishScan 42 = .ok (.aload_n 0, 1) := by decide +kernel
theorem dX4_finishScan_43 : decode cX4_finishScan 43 = .ok (.invokevirtual 83, 3) := by decide +kernel
theorem dX4_finishScan_46 : decode cX4_finishScan 46 = .ok (.aload_n 0, 1) := by decide +kernel
theorem dX4_finishScan_47 : decode cX4_finishScan 47 = .ok (.getfield 18, 3) := by decide +kernel
theorem dX4_finishScan_50 : decode cX4_finishScan 50 = .ok (.aload_n 0, 1) := by decide +kernel
theorem dX4_finishScan_51 : decode cX4_finishScan 51 = .ok (.getfield 43, 3) := by decide +kernel
theorem dX4_finishScan_54 : decode cX4_finishScan 54 = .ok (.iconst 1, 1) := by decide +kernel
theorem dX4_finishScan_55 : decode cX4_finishScan 55 = .ok (.iadd, 1) := by decide +kernel
theorem dX4_finishScan_56 : decode cX4_finishScan 56 = .ok (.putfield 86, 3) := by decide +kernel
theorem dX4_finishScan_59 : decode cX4_finishScan 59 = .ok (.aload_n 0, 1) := by decide +kernel
theorem dX4_finishScan_60 : decode cX4_finishScan 60 = .ok (.getfield 18, 3) := by decide +kernel
theorem dX4_finishScan_63 : decode cX4_finishScan 63 = .ok (.aload_n 0, 1) := by decide +kernel
theorem dX4_finishScan_64 : decode cX4_finishScan 64 = .ok (.getfield 49, 3) := by decide +kernel
theorem dX4_finishScan_67 : decode cX4_finishScan 67 = .ok (.putfield 89, 3) := by decide +kernel
theorem dX4_finishScan_70 : decode cX4_finishScan 70 = .ok (.return_, 1) := by decide +kernel
theorem dX4_rowIsShort_0 : decode cX4_rowIsShort 0 = .ok (.aload_n 0, 1) := by decide +kernel
theorem dX4_rowIsShort_1 : decode cX4_rowIsShort 1 = .ok (.getfield 43, 3) := by decide +kernel
theorem dX4_rowIsShort_4 : decode cX4_rowIsShort 4 = .ok (.ifCond .le 20, 3) := by decide +kernel
theorem dX4_rowIsShort_7 : decode cX4_rowIsShort 7 = .ok (.aload_n 0, 1) := by decide +kernel
theorem dX4_rowIsShort_8 : decode cX4_rowIsShort 8 = .ok (.getfield 46, 3) := by decide +kernel
theorem dX4_rowIsShort_11 : decode cX4_rowIsShort 11 = .ok (.iconst 1, 1) := by decide +kernel
theorem dX4_rowIsShort_12 : decode cX4_rowIsShort 12 = .ok (.iadd, 1) := by decide +kernel
theorem dX4_rowIsShort_13 : decode cX4_rowIsShort 13 = .ok (.aload_n 0, 1) := by decide +kernel
theorem dX4_rowIsShort_14 : decode cX4_rowIsShort 14 = .ok (.getfield 49, 3) := by decide +kernel
theorem dX4_rowIsShort_17 : decode cX4_rowIsShort 17 = .ok (.if_icmp .ge 7, 3) := by decide +kernel
theorem dX4_rowIsShort_20 : decode cX4_rowIsShort 20 = .ok (.iconst 1, 1) := by decide +kernel
theorem dX4_rowIsShort_21 : decode cX4_rowIsShort 21 = .ok (.goto 4, 3) := by decide +kernel
theorem dX4_rowIsShort_24 : decode cX4_rowIsShort 24 = .ok (.iconst 0, 1) := by decide +kernel
theorem dX4_rowIsShort_25 : decode cX4_rowIsShort 25 = .ok (.ireturn, 1) := by decide +kernel
set_option maxRecDepth 20000 in
theorem ggX4_endEntry_X1_put : GoodIn wsX4_endEntry wsX1_put := goodIn_r _ [10, 11, 12, 13, 14, 9, 15, 16, 17, 35, 36, 37] (by decide +kernel) (by decide +kernel)
set_option maxRecDepth 20000 in
theorem gX4_endEntry_X1_put : GoodIn wsX4_endEntry (wsV RX4 92 RX1 yX1_put wsX1_put) := goodIn_app (goodIn_of _ (by decide +kernel)) ggX4_endEntry_X1_put
set_option maxRecDepth 20000 in
theorem ggX4_endEntry_X4_startEntry : GoodIn wsX4_endEntry wsX4_startEntry := goodIn_r _ [22, 4, 23, 5, 24, 25, 26, 27, 28, 29, 30, 31, 32, 33, 34] (by decide +kernel) (by decide +kernel)
set_option maxRecDepth 20000 in
theorem gX4_endEntry_X4_startEntry : GoodIn wsX4_endEntry (wsV RX4 52 RX4 yX4_startEntry wsX4_startEntry) := goodIn_app (goodIn_of _ (by decide +kernel)) ggX4_endEntry_X4_startEntry
theorem dX4_endEntry_0 : decode cX4_endEntry 0 = .ok (.aload_n 0, 1) := by decide +kernel
theorem dX4_endEntry_1 : decode cX4_endEntry 1 = .ok (.getfield 18, 3) := by decide +kernel
theorem dX4_endEntry_4 : decode cX4_endEntry 4 = .ok (.aload_n 0, 1) := by decide +kernel
theorem dX4_endEntry_5 : decode cX4_endEntry 5 = .ok (.getfield 43, 3) := by decide +kernel
theorem dX4_endEntry_8 : decode cX4_endEntry 8 = .ok (.aload_n 0, 1) := by decide +kernel
theorem dX4_endEntry_9 : decode cX4_endEntry 9 = .ok (.getfield 46, 3) := by decide +kernel
theorem dX4_endEntry_12 : decode cX4_endEntry 12 = .ok (.aload_n 0, 1) := by decide +kernel
theorem dX4_endEntry_13 : decode cX4_endEntry 13 = .ok (.getfield 55, 3) := by decide +kernel
theorem dX4_endEntry_16 : decode cX4_endEntry 16 = .ok (.ifCond .eq 11, 3) := by decide +kernel
theorem dX4_endEntry_19 : decode cX4_endEntry 19 = .ok (.aload_n 0, 1) := by decide +kernel
theorem dX4_endEntry_20 : decode cX4_endEntry 20 = .ok (.getfield 62, 3) := by decide +kernel
theorem dX4_endEntry_23 : decode cX4_endEntry 23 = .ok (.ineg, 1) := by decide +kernel
theorem dX4_endEntry_24 : decode cX4_endEntry 24 = .ok (.goto 7, 3) := by decide +kernel
theorem dX4_endEntry_27 : decode cX4_endEntry 27 = .ok (.aload_n 0, 1) := by decide +kernel
theorem dX4_endEntry_28 : decode cX4_endEntry 28 = .ok (.getfield 62, 3) := by decide +kernel
theorem dX4_endEntry_31 : decode cX4_endEntry 31 = .ok (.invokevirtual 92, 3) := by decide +kernel
theorem dX4_endEntry_34 : decode cX4_endEntry 34 = .ok (.aload_n 0, 1) := by decide +kernel
theorem dX4_endEntry_35 : decode cX4_endEntry 35 = .ok (.invokevirtual 52, 3) := by decide +kernel
theorem dX4_endEntry_38 : decode cX4_endEntry 38 = .ok (.return_, 1) := by decide +kernel
theorem dX4_endRow_0 : decode cX4_endRow 0 = .ok (.aload_n 0, 1) := by decide +kernel
theorem dX4_endRow_1 : decode cX4_endRow 1 = .ok (.getfield 43, 3) := by decide +kernel
theorem dX4_endRow_4 : decode cX4_endRow 4 = .ok (.ifCond .ne 13, 3) := by decide +kernel
theorem dX4_endRow_7 : decode cX4_endRow 7 = .ok (.aload_n 0, 1) := by decide +kernel
theorem dX4_endRow_8 : decode cX4_endRow 8 = .ok (.aload_n 0, 1) := by decide +kernel
theorem dX4_endRow_9 : decode cX4_endRow 9 = .ok (.getfield 46, 3) := by decide +kernel
theorem dX4_endRow_12 : decode cX4_endRow 12 = .ok (.iconst 1, 1) := by decide +kernel
theorem dX4_endRow_13 : decode cX4_endRow 13 = .ok (.iadd, 1) := by decide +kernel
theorem dX4_endRow_14 : decode cX4_endRow 14 = .ok (.putfield 49, 3) := by decide +kernel
theorem dX4_endRow_17 : decode cX4_endRow 17 = .ok (.return_, 1) := by decide +kernel
theorem dX4_setFault_0 : decode cX4_setFault 0 = .ok (.aload_n 0, 1) := by decide +kernel
theorem dX4_setFault_1 : decode cX4_setFault 1 = .ok (.iload_n 1, 1) := by decide +kernel
theorem dX4_setFault_2 : decode cX4_setFault 2 = .ok (.putfield 95, 3) := by decide +kernel
theorem dX4_setFault_5 : decode cX4_setFault 5 = .ok (.aload_n 0, 1) := by decide +kernel
theorem dX4_setFault_6 : decode cX4_setFault 6 = .ok (.iload_n 2, 1) := by decide +kernel
theorem dX4_setFault_7 : decode cX4_setFault 7 = .ok (.putfield 29, 3) := by decide +kernel
theorem dX4_setFault_10 : decode cX4_setFault 10 = .ok (.return_, 1) := by decide +kernel
theorem dX5_init_0 : decode cX5_init 0 = .ok (.aload_n 0, 1) := by decide +kernel
theorem dX5_init_1 : decode cX5_init 1 = .ok (.invokespecial 3, 3) := by decide +kernel
theorem dX5_init_4 : decode cX5_init 4 = .ok (.aload_n 0, 1) := by decide +kernel
theorem dX5_init_5 : decode cX5_init 5 = .ok (.bipush 16, 2) := by decide +kernel
theorem dX5_init_7 : decode cX5_init 7 = .ok (.newarray .int, 2) := by decide +kernel
theorem dX5_init_9 : decode cX5_init 9 = .ok (.putfield 9, 3) := by decide +kernel
theorem dX5_init_12 : decode cX5_init 12 = .ok (.aload_n 0, 1) := by decide +kernel
theorem dX5_init_13 : decode cX5_init 13 = .ok (.bipush 16, 2) := by decide +kernel
theorem dX5_init_15 : decode cX5_init 15 = .ok (.newarray .int, 2) := by decide +kernel
theorem dX5_init_17 : decode cX5_init 17 = .ok (.putfield 15, 3) := by decide +kernel
theorem dX5_init_20 : decode cX5_init 20 = .ok (.aload_n 0, 1) := by decide +kernel
theorem dX5_init_21 : decode cX5_init 21 = .ok (.bipush 16, 2) := by decide +kernel
theorem dX5_init_23 : decode cX5_init 23 = .ok (.newarray .int, 2) := by decide +kernel
theorem dX5_init_25 : decode cX5_init 25 = .ok (.putfield 18, 3) := by decide +kernel
theorem dX5_init_28 : decode cX5_init 28 = .ok (.aload_n 0, 1) := by decide +kernel
theorem dX5_init_29 : decode cX5_init 29 = .ok (.bipush 16, 2) := by decide +kernel
theorem dX5_init_31 : decode cX5_init 31 = .ok (.newarray .int, 2) := by decide +kernel
theorem dX5_init_33 : decode cX5_init 33 = .ok (.putfield 21, 3) := by decide +kernel
theorem dX5_init_36 : decode cX5_init 36 = .ok (.return_, 1) := by decide +kernel
theorem dX5_cell_0 : decode cX5_cell 0 = .ok (.iload_n 0, 1) := by decide +kernel
theorem dX5_cell_1 : decode cX5_cell 1 = .ok (.iconst 4, 1) := by decide +kernel
theorem dX5_cell_2 : decode cX5_cell 2 = .ok (.imul, 1) := by decide +kernel
theorem dX5_cell_3 : decode cX5_cell 3 = .ok (.iload_n 1, 1) := by decide +kernel
theorem dX5_cell_4 : decode cX5_cell 4 = .ok (.iadd, 1) := by decide +kernel
theorem dX5_cell_5 : decode cX5_cell 5 = .ok (.ireturn, 1) := by decide +kernel
theorem dX5_isCell_0 : decode cX5_isCell 0 = .ok (.iload_n 0, 1) := by decide +kernel
theorem dX5_isCell_1 : decode cX5_isCell 1 = .ok (.ifCond .lt 13, 3) := by decide +kernel
theorem dX5_isCell_4 : decode cX5_isCell 4 = .ok (.iload_n 0, 1) := by decide +kernel
theorem dX5_isCell_5 : decode cX5_isCell 5 = .ok (.bipush 16, 2) := by decide +kernel
theorem dX5_isCell_7 : decode cX5_isCell 7 = .ok (.if_icmp .ge 7, 3) := by decide +kernel
theorem dX5_isCell_10 : decode cX5_isCell 10 = .ok (.iconst 1, 1) := by decide +kernel
theorem dX5_isCell_11 : decode cX5_isCell 11 = .ok (.goto 4, 3) := by decide +kernel
theorem dX5_isCell_14 : decode cX5_isCell 14 = .ok (.iconst 0, 1) := by decide +kernel
theorem dX5_isCell_15 : decode cX5_isCell 15 = .ok (.ireturn, 1) := by decide +kernel
set_option maxRecDepth 20000 in
theorem ggX5_empty_J7_fill_53178 : GoodIn wsX5_empty wsJ7_fill_53178 := goodIn_r _ [10] (by decide +kernel) (by decide +kernel)
set_option maxRecDepth 20000 in
theorem gX5_empty_J7_fill_53178 : GoodIn wsX5_empty (va_wsS RX5 24 yJ7_fill_53178 wsJ7_fill_53178) := goodIn_app (goodIn_of _ (by decide +kernel)) ggX5_empty_J7_fill_53178
theorem dX5_empty_0 : decode cX5_empty 0 = .ok (.aload_n 0, 1) := by decide +kernel
theorem dX5_empty_1 : decode cX5_empty 1 = .ok (.getfield 9, 3) := by decide +kernel
theorem dX5_empty_4 : decode cX5_empty 4 = .ok (.iconst 0, 1) := by decide +kernel
theorem dX5_empty_5 : decode cX5_empty 5 = .ok (.invokestatic 24, 3) := by decide +kernel
theorem dX5_empty_8 : decode cX5_empty 8 = .ok (.aload_n 0, 1) := by decide +kernel
theorem dX5_empty_9 : decode cX5_empty 9 = .ok (.getfield 15, 3) := by decide +kernel
theorem dX5_empty_12 : decode cX5_empty 12 = .ok (.iconst 0, 1) := by decide +kernel
theorem dX5_empty_13 : decode cX5_empty 13 = .ok (.invokestatic 24, 3) := by decide +kernel
theorem dX5_empty_16 : decode cX5_empty 16 = .ok (.aload_n 0, 1) := by decide +kernel
theorem dX5_empty_17 : decode cX5_empty 17 = .ok (.getfield 18, 3) := by decide +kernel
theorem dX5_empty_20 : decode cX5_empty 20 = .ok (.ldc 30, 2) := by decide +kernel
theorem dX5_empty_22 : decode cX5_empty 22 = .ok (.invokestatic 24, 3) := by decide +kernel
theorem dX5_empty_25 : decode cX5_empty 25 = .ok (.aload_n 0, 1) := by decide +kernel
theorem dX5_empty_26 : decode cX5_empty 26 = .ok (.getfield 21, 3) := by decide +kernel
theorem dX5_empty_29 : decode cX5_empty 29 = .ok (.ldc 30, 2) := by decide +kernel
theorem dX5_empty_31 : decode cX5_empty 31 = .ok (.invokestatic 24, 3) := by decide +kernel
theorem dX5_empty_34 : decode cX5_empty 34 = .ok (.aload_n 0, 1) := by decide +kernel
theorem dX5_empty_35 : decode cX5_empty 35 = .ok (.iconst 0, 1) := by decide +kernel
theorem dX5_empty_36 : decode cX5_empty 36 = .ok (.putfield 31, 3) := by decide +kernel
theorem dX5_empty_39 : decode cX5_empty 39 = .ok (.return_, 1) := by decide +kernel
theorem dX5_ticksLeft_0 : decode cX5_ticksLeft 0 = .ok (.aload_n 0, 1) := by decide +kernel
theorem dX5_ticksLeft_1 : decode cX5_ticksLeft 1 = .ok (.getfield 35, 3) := by decide +kernel
theorem dX5_ticksLeft_4 : decode cX5_ticksLeft 4 = .ok (.aload_n 0, 1) := by decide +kernel
theorem dX5_ticksLeft_5 : decode cX5_ticksLeft 5 = .ok (.getfield 31, 3) := by decide +kernel
theorem dX5_ticksLeft_8 : decode cX5_ticksLeft 8 = .ok (.isub, 1) := by decide +kernel
theorem dX5_ticksLeft_9 : decode cX5_ticksLeft 9 = .ok (.ireturn, 1) := by decide +kernel
set_option maxRecDepth 20000 in
theorem ggX5_sumOf_X5_isCell : GoodIn wsX5_sumOf wsX5_isCell := goodIn_r _ [5] (by decide +kernel) (by decide +kernel)
set_option maxRecDepth 20000 in
theorem gX5_sumOf_X5_isCell : GoodIn wsX5_sumOf (va_wsS RX5 38 yX5_isCell wsX5_isCell) := goodIn_app (goodIn_of _ (by decide +kernel)) ggX5_sumOf_X5_isCell
theorem dX5_sumOf_0 : decode cX5_sumOf 0 = .ok (.iload_n 1, 1) := by decide +kernel
theorem dX5_sumOf_1 : decode cX5_sumOf 1 = .ok (.invokestatic 38, 3) := by decide +kernel
theorem dX5_sumOf_4 : decode cX5_sumOf 4 = .ok (.ifCond .eq 12, 3) := by decide +kernel
theorem dX5_sumOf_7 : decode cX5_sumOf 7 = .ok (.aload_n 0, 1) := by decide +kernel
theorem dX5_sumOf_8 : decode cX5_sumOf 8 = .ok (.getfield 9, 3) := by decide +kernel
theorem dX5_sumOf_11 : decode cX5_sumOf 11 = .ok (.iload_n 1, 1) := by decide +kernel
theorem dX5_sumOf_12 : decode cX5_sumOf 12 = .ok (.iaload, 1) := by decide +kernel
theorem dX5_sumOf_13 : decode cX5_sumOf 13 = .ok (.goto 4, 3) := by decide +kernel
theorem dX5_sumOf_16 : decode cX5_sumOf 16 = .ok (.iconst 0, 1) := by decide +kernel
theorem dX5_sumOf_17 : decode cX5_sumOf 17 = .ok (.ireturn, 1) := by decide +kernel
set_option maxRecDepth 20000 in
theorem ggX5_meetingsOf_X5_isCell : GoodIn wsX5_meetingsOf wsX5_isCell := goodIn_r _ [5] (by decide +kernel) (by decide +kernel)
set_option maxRecDepth 20000 in
theorem gX5_meetingsOf_X5_isCell : GoodIn wsX5_meetingsOf (va_wsS RX5 38 yX5_isCell wsX5_isCell) := goodIn_app (goodIn_of _ (by decide +kernel)) ggX5_meetingsOf_X5_isCell
theorem dX5_meetingsOf_0 : decode cX5_meetingsOf 0 = .ok (.iload_n 1, 1) := by decide +kernel
theorem dX5_meetingsOf_1 : decode cX5_meetingsOf 1 = .ok (.invokestatic 38, 3) := by decide +kernel
theorem dX5_meetingsOf_4 : decode cX5_meetingsOf 4 = .ok (.ifCond .eq 12, 3) := by decide +kernel
theorem dX5_meetingsOf_7 : decode cX5_meetingsOf 7 = .ok (.aload_n 0, 1) := by decide +kernel
theorem dX5_meetingsOf_8 : decode cX5_meetingsOf 8 = .ok (.getfield 15, 3) := by decide +kernel
theorem dX5_meetingsOf_11 : decode cX5_meetingsOf 11 = .ok (.iload_n 1, 1) := by decide +kernel
theorem dX5_meetingsOf_12 : decode cX5_meetingsOf 12 = .ok (.iaload, 1) := by decide +kernel
theorem dX5_meetingsOf_13 : decode cX5_meetingsOf 13 = .ok (.goto 4, 3) := by decide +kernel
theorem dX5_meetingsOf_16 : decode cX5_meetingsOf 16 = .ok (.iconst 0, 1) := by decide +kernel
theorem dX5_meetingsOf_17 : decode cX5_meetingsOf 17 = .ok (.ireturn, 1) := by decide +kernel
set_option maxRecDepth 20000 in
theorem ggX5_rightwardOf_X5_isCell : GoodIn wsX5_rightwardOf wsX5_isCell := goodIn_r _ [6] (by decide +kernel) (by decide +kernel)
set_option maxRecDepth 20000 in
theorem gX5_rightwardOf_X5_isCell : GoodIn wsX5_rightwardOf (va_wsS RX5 38 yX5_isCell wsX5_isCell) := goodIn_app (goodIn_of _ (by decide +kernel)) ggX5_rightwardOf_X5_isCell
theorem dX5_rightwardOf_0 : decode cX5_rightwardOf 0 = .ok (.iload_n 1, 1) := by decide +kernel
theorem dX5_rightwardOf_1 : decode cX5_rightwardOf 1 = .ok (.invokestatic 38, 3) := by decide +kernel
theorem dX5_rightwardOf_4 : decode cX5_rightwardOf 4 = .ok (.ifCond .eq 12, 3) := by decide +kernel
theorem dX5_rightwardOf_7 : decode cX5_rightwardOf 7 = .ok (.aload_n 0, 1) := by decide +kernel
theorem dX5_rightwardOf_8 : decode cX5_rightwardOf 8 = .ok (.getfield 18, 3) := by decide +kernel
theorem dX5_rightwardOf_11 : decode cX5_rightwardOf 11 = .ok (.iload_n 1, 1) := by decide +kernel
theorem dX5_rightwardOf_12 : decode cX5_rightwardOf 12 = .ok (.iaload, 1) := by decide +kernel
theorem dX5_rightwardOf_13 : decode cX5_rightwardOf 13 = .ok (.goto 5, 3) := by decide +kernel
theorem dX5_rightwardOf_16 : decode cX5_rightwardOf 16 = .ok (.ldc 30, 2) := by decide +kernel
theorem dX5_rightwardOf_18 : decode cX5_rightwardOf 18 = .ok (.ireturn, 1) := by decide +kernel
set_option maxRecDepth 20000 in
theorem ggX5_downwardOf_X5_isCell : GoodIn wsX5_downwardOf wsX5_isCell := goodIn_r _ [6] (by decide +kernel) (by decide +kernel)
set_option maxRecDepth 20000 in
theorem gX5_downwardOf_X5_isCell : GoodIn wsX5_downwardOf (va_wsS RX5 38 yX5_isCell wsX5_isCell) := goodIn_app (goodIn_of _ (by decide +kernel)) ggX5_downwardOf_X5_isCell
theorem dX5_downwardOf_0 : decode cX5_downwardOf 0 = .ok (.iload_n 1, 1) := by decide +kernel
theorem dX5_downwardOf_1 : decode cX5_downwardOf 1 = .ok (.invokestatic 38, 3) := by decide +kernel
theorem dX5_downwardOf_4 : decode cX5_downwardOf 4 = .ok (.ifCond .eq 12, 3) := by decide +kernel
theorem dX5_downwardOf_7 : decode cX5_downwardOf 7 = .ok (.aload_n 0, 1) := by decide +kernel
theorem dX5_downwardOf_8 : decode cX5_downwardOf 8 = .ok (.getfield 21, 3) := by decide +kernel
theorem dX5_downwardOf_11 : decode cX5_downwardOf 11 = .ok (.iload_n 1, 1) := by decide +kernel
theorem dX5_downwardOf_12 : decode cX5_downwardOf 12 = .ok (.iaload, 1) := by decide +kernel
theorem dX5_downwardOf_13 : decode cX5_downwardOf 13 = .ok (.goto 5, 3) := by decide +kernel
theorem dX5_downwardOf_16 : decode cX5_downwardOf 16 = .ok (.ldc 30, 2) := by decide +kernel
theorem dX5_downwardOf_18 : decode cX5_downwardOf 18 = .ok (.ireturn, 1) := by decide +kernel
set_option maxRecDepth 20000 in
theorem ggX5_pass_X5_isCell : GoodIn wsX5_pass wsX5_isCell := goodIn_r _ [9] (by decide +kernel) (by decide +kernel)
set_option maxRecDepth 20000 in
theorem gX5_pass_X5_isCell : GoodIn wsX5_pass (va_wsS RX5 38 yX5_isCell wsX5_isCell) := goodIn_app (goodIn_of _ (by decide +kernel)) ggX5_pass_X5_isCell
set_option maxRecDepth 20000 in
theorem ggX5_pass_X5_timesAdded : GoodIn wsX5_pass wsX5_timesAdded := goodIn_r _ [12] (by decide +kernel) (by decide +kernel)
set_option maxRecDepth 20000 in
theorem gX5_pass_X5_timesAdded : GoodIn wsX5_pass (va_wsS RX5 42 yX5_timesAdded wsX5_timesAdded) := goodIn_app (goodIn_of _ (by decide +kernel)) ggX5_pass_X5_timesAdded
set_option maxRecDepth 20000 in
theorem ggX5_pass_X5_zeroIfAny : GoodIn wsX5_pass wsX5_zeroIfAny := goodIn_r _ [15, 1] (by decide +kernel) (by decide +kernel)
set_option maxRecDepth 20000 in
theorem gX5_pass_X5_zeroIfAny : GoodIn wsX5_pass (va_wsS RX5 46 yX5_zeroIfAny wsX5_zeroIfAny) := goodIn_app (goodIn_of _ (by decide +kernel)) ggX5_pass_X5_zeroIfAny
theorem dX5_pass_0 : decode cX5_pass 0 = .ok (.iload_n 1, 1) := by decide +kernel
theorem dX5_pass_1 : decode cX5_pass 1 = .ok (.invokestatic 38, 3) := by decide +kernel
theorem dX5_pass_4 : decode cX5_pass 4 = .ok (.ifCond .ne 4, 3) := by decide +kernel
theorem dX5_pass_7 : decode cX5_pass 7 = .ok (.return_, 1) := by decide +kernel
theorem dX5_pass_8 : decode cX5_pass 8 = .ok (.iload_n 2, 1) := by decide +kernel
theorem dX5_pass_9 : decode cX5_pass 9 = .ok (.ldc 30, 2) := by decide +kernel
theorem dX5_pass_11 : decode cX5_pass 11 = .ok (.if_icmp .eq 37, 3) := by decide +kernel
theorem dX5_pass_14 : decode cX5_pass 14 = .ok (.iload_n 3, 1) := by decide +kernel
theorem dX5_pass_15 : decode cX5_pass 15 = .ok (.ldc 30, 2) := by decide +kernel
theorem dX5_pass_17 : decode cX5_pass 17 = .ok (.if_icmp .eq 31, 3) := by decide +kernel
theorem dX5_pass_20 : decode cX5_pass 20 = .ok (.aload_n 0, 1) := by decide +kernel
theorem dX5_pass_21 : decode cX5_pass 21 = .ok (.getfield 15, 3) := by decide +kernel
theorem dX5_pass_24 : decode cX5_pass 24 = .ok (.iload_n 1, 1) := by decide +kernel
theorem dX5_pass_25 : decode cX5_pass 25 = .ok (.dup2, 1) := by decide +kernel
theorem dX5_pass_26 : decode cX5_pass 26 = .ok (.iaload, 1) := by decide +kernel
theorem dX5_pass_27 : decode cX5_pass 27 = .ok (.iconst 1, 1) := by decide +kernel
theorem dX5_pass_28 : decode cX5_pass 28 = .ok (.iadd, 1) := by decide +kernel
theorem dX5_pass_29 : decode cX5_pass 29 = .ok (.iastore, 1) := by decide +kernel
theorem dX5_pass_30 : decode cX5_pass 30 = .ok (.aload_n 0, 1) := by decide +kernel
theorem dX5_pass_31 : decode cX5_pass 31 = .ok (.getfield 9, 3) := by decide +kernel
theorem dX5_pass_34 : decode cX5_pass 34 = .ok (.iload_n 1, 1) := by decide +kernel
theorem dX5_pass_35 : decode cX5_pass 35 = .ok (.dup2, 1) := by decide +kernel
theorem dX5_pass_36 : decode cX5_pass 36 = .ok (.iaload, 1) := by decide +kernel
theorem dX5_pass_37 : decode cX5_pass 37 = .ok (.iload 4, 2) := by decide +kernel
theorem dX5_pass_39 : decode cX5_pass 39 = .ok (.invokestatic 42, 3) := by decide +kernel
theorem dX5_pass_42 : decode cX5_pass 42 = .ok (.iload_n 2, 1) := by decide +kernel
theorem dX5_pass_43 : decode cX5_pass 43 = .ok (.imul, 1) := by decide +kernel
theorem dX5_pass_44 : decode cX5_pass 44 = .ok (.iload_n 3, 1) := by decide +kernel
theorem dX5_pass_45 : decode cX5_pass 45 = .ok (.imul, 1) := by decide +kernel
theorem dX5_pass_46 : decode cX5_pass 46 = .ok (.iadd, 1) := by decide +kernel
theorem dX5_pass_47 : decode cX5_pass 47 = .ok (.iastore, 1) := by decide +kernel
theorem dX5_pass_48 : decode cX5_pass 48 = .ok (.aload_n 0, 1) := by decide +kernel
theorem dX5_pass_49 : decode cX5_pass 49 = .ok (.getfield 18, 3) := by decide +kernel
theorem dX5_pass_52 : decode cX5_pass 52 = .ok (.iload_n 1, 1) := by decide +kernel
theorem dX5_pass_53 : decode cX5_pass 53 = .ok (.iload 4, 2) := by decide +kernel
theorem dX5_pass_55 : decode cX5_pass 55 = .ok (.iconst 3, 1) := by decide +kernel
theorem dX5_pass_56 : decode cX5_pass 56 = .ok (.if_icmp .ne 10, 3) := by decide +kernel
theorem dX5_pass_59 : decode cX5_pass 59 = .ok (.iload_n 2, 1) := by decide +kernel
theorem dX5_pass_60 : decode cX5_pass 60 = .ok (.invokestatic 46, 3) := by decide +kernel
theorem dX5_pass_63 : decode cX5_pass 63 = .ok (.goto 4, 3) := by decide +kernel
theorem dX5_pass_66 : decode cX5_pass 66 = .ok (.iload_n 2, 1) := by decide +kernel
theorem dX5_pass_67 : decode cX5_pass 67 = .ok (.iastore, 1) := by decide +kernel
theorem dX5_pass_68 : decode cX5_pass 68 = .ok (.aload_n 0, 1) := by decide +kernel
theorem dX5_pass_69 : decode cX5_pass 69 = .ok (.getfield 21, 3) := by decide +kernel
theorem dX5_pass_72 : decode cX5_pass 72 = .ok (.iload_n 1, 1) := by decide +kernel
theorem dX5_pass_73 : decode cX5_pass 73 = .ok (.iload 4, 2) := by decide +kernel
theorem dX5_pass_75 : decode cX5_pass 75 = .ok (.iconst 4, 1) := by decide +kernel
theorem dX5_pass_76 : decode cX5_pass 76 = .ok (.if_icmp .ne 10, 3) := by decide +kernel
theorem dX5_pass_79 : decode cX5_pass 79 = .ok (.iload_n 3, 1) := by decide +kernel
theorem dX5_pass_80 : decode cX5_pass 80 = .ok (.invokestatic 46, 3) := by decide +kernel
theorem dX5_pass_83 : decode cX5_pass 83 = .ok (.goto 4, 3) := by decide +kernel
theorem dX5_pass_86 : decode cX5_pass 86 = .ok (.iload_n 3, 1) := by decide +kernel
theorem dX5_pass_87 : decode cX5_pass 87 = .ok (.iastore, 1) := by decide +kernel
theorem dX5_pass_88 : decode cX5_pass 88 = .ok (.return_, 1) := by decide +kernel
theorem dX5_timesAdded_0 : decode cX5_timesAdded 0 = .ok (.iload_n 0, 1) := by decide +kernel
theorem dX5_timesAdded_1 : decode cX5_timesAdded 1 = .ok (.iconst 1, 1) := by decide +kernel
theorem dX5_timesAdded_2 : decode cX5_timesAdded 2 = .ok (.if_icmp .ne 5, 3) := by decide +kernel
theorem dX5_timesAdded_5 : decode cX5_timesAdded 5 = .ok (.iconst 0, 1) := by decide +kernel
theorem dX5_timesAdded_6 : decode cX5_timesAdded 6 = .ok (.ireturn, 1) := by decide +kernel
theorem dX5_timesAdded_7 : decode cX5_timesAdded 7 = .ok (.iload_n 0, 1) := by decide +kernel
theorem dX5_timesAdded_8 : decode cX5_timesAdded 8 = .ok (.iconst 2, 1) := by decide +kernel
theorem dX5_timesAdded_9 : decode cX5_timesAdded 9 = .ok (.if_icmp .ne 7, 3) := by decide +kernel
theorem dX5_timesAdded_12 : decode cX5_timesAdded 12 = .ok (.iconst 2, 1) := by decide +kernel
theorem dX5_timesAdded_13 : decode cX5_timesAdded 13 = .ok (.goto 4, 3) := by decide +kernel
theorem dX5_timesAdded_16 : decode cX5_timesAdded 16 = .ok (.iconst 1, 1) := by decide +kernel
theorem dX5_timesAdded_17 : decode cX5_timesAdded 17 = .ok (.ireturn, 1) := by decide +kernel
theorem dX5_zeroIfAny_0 : decode cX5_zeroIfAny 0 = .ok (.iload_n 0, 1) := by decide +kernel
theorem dX5_zeroIfAny_1 : decode cX5_zeroIfAny 1 = .ok (.ldc 30, 2) := by decide +kernel
theorem dX5_zeroIfAny_3 : decode cX5_zeroIfAny 3 = .ok (.if_icmp .ne 8, 3) := by decide +kernel
theorem dX5_zeroIfAny_6 : decode cX5_zeroIfAny 6 = .ok (.ldc 30, 2) := by decide +kernel
theorem dX5_zeroIfAny_8 : decode cX5_zeroIfAny 8 = .ok (.goto 4, 3) := by decide +kernel
theorem dX5_zeroIfAny_11 : decode cX5_zeroIfAny 11 = .ok (.iconst 0, 1) := by decide +kernel
theorem dX5_zeroIfAny_12 : decode cX5_zeroIfAny 12 = .ok (.ireturn, 1) := by decide +kernel
theorem dX5_copyFrom_0 : decode cX5_copyFrom 0 = .ok (.aload_n 0, 1) := by decide +kernel
theorem dX5_copyFrom_1 : decode cX5_copyFrom 1 = .ok (.aload_n 1, 1) := by decide +kernel
theorem dX5_copyFrom_2 : decode cX5_copyFrom 2 = .ok (.getfield 49, 3) := by decide +kernel
theorem dX5_copyFrom_5 : decode cX5_copyFrom 5 = .ok (.putfield 49, 3) := by decide +kernel
theorem dX5_copyFrom_8 : decode cX5_copyFrom 8 = .ok (.aload_n 0, 1) := by decide +kernel
theorem dX5_copyFrom_9 : decode cX5_copyFrom 9 = .ok (.aload_n 1, 1) := by decide +kernel
theorem dX5_copyFrom_10 : decode cX5_copyFrom 10 = .ok (.getfield 53, 3) := by decide +kernel
theorem dX5_copyFrom_13 : decode cX5_copyFrom 13 = .ok (.putfield 53, 3) := by decide +kernel
theorem dX5_copyFrom_16 : decode cX5_copyFrom 16 = .ok (.aload_n 0, 1) := by decide +kernel
theorem dX5_copyFrom_17 : decode cX5_copyFrom 17 = .ok (.aload_n 1, 1) := by decide +kernel
theorem dX5_copyFrom_18 : decode cX5_copyFrom 18 = .ok (.getfield 56, 3) := by decide +kernel
theorem dX5_copyFrom_21 : decode cX5_copyFrom 21 = .ok (.putfield 56, 3) := by decide +kernel
theorem dX5_copyFrom_24 : decode cX5_copyFrom 24 = .ok (.aload_n 0, 1) := by decide +kernel
theorem dX5_copyFrom_25 : decode cX5_copyFrom 25 = .ok (.aload_n 1, 1) := by decide +kernel
theorem dX5_copyFrom_26 : decode cX5_copyFrom 26 = .ok (.getfield 59, 3) := by decide +kernel
theorem dX5_copyFrom_29 : decode cX5_copyFrom 29 = .ok (.putfield 59, 3) := by decide +kernel
theorem dX5_copyFrom_32 : decode cX5_copyFrom 32 = .ok (.aload_n 0, 1) := by decide +kernel
theorem dX5_copyFrom_33 : decode cX5_copyFrom 33 = .ok (.aload_n 1, 1) := by decide +kernel
theorem dX5_copyFrom_34 : decode cX5_copyFrom 34 = .ok (.getfield 62, 3) := by decide +kernel
theorem dX5_copyFrom_37 : decode cX5_copyFrom 37 = .ok (.putfield 62, 3) := by decide +kernel
theorem dX5_copyFrom_40 : decode cX5_copyFrom 40 = .ok (.aload_n 0, 1) := by decide +kernel
theorem dX5_copyFrom_41 : decode cX5_copyFrom 41 = .ok (.aload_n 1, 1) := by decide +kernel
theorem dX5_copyFrom_42 : decode cX5_copyFrom 42 = .ok (.getfield 31, 3) := by decide +kernel
theorem dX5_copyFrom_45 : decode cX5_copyFrom 45 = .ok (.putfield 31, 3) := by decide +kernel
theorem dX5_copyFrom_48 : decode cX5_copyFrom 48 = .ok (.aload_n 0, 1) := by decide +kernel
theorem dX5_copyFrom_49 : decode cX5_copyFrom 49 = .ok (.aload_n 1, 1) := by decide +kernel
theorem dX5_copyFrom_50 : decode cX5_copyFrom 50 = .ok (.getfield 35, 3) := by decide +kernel
theorem dX5_copyFrom_53 : decode cX5_copyFrom 53 = .ok (.putfield 35, 3) := by decide +kernel
theorem dX5_copyFrom_56 : decode cX5_copyFrom 56 = .ok (.aload_n 1, 1) := by decide +kernel
theorem dX5_copyFrom_57 : decode cX5_copyFrom 57 = .ok (.getfield 9, 3) := by decide +kernel
theorem dX5_copyFrom_60 : decode cX5_copyFrom 60 = .ok (.iconst 0, 1) := by decide +kernel
theorem dX5_copyFrom_61 : decode cX5_copyFrom 61 = .ok (.aload_n 0, 1) := by decide +kernel
theorem dX5_copyFrom_62 : decode cX5_copyFrom 62 = .ok (.getfield 9, 3) := by decide +kernel
theorem dX5_copyFrom_65 : decode cX5_copyFrom 65 = .ok (.iconst 0, 1) := by decide +kernel
theorem dX5_copyFrom_66 : decode cX5_copyFrom 66 = .ok (.aload_n 0, 1) := by decide +kernel
theorem dX5_copyFrom_67 : decode cX5_copyFrom 67 = .ok (.getfield 9, 3) := by decide +kernel
theorem dX5_copyFrom_70 : decode cX5_copyFrom 70 = .ok (.arraylength, 1) := by decide +kernel
theorem dX5_copyFrom_71 : decode cX5_copyFrom 71 = .ok (.invokestatic 65, 3) := by decide +kernel
theorem dX5_copyFrom_74 : decode cX5_copyFrom 74 = .ok (.aload_n 1, 1) := by decide +kernel
theorem dX5_copyFrom_75 : decode cX5_copyFrom 75 = .ok (.getfield 15, 3) := by decide +kernel
theorem dX5_copyFrom_78 : decode cX5_copyFrom 78 = .ok (.iconst 0, 1) := by decide +kernel
theorem dX5_copyFrom_79 : decode cX5_copyFrom 79 = .ok (.aload_n 0, 1) := by decide +kernel
theorem dX5_copyFrom_80 : decode cX5_copyFrom 80 = .ok (.getfield 15, 3) := by decide +kernel
theorem dX5_copyFrom_83 : decode cX5_copyFrom 83 = .ok (.iconst 0, 1) := by decide +kernel
theorem dX5_copyFrom_84 : decode cX5_copyFrom 84 = .ok (.aload_n 0, 1) := by decide +kernel
theorem dX5_copyFrom_85 : decode cX5_copyFrom 85 = .ok (.getfield 15, 3) := by decide +kernel
theorem dX5_copyFrom_88 : decode cX5_copyFrom 88 = .ok (.arraylength, 1) := by decide +kernel
theorem dX5_copyFrom_89 : decode cX5_copyFrom 89 = .ok (.invokestatic 65, 3) := by decide +kernel
theorem dX5_copyFrom_92 : decode cX5_copyFrom 92 = .ok (.aload_n 1, 1) := by decide +kernel
theorem dX5_copyFrom_93 : decode cX5_copyFrom 93 = .ok (.getfield 18, 3) := by decide +kernel
theorem dX5_copyFrom_96 : decode cX5_copyFrom 96 = .ok (.iconst 0, 1) := by decide +kernel
theorem dX5_copyFrom_97 : decode cX5_copyFrom 97 = .ok (.aload_n 0, 1) := by decide +kernel
theorem dX5_copyFrom_98 : decode cX5_copyFrom 98 = .ok (.getfield 18, 3) := by decide +kernel
theorem dX5_copyFrom_101 : decode cX5_copyFrom 101 = .ok (.iconst 0, 1) := by decide +kernel
theorem dX5_copyFrom_102 : decode cX5_copyFrom 102 = .ok (.aload_n 0, 1) := by decide +kernel
theorem dX5_copyFrom_103 : decode cX5_copyFrom 103 = .ok (.getfield 18, 3) := by decide +kernel
theorem dX5_copyFrom_106 : decode cX5_copyFrom 106 = .ok (.arraylength, 1) := by decide +kernel
theorem dX5_copyFrom_107 : decode cX5_copyFrom 107 = .ok (.invokestatic 65, 3) := by decide +kernel
theorem dX5_copyFrom_110 : decode cX5_copyFrom 110 = .ok (.aload_n 1, 1) := by decide +kernel
theorem dX5_copyFrom_111 : decode cX5_copyFrom 111 = .ok (.getfield 21, 3) := by decide +kernel
theorem dX5_copyFrom_114 : decode cX5_copyFrom 114 = .ok (.iconst 0, 1) := by decide +kernel
theorem dX5_copyFrom_115 : decode cX5_copyFrom 115 = .ok (.aload_n 0, 1) := by decide +kernel
theorem dX5_copyFrom_116 : decode cX5_copyFrom 116 = .ok (.getfield 21, 3) := by decide +kernel
theorem dX5_copyFrom_119 : decode cX5_copyFrom 119 = .ok (.iconst 0, 1) := by decide +kernel
theorem dX5_copyFrom_120 : decode cX5_copyFrom 120 = .ok (.aload_n 0, 1) := by decide +kernel
theorem dX5_copyFrom_121 : decode cX5_copyFrom 121 = .ok (.getfield 21, 3) := by decide +kernel
theorem dX5_copyFrom_124 : decode cX5_copyFrom 124 = .ok (.arraylength, 1) := by decide +kernel
theorem dX5_copyFrom_125 : decode cX5_copyFrom 125 = .ok (.invokestatic 65, 3) := by decide +kernel
theorem dX5_copyFrom_128 : decode cX5_copyFrom 128 = .ok (.return_, 1) := by decide +kernel
set_option maxRecDepth 20000 in
theorem ggX6_init_X3_init : GoodIn wsX6_init wsX3_init := goodIn_r _ [19, 20, 2, 3, 21, 22, 23, 24, 25, 26, 27, 28, 29, 30, 31, 32, 33, 34, 35, 36, 37, 38, 39, 40, 41, 42, 43, 44, 45, 46, 47, 48, 49, 50, 51, 52, 53, 54, 55, 56, 57, 6, 58, 59, 60, 61, 62, 63, 64, 65, 66, 67, 68, 69, 70, 71, 72, 109, 110, 111, 87, 88, 89, 90, 91, 112, 113, 114, 115, 116, 117, 118, 119, 120, 121, 122, 123, 124, 125] (by decide +kernel) (by decide +kernel)
set_option maxRecDepth 20000 in
theorem gX6_init_X3_init : GoodIn wsX6_init (wsX3_init) := ggX6_init_X3_init
set_option maxRecDepth 20000 in
theorem ggX6_init_X0_init : GoodIn wsX6_init wsX0_init := goodIn_r _ [75, 76, 2, 3, 77, 78, 5, 6, 79, 18, 19, 20, 21, 22, 23, 24, 25, 26, 27, 28, 29, 30, 31, 32, 33, 34, 35, 36, 37, 38, 39, 40, 41, 42, 43, 44, 45, 46, 47, 48, 49, 50, 51, 52, 53, 54, 55, 56, 57, 58, 59, 60, 61, 62, 63, 64, 65, 66, 67, 68, 69, 70, 71, 72, 96, 97, 87, 88, 89, 90, 91, 109, 110, 111, 112, 113, 114, 115, 116, 117, 118, 119, 120, 121, 122, 123, 124, 125] (by decide +kernel) (by decide +kernel)
set_option maxRecDepth 20000 in
theorem gX6_init_X0_init : GoodIn wsX6_init (wsX0_init) := ggX6_init_X0_init
set_option maxRecDepth 20000 in
theorem ggX6_init_X4_init : GoodIn wsX6_init wsX4_init := goodIn_r _ [81, 82, 2, 3, 83, 84, 85, 26, 27, 86, 42, 43, 44, 45, 46, 40, 47, 98, 99, 100, 101, 102, 103, 104, 105, 106, 107, 108, 112, 113, 114] (by decide +kernel) (by decide +kernel)
set_option maxRecDepth 20000 in
theorem gX6_init_X4_init_n28 : GoodIn wsX6_init (wsX4_init) := ggX6_init_X4_init
theorem dX6_init_0 : decode cX6_init 0 = .ok (.aload_n 0, 1) := by decide +kernel
theorem dX6_init_1 : decode cX6_init 1 = .ok (.invokespecial 1, 3) := by decide +kernel
theorem dX6_init_4 : decode cX6_init 4 = .ok (.aload_n 0, 1) := by decide +kernel
theorem dX6_init_5 : decode cX6_init 5 = .ok (.new 7, 3) := by decide +kernel
theorem dX6_init_8 : decode cX6_init 8 = .ok (.dup, 1) := by decide +kernel
theorem dX6_init_9 : decode cX6_init 9 = .ok (.invokespecial 9, 3) := by decide +kernel
theorem dX6_init_12 : decode cX6_init 12 = .ok (.putfield 10, 3) := by decide +kernel
theorem dX6_init_15 : decode cX6_init 15 = .ok (.aload_n 0, 1) := by decide +kernel
theorem dX6_init_16 : decode cX6_init 16 = .ok (.new 7, 3) := by decide +kernel
theorem dX6_init_19 : decode cX6_init 19 = .ok (.dup, 1) := by decide +kernel
theorem dX6_init_20 : decode cX6_init 20 = .ok (.invokespecial 9, 3) := by decide +kernel
theorem dX6_init_23 : decode cX6_init 23 = .ok (.putfield 16, 3) := by decide +kernel
theorem dX6_init_26 : decode cX6_init 26 = .ok (.aload_n 0, 1) := by decide +kernel
theorem dX6_init_27 : decode cX6_init 27 = .ok (.new 19, 3) := by decide +kernel
theorem dX6_init_30 : decode cX6_init 30 = .ok (.dup, 1) := by decide +kernel
theorem dX6_init_31 : decode cX6_init 31 = .ok (.invokespecial 21, 3) := by decide +kernel
theorem dX6_init_34 : decode cX6_init 34 = .ok (.putfield 22, 3) := by decide +kernel
theorem dX6_init_37 : decode cX6_init 37 = .ok (.aload_n 0, 1) := by decide +kernel
theorem dX6_init_38 : decode cX6_init 38 = .ok (.new 26, 3) := by decide +kernel
theorem dX6_init_41 : decode cX6_init 41 = .ok (.dup, 1) := by decide +kernel
theorem dX6_init_42 : decode cX6_init 42 = .ok (.invokespecial 28, 3) := by decide +kernel
theorem dX6_init_45 : decode cX6_init 45 = .ok (.putfield 29, 3) := by decide +kernel
theorem dX6_init_48 : decode cX6_init 48 = .ok (.return_, 1) := by decide +kernel
set_option maxRecDepth 20000 in
theorem ggX6_side_X0_remember : GoodIn wsX6_side wsX0_remember := goodIn_r _ [12, 13, 14, 15, 16, 17, 11, 18, 19, 20, 21, 22, 23, 24, 25, 26, 27, 28, 29, 30, 31, 32, 33, 34, 35, 36, 37, 38, 39, 40, 41, 42, 43, 44, 45, 46, 47, 48, 49, 50, 51, 52, 53, 54, 55, 56, 57, 58, 59, 60, 61, 62, 63, 64, 65, 66, 113, 114, 94, 95, 96, 97, 98, 99, 100, 101, 115, 116, 117, 102, 103, 104, 105, 106, 107, 108, 109, 110, 111, 112] (by decide +kernel) (by decide +kernel)
set_option maxRecDepth 20000 in
theorem gX6_side_X0_remember : GoodIn wsX6_side (wsV RX6 34 RX0 yX0_remember wsX0_remember) := goodIn_app (goodIn_of _ (by decide +kernel)) ggX6_side_X0_remember
set_option maxRecDepth 20000 in
theorem ggX6_side_X2_renew : GoodIn wsX6_side wsX2_renew := goodIn_r _ [70, 34, 35, 36, 71, 72, 73, 74, 99, 100, 101] (by decide +kernel) (by decide +kernel)
set_option maxRecDepth 20000 in
theorem gX6_side_X2_renew : GoodIn wsX6_side (wsV RX6 48 RX2 yX2_renew wsX2_renew) := goodIn_app (goodIn_of _ (by decide +kernel)) ggX6_side_X2_renew
set_option maxRecDepth 20000 in
theorem ggX6_side_X3_forgetResults : GoodIn wsX6_side wsX3_forgetResults := goodIn_r _ [78, 27, 25, 79, 26, 80, 81, 82, 83, 84, 44, 85, 46, 47, 48, 86, 87, 88, 89, 72, 73, 74, 94, 95, 96, 97, 98, 115, 116, 117] (by decide +kernel) (by decide +kernel)
set_option maxRecDepth 20000 in
theorem gX6_side_X3_forgetResults : GoodIn wsX6_side (wsV RX6 62 RX3 yX3_forgetResults wsX3_forgetResults) := goodIn_app (goodIn_of _ (by decide +kernel)) ggX6_side_X3_forgetResults
theorem dX6_side_0 : decode cX6_side 0 = .ok (.iload_n 1, 1) := by decide +kernel
theorem dX6_side_1 : decode cX6_side 1 = .ok (.iconst 1, 1) := by decide +kernel
theorem dX6_side_2 : decode cX6_side 2 = .ok (.if_icmp .lt 8, 3) := by decide +kernel
theorem dX6_side_5 : decode cX6_side 5 = .ok (.iload_n 1, 1) := by decide +kernel
theorem dX6_side_6 : decode cX6_side 6 = .ok (.iconst 4, 1) := by decide +kernel
theorem dX6_side_7 : decode cX6_side 7 = .ok (.if_icmp .le 6, 3) := by decide +kernel
theorem dX6_side_10 : decode cX6_side 10 = .ok (.ldc 33, 2) := by decide +kernel
theorem dX6_side_12 : decode cX6_side 12 = .ok (.ireturn, 1) := by decide +kernel
theorem dX6_side_13 : decode cX6_side 13 = .ok (.aload_n 0, 1) := by decide +kernel
theorem dX6_side_14 : decode cX6_side 14 = .ok (.getfield 22, 3) := by decide +kernel
theorem dX6_side_17 : decode cX6_side 17 = .ok (.aload_n 0, 1) := by decide +kernel
theorem dX6_side_18 : decode cX6_side 18 = .ok (.getfield 10, 3) := by decide +kernel
theorem dX6_side_21 : decode cX6_side 21 = .ok (.invokevirtual 34, 3) := by decide +kernel
theorem dX6_side_24 : decode cX6_side 24 = .ok (.aload_n 0, 1) := by decide +kernel
theorem dX6_side_25 : decode cX6_side 25 = .ok (.getfield 10, 3) := by decide +kernel
theorem dX6_side_28 : decode cX6_side 28 = .ok (.getfield 38, 3) := by decide +kernel
theorem dX6_side_31 : decode cX6_side 31 = .ok (.getfield 42, 3) := by decide +kernel
theorem dX6_side_34 : decode cX6_side 34 = .ok (.istore_n 2, 1) := by decide +kernel
theorem dX6_side_35 : decode cX6_side 35 = .ok (.aload_n 0, 1) := by decide +kernel
theorem dX6_side_36 : decode cX6_side 36 = .ok (.getfield 10, 3) := by decide +kernel
theorem dX6_side_39 : decode cX6_side 39 = .ok (.getfield 38, 3) := by decide +kernel
theorem dX6_side_42 : decode cX6_side 42 = .ok (.iload_n 1, 1) := by decide +kernel
theorem dX6_side_43 : decode cX6_side 43 = .ok (.invokevirtual 48, 3) := by decide +kernel
theorem dX6_side_46 : decode cX6_side 46 = .ok (.aload_n 0, 1) := by decide +kernel
theorem dX6_side_47 : decode cX6_side 47 = .ok (.getfield 10, 3) := by decide +kernel
theorem dX6_side_50 : decode cX6_side 50 = .ok (.getfield 52, 3) := by decide +kernel
theorem dX6_side_53 : decode cX6_side 53 = .ok (.iconst 0, 1) := by decide +kernel
theorem dX6_side_54 : decode cX6_side 54 = .ok (.putfield 56, 3) := by decide +kernel
theorem dX6_side_57 : decode cX6_side 57 = .ok (.aload_n 0, 1) := by decide +kernel
theorem dX6_side_58 : decode cX6_side 58 = .ok (.getfield 10, 3) := by decide +kernel
theorem dX6_side_61 : decode cX6_side 61 = .ok (.invokevirtual 62, 3) := by decide +kernel
theorem dX6_side_64 : decode cX6_side 64 = .ok (.iload_n 2, 1) := by decide +kernel
theorem dX6_side_65 : decode cX6_side 65 = .ok (.ireturn, 1) := by decide +kernel
set_option maxRecDepth 20000 in
theorem ggX6_shape_X6_isLength : GoodIn wsX6_shape wsX6_isLength := goodIn_r _ [11] (by decide +kernel) (by decide +kernel)
set_option maxRecDepth 20000 in
theorem gX6_shape_X6_isLength : GoodIn wsX6_shape (va_wsS RX6 65 yX6_isLength wsX6_isLength) := goodIn_app (goodIn_of _ (by decide +kernel)) ggX6_shape_X6_isLength
set_option maxRecDepth 20000 in
theorem ggX6_shape_X0_remember : GoodIn wsX6_shape wsX0_remember := goodIn_r _ [16, 17, 18, 19, 20, 21, 15, 22, 23, 24, 25, 26, 27, 28, 29, 30, 31, 32, 33, 34, 35, 36, 37, 38, 39, 40, 41, 42, 43, 44, 45, 46, 47, 48, 49, 50, 51, 52, 53, 54, 55, 56, 57, 58, 59, 60, 61, 62, 63, 64, 65, 66, 67, 68, 69, 70, 124, 125, 108, 109, 110, 111, 112, 126, 127, 128, 129, 130, 131, 113, 114, 115, 116, 117, 118, 119, 120, 121, 122, 123] (by decide +kernel) (by decide +kernel)
set_option maxRecDepth 20000 in
theorem gX6_shape_X0_remember : GoodIn wsX6_shape (wsV RX6 34 RX0 yX0_remember wsX0_remember) := goodIn_app (goodIn_of _ (by decide +kernel)) ggX6_shape_X0_remember
set_option maxRecDepth 20000 in
theorem ggX6_shape_X1_renew : GoodIn wsX6_shape wsX1_renew := goodIn_r _ [74, 50, 51, 52, 9, 10, 11, 75, 76, 77, 78, 129, 130, 131] (by decide +kernel) (by decide +kernel)
set_option maxRecDepth 20000 in
theorem gX6_shape_X1_renew : GoodIn wsX6_shape (wsV RX6 73 RX1 yX1_renew wsX1_renew) := goodIn_app (goodIn_of _ (by decide +kernel)) ggX6_shape_X1_renew
set_option maxRecDepth 20000 in
theorem ggX6_shape_X3_forgetResults : GoodIn wsX6_shape wsX3_forgetResults := goodIn_r _ [82, 31, 29, 83, 30, 84, 85, 86, 72, 73, 48, 74, 50, 51, 52, 9, 10, 11, 75, 76, 77, 78, 108, 109, 110, 111, 112, 129, 130, 131] (by decide +kernel) (by decide +kernel)
set_option maxRecDepth 20000 in
theorem gX6_shape_X3_forgetResults : GoodIn wsX6_shape (wsV RX6 62 RX3 yX3_forgetResults wsX3_forgetResults) := goodIn_app (goodIn_of _ (by decide +kernel)) ggX6_shape_X3_forgetResults
set_option maxRecDepth 20000 in
theorem ggX6_shape_X3_tiles : GoodIn wsX6_shape wsX3_tiles := goodIn_r _ [90, 91, 92, 93, 26, 94, 29, 83, 95, 96, 97, 98, 28, 99, 100, 101, 102, 103, 30, 84, 108, 109, 110, 111, 112, 129, 130, 131, 126, 127, 128] (by decide +kernel) (by decide +kernel)
set_option maxRecDepth 20000 in
theorem gX6_shape_X3_tiles : GoodIn wsX6_shape (wsV RX6 81 RX3 yX3_tiles wsX3_tiles) := goodIn_app (goodIn_of _ (by decide +kernel)) ggX6_shape_X3_tiles
theorem dX6_shape_0 : decode cX6_shape 0 = .ok (.iload_n 1, 1) := by decide +kernel
theorem dX6_shape_1 : decode cX6_shape 1 = .ok (.invokestatic 65, 3) := by decide +kernel
theorem dX6_shape_4 : decode cX6_shape 4 = .ok (.ifCond .eq 17, 3) := by decide +kernel
theorem dX6_shape_7 : decode cX6_shape 7 = .ok (.iload_n 2, 1) := by decide +kernel
theorem dX6_shape_8 : decode cX6_shape 8 = .ok (.invokestatic 65, 3) := by decide +kernel
theorem dX6_shape_11 : decode cX6_shape 11 = .ok (.ifCond .eq 10, 3) := by decide +kernel
theorem dX6_shape_14 : decode cX6_shape 14 = .ok (.iload_n 3, 1) := by decide +kernel
theorem dX6_shape_15 : decode cX6_shape 15 = .ok (.invokestatic 65, 3) := by decide +kernel
theorem dX6_shape_18 : decode cX6_shape 18 = .ok (.ifCond .ne 6, 3) := by decide +kernel
theorem dX6_shape_21 : decode cX6_shape 21 = .ok (.ldc 33, 2) := by decide +kernel
theorem dX6_shape_23 : decode cX6_shape 23 = .ok (.ireturn, 1) := by decide +kernel
theorem dX6_shape_24 : decode cX6_shape 24 = .ok (.aload_n 0, 1) := by decide +kernel
theorem dX6_shape_25 : decode cX6_shape 25 = .ok (.getfield 22, 3) := by decide +kernel
theorem dX6_shape_28 : decode cX6_shape 28 = .ok (.aload_n 0, 1) := by decide +kernel
theorem dX6_shape_29 : decode cX6_shape 29 = .ok (.getfield 10, 3) := by decide +kernel
theorem dX6_shape_32 : decode cX6_shape 32 = .ok (.invokevirtual 34, 3) := by decide +kernel
theorem dX6_shape_35 : decode cX6_shape 35 = .ok (.aload_n 0, 1) := by decide +kernel
theorem dX6_shape_36 : decode cX6_shape 36 = .ok (.getfield 10, 3) := by decide +kernel
theorem dX6_shape_39 : decode cX6_shape 39 = .ok (.getfield 69, 3) := by decide +kernel
theorem dX6_shape_42 : decode cX6_shape 42 = .ok (.iload_n 1, 1) := by decide +kernel
theorem dX6_shape_43 : decode cX6_shape 43 = .ok (.iload_n 2, 1) := by decide +kernel
theorem dX6_shape_44 : decode cX6_shape 44 = .ok (.iconst 0, 1) := by decide +kernel
theorem dX6_shape_45 : decode cX6_shape 45 = .ok (.invokevirtual 73, 3) := by decide +kernel
theorem dX6_shape_48 : decode cX6_shape 48 = .ok (.aload_n 0, 1) := by decide +kernel
theorem dX6_shape_49 : decode cX6_shape 49 = .ok (.getfield 10, 3) := by decide +kernel
theorem dX6_shape_52 : decode cX6_shape 52 = .ok (.getfield 78, 3) := by decide +kernel
theorem dX6_shape_55 : decode cX6_shape 55 = .ok (.iload_n 2, 1) := by decide +kernel
theorem dX6_shape_56 : decode cX6_shape 56 = .ok (.iload_n 3, 1) := by decide +kernel
theorem dX6_shape_57 : decode cX6_shape 57 = .ok (.iconst 0, 1) := by decide +kernel
theorem dX6_shape_58 : decode cX6_shape 58 = .ok (.invokevirtual 73, 3) := by decide +kernel
theorem dX6_shape_61 : decode cX6_shape 61 = .ok (.aload_n 0, 1) := by decide +kernel
theorem dX6_shape_62 : decode cX6_shape 62 = .ok (.getfield 10, 3) := by decide +kernel
theorem dX6_shape_65 : decode cX6_shape 65 = .ok (.getfield 52, 3) := by decide +kernel
theorem dX6_shape_68 : decode cX6_shape 68 = .ok (.iconst 0, 1) := by decide +kernel
theorem dX6_shape_69 : decode cX6_shape 69 = .ok (.putfield 56, 3) := by decide +kernel
theorem dX6_shape_72 : decode cX6_shape 72 = .ok (.aload_n 0, 1) := by decide +kernel
theorem dX6_shape_73 : decode cX6_shape 73 = .ok (.getfield 10, 3) := by decide +kernel
theorem dX6_shape_76 : decode cX6_shape 76 = .ok (.invokevirtual 62, 3) := by decide +kernel
theorem dX6_shape_79 : decode cX6_shape 79 = .ok (.aload_n 0, 1) := by decide +kernel
theorem dX6_shape_80 : decode cX6_shape 80 = .ok (.getfield 10, 3) := by decide +kernel
theorem dX6_shape_83 : decode cX6_shape 83 = .ok (.invokevirtual 81, 3) := by decide +kernel
theorem dX6_shape_86 : decode cX6_shape 86 = .ok (.ireturn, 1) := by decide +kernel
set_option maxRecDepth 20000 in
theorem ggX6_left_X6_setEntry : GoodIn wsX6_left wsX6_setEntry := goodIn_r _ [7, 8, 1, 9, 10, 11, 12, 13, 14, 15, 16, 17, 18, 19, 20, 21, 22, 23, 24, 25, 26, 27, 28, 29, 30, 31, 32, 33, 34, 35, 36, 37, 38, 39, 40, 41, 42, 43, 44, 45, 46, 47, 48, 49, 50, 51, 52, 53, 54, 55, 56, 57, 58, 59, 60, 61, 62, 63, 64, 65, 66, 67, 68, 69, 70, 71, 72, 73, 74, 75, 76, 77, 78, 79, 80, 81, 82, 83, 84, 85, 86, 87, 88, 89, 90, 91, 92, 93, 94, 95, 96, 6, 97, 98, 99, 100, 101, 102, 103, 104, 105, 106, 107, 108, 109, 110, 111, 112, 113, 114, 115, 116, 117, 118, 119, 120, 121, 122, 123, 124, 125, 126, 127, 128, 129] (by decide +kernel) (by decide +kernel)
set_option maxRecDepth 20000 in
theorem gX6_left_X6_setEntry : GoodIn wsX6_left (wsV RX6 85 RX6 yX6_setEntry wsX6_setEntry) := goodIn_app (goodIn_of _ (by decide +kernel)) ggX6_left_X6_setEntry
theorem dX6_left_0 : decode cX6_left 0 = .ok (.aload_n 0, 1) := by decide +kernel
theorem dX6_left_1 : decode cX6_left 1 = .ok (.aload_n 0, 1) := by decide +kernel
theorem dX6_left_2 : decode cX6_left 2 = .ok (.getfield 10, 3) := by decide +kernel
theorem dX6_left_5 : decode cX6_left 5 = .ok (.getfield 69, 3) := by decide +kernel
theorem dX6_left_8 : decode cX6_left 8 = .ok (.iload_n 1, 1) := by decide +kernel
theorem dX6_left_9 : decode cX6_left 9 = .ok (.iload_n 2, 1) := by decide +kernel
theorem dX6_left_10 : decode cX6_left 10 = .ok (.iload_n 3, 1) := by decide +kernel
theorem dX6_left_11 : decode cX6_left 11 = .ok (.invokevirtual 85, 3) := by decide +kernel
theorem dX6_left_14 : decode cX6_left 14 = .ok (.ireturn, 1) := by decide +kernel
set_option maxRecDepth 20000 in
theorem ggX6_right_X6_setEntry : GoodIn wsX6_right wsX6_setEntry := goodIn_r _ [7, 8, 1, 9, 10, 11, 12, 13, 14, 15, 16, 17, 18, 19, 20, 21, 22, 23, 24, 25, 26, 27, 28, 29, 30, 31, 32, 33, 34, 35, 36, 37, 38, 39, 40, 41, 42, 43, 44, 45, 46, 47, 48, 49, 50, 51, 52, 53, 54, 55, 56, 57, 58, 59, 60, 61, 62, 63, 64, 65, 66, 67, 68, 69, 70, 71, 72, 73, 74, 75, 76, 77, 78, 79, 80, 81, 82, 83, 84, 85, 86, 87, 88, 89, 90, 91, 92, 93, 94, 95, 96, 6, 97, 98, 99, 100, 101, 102, 103, 104, 105, 106, 107, 108, 109, 110, 111, 112, 113, 114, 115, 116, 117, 118, 119, 120, 121, 122, 123, 124, 125, 126, 127, 128, 129] (by decide +kernel) (by decide +kernel)
set_option maxRecDepth 20000 in
theorem gX6_right_X6_setEntry : GoodIn wsX6_right (wsV RX6 85 RX6 yX6_setEntry wsX6_setEntry) := goodIn_app (goodIn_of _ (by decide +kernel)) ggX6_right_X6_setEntry
theorem dX6_right_0 : decode cX6_right 0 = .ok (.aload_n 0, 1) := by decide +kernel
theorem dX6_right_1 : decode cX6_right 1 = .ok (.aload_n 0, 1) := by decide +kernel
theorem dX6_right_2 : decode cX6_right 2 = .ok (.getfield 10, 3) := by decide +kernel
theorem dX6_right_5 : decode cX6_right 5 = .ok (.getfield 78, 3) := by decide +kernel
theorem dX6_right_8 : decode cX6_right 8 = .ok (.iload_n 1, 1) := by decide +kernel
theorem dX6_right_9 : decode cX6_right 9 = .ok (.iload_n 2, 1) := by decide +kernel
theorem dX6_right_10 : decode cX6_right 10 = .ok (.iload_n 3, 1) := by decide +kernel
theorem dX6_right_11 : decode cX6_right 11 = .ok (.invokevirtual 85, 3) := by decide +kernel
theorem dX6_right_14 : decode cX6_right 14 = .ok (.ireturn, 1) := by decide +kernel
set_option maxRecDepth 20000 in
theorem ggX6_fault_X2_has : GoodIn wsX6_fault wsX2_has := goodIn_r _ [12, 13, 100, 101, 102] (by decide +kernel) (by decide +kernel)
set_option maxRecDepth 20000 in
theorem gX6_fault_X2_has : GoodIn wsX6_fault (wsV RX6 89 RX2 yX2_has wsX2_has) := goodIn_app (goodIn_of _ (by decide +kernel)) ggX6_fault_X2_has
set_option maxRecDepth 20000 in
theorem ggX6_fault_X0_remember : GoodIn wsX6_fault wsX0_remember := goodIn_r _ [18, 19, 20, 21, 22, 23, 17, 24, 25, 26, 27, 28, 29, 30, 31, 32, 33, 34, 35, 36, 37, 11, 38, 13, 39, 40, 41, 42, 43, 44, 45, 46, 47, 48, 49, 50, 51, 52, 53, 54, 55, 56, 57, 58, 59, 60, 61, 62, 63, 64, 65, 66, 67, 68, 69, 70, 103, 104, 84, 85, 86, 87, 88, 100, 101, 102, 105, 106, 107, 89, 90, 91, 92, 93, 94, 95, 96, 97, 98, 99] (by decide +kernel) (by decide +kernel)
set_option maxRecDepth 20000 in
theorem gX6_fault_X0_remember : GoodIn wsX6_fault (wsV RX6 34 RX0 yX0_remember wsX0_remember) := goodIn_app (goodIn_of _ (by decide +kernel)) ggX6_fault_X0_remember
set_option maxRecDepth 20000 in
theorem ggX6_fault_X2_kindAt : GoodIn wsX6_fault wsX2_kindAt := goodIn_r _ [74, 40, 75, 9, 10, 11, 12, 13, 100, 101, 102] (by decide +kernel) (by decide +kernel)
set_option maxRecDepth 20000 in
theorem gX6_fault_X2_kindAt : GoodIn wsX6_fault (wsV RX6 94 RX2 yX2_kindAt wsX2_kindAt) := goodIn_app (goodIn_of _ (by decide +kernel)) ggX6_fault_X2_kindAt
set_option maxRecDepth 20000 in
theorem ggX6_fault_X2_setKind : GoodIn wsX6_fault wsX2_setKind := goodIn_r _ [79, 40, 75, 9, 10, 11, 12, 13, 100, 101, 102] (by decide +kernel) (by decide +kernel)
set_option maxRecDepth 20000 in
theorem gX6_fault_X2_setKind : GoodIn wsX6_fault (wsV RX6 98 RX2 yX2_setKind wsX2_setKind) := goodIn_app (goodIn_of _ (by decide +kernel)) ggX6_fault_X2_setKind
theorem dX6_fault_0 : decode cX6_fault 0 = .ok (.aload_n 0, 1) := by decide +kernel
theorem dX6_fault_1 : decode cX6_fault 1 = .ok (.getfield 10, 3) := by decide +kernel
theorem dX6_fault_4 : decode cX6_fault 4 = .ok (.getfield 38, 3) := by decide +kernel
theorem dX6_fault_7 : decode cX6_fault 7 = .ok (.iload_n 1, 1) := by decide +kernel
theorem dX6_fault_8 : decode cX6_fault 8 = .ok (.iload_n 2, 1) := by decide +kernel
theorem dX6_fault_9 : decode cX6_fault 9 = .ok (.invokevirtual 89, 3) := by decide +kernel
theorem dX6_fault_12 : decode cX6_fault 12 = .ok (.ifCond .eq 12, 3) := by decide +kernel
theorem dX6_fault_15 : decode cX6_fault 15 = .ok (.iload_n 3, 1) := by decide +kernel
theorem dX6_fault_16 : decode cX6_fault 16 = .ok (.ifCond .lt 8, 3) := by decide +kernel
theorem dX6_fault_19 : decode cX6_fault 19 = .ok (.iload_n 3, 1) := by decide +kernel
theorem dX6_fault_20 : decode cX6_fault 20 = .ok (.iconst 4, 1) := by decide +kernel
theorem dX6_fault_21 : decode cX6_fault 21 = .ok (.if_icmp .le 6, 3) := by decide +kernel
theorem dX6_fault_24 : decode cX6_fault 24 = .ok (.ldc 33, 2) := by decide +kernel
theorem dX6_fault_26 : decode cX6_fault 26 = .ok (.ireturn, 1) := by decide +kernel
theorem dX6_fault_27 : decode cX6_fault 27 = .ok (.aload_n 0, 1) := by decide +kernel
theorem dX6_fault_28 : decode cX6_fault 28 = .ok (.getfield 10, 3) := by decide +kernel
theorem dX6_fault_31 : decode cX6_fault 31 = .ok (.getfield 52, 3) := by decide +kernel
theorem dX6_fault_34 : decode cX6_fault 34 = .ok (.getfield 56, 3) := by decide +kernel
theorem dX6_fault_37 : decode cX6_fault 37 = .ok (.ifCond .eq 6, 3) := by decide +kernel
theorem dX6_fault_40 : decode cX6_fault 40 = .ok (.ldc 93, 2) := by decide +kernel
theorem dX6_fault_42 : decode cX6_fault 42 = .ok (.ireturn, 1) := by decide +kernel
theorem dX6_fault_43 : decode cX6_fault 43 = .ok (.aload_n 0, 1) := by decide +kernel
theorem dX6_fault_44 : decode cX6_fault 44 = .ok (.getfield 22, 3) := by decide +kernel
theorem dX6_fault_47 : decode cX6_fault 47 = .ok (.aload_n 0, 1) := by decide +kernel
theorem dX6_fault_48 : decode cX6_fault 48 = .ok (.getfield 10, 3) := by decide +kernel
theorem dX6_fault_51 : decode cX6_fault 51 = .ok (.invokevirtual 34, 3) := by decide +kernel
theorem dX6_fault_54 : decode cX6_fault 54 = .ok (.aload_n 0, 1) := by decide +kernel
theorem dX6_fault_55 : decode cX6_fault 55 = .ok (.getfield 10, 3) := by decide +kernel
theorem dX6_fault_58 : decode cX6_fault 58 = .ok (.getfield 38, 3) := by decide +kernel
theorem dX6_fault_61 : decode cX6_fault 61 = .ok (.iload_n 1, 1) := by decide +kernel
theorem dX6_fault_62 : decode cX6_fault 62 = .ok (.iload_n 2, 1) := by decide +kernel
theorem dX6_fault_63 : decode cX6_fault 63 = .ok (.invokevirtual 94, 3) := by decide +kernel
theorem dX6_fault_66 : decode cX6_fault 66 = .ok (.istore 4, 2) := by decide +kernel
theorem dX6_fault_68 : decode cX6_fault 68 = .ok (.aload_n 0, 1) := by decide +kernel
theorem dX6_fault_69 : decode cX6_fault 69 = .ok (.getfield 10, 3) := by decide +kernel
theorem dX6_fault_72 : decode cX6_fault 72 = .ok (.getfield 38, 3) := by decide +kernel
theorem dX6_fault_75 : decode cX6_fault 75 = .ok (.iload_n 1, 1) := by decide +kernel
theorem dX6_fault_76 : decode cX6_fault 76 = .ok (.iload_n 2, 1) := by decide +kernel
theorem dX6_fault_77 : decode cX6_fault 77 = .ok (.iload_n 3, 1) := by decide +kernel
theorem dX6_fault_78 : decode cX6_fault 78 = .ok (.invokevirtual 98, 3) := by decide +kernel
theorem dX6_fault_81 : decode cX6_fault 81 = .ok (.iload 4, 2) := by decide +kernel
theorem dX6_fault_83 : decode cX6_fault 83 = .ok (.ireturn, 1) := by decide +kernel
set_option maxRecDepth 20000 in
theorem ggX6_leave_X0_remember : GoodIn wsX6_leave wsX0_remember := goodIn_r _ [14, 15, 16, 17, 18, 19, 13, 20, 21, 22, 23, 24, 25, 26, 27, 28, 29, 30, 31, 32, 33, 34, 35, 36, 37, 38, 39, 40, 41, 42, 43, 44, 45, 46, 47, 48, 49, 50, 51, 52, 53, 54, 55, 56, 57, 58, 59, 60, 61, 62, 63, 64, 65, 66, 67, 68, 92, 93, 73, 74, 75, 76, 77, 78, 79, 80, 94, 95, 96, 81, 82, 83, 84, 85, 86, 87, 88, 89, 90, 91] (by decide +kernel) (by decide +kernel)
set_option maxRecDepth 20000 in
theorem gX6_leave_X0_remember : GoodIn wsX6_leave (wsV RX6 34 RX0 yX0_remember wsX0_remember) := goodIn_app (goodIn_of _ (by decide +kernel)) ggX6_leave_X0_remember
theorem dX6_leave_0 : decode cX6_leave 0 = .ok (.iload_n 1, 1) := by decide +kernel
theorem dX6_leave_1 : decode cX6_leave 1 = .ok (.ifCond .lt 17, 3) := by decide +kernel
theorem dX6_leave_4 : decode cX6_leave 4 = .ok (.iload_n 1, 1) := by decide +kernel
theorem dX6_leave_5 : decode cX6_leave 5 = .ok (.aload_n 0, 1) := by decide +kernel
theorem dX6_leave_6 : decode cX6_leave 6 = .ok (.getfield 10, 3) := by decide +kernel
theorem dX6_leave_9 : decode cX6_leave 9 = .ok (.getfield 38, 3) := by decide +kernel
theorem dX6_leave_12 : decode cX6_leave 12 = .ok (.getfield 42, 3) := by decide +kernel
theorem dX6_leave_15 : decode cX6_leave 15 = .ok (.if_icmp .le 6, 3) := by decide +kernel
theorem dX6_leave_18 : decode cX6_leave 18 = .ok (.ldc 33, 2) := by decide +kernel
theorem dX6_leave_20 : decode cX6_leave 20 = .ok (.ireturn, 1) := by decide +kernel
theorem dX6_leave_21 : decode cX6_leave 21 = .ok (.aload_n 0, 1) := by decide +kernel
theorem dX6_leave_22 : decode cX6_leave 22 = .ok (.getfield 10, 3) := by decide +kernel
theorem dX6_leave_25 : decode cX6_leave 25 = .ok (.getfield 52, 3) := by decide +kernel
theorem dX6_leave_28 : decode cX6_leave 28 = .ok (.getfield 56, 3) := by decide +kernel
theorem dX6_leave_31 : decode cX6_leave 31 = .ok (.ifCond .eq 6, 3) := by decide +kernel
theorem dX6_leave_34 : decode cX6_leave 34 = .ok (.ldc 93, 2) := by decide +kernel
theorem dX6_leave_36 : decode cX6_leave 36 = .ok (.ireturn, 1) := by decide +kernel
theorem dX6_leave_37 : decode cX6_leave 37 = .ok (.aload_n 0, 1) := by decide +kernel
theorem dX6_leave_38 : decode cX6_leave 38 = .ok (.getfield 22, 3) := by decide +kernel
theorem dX6_leave_41 : decode cX6_leave 41 = .ok (.aload_n 0, 1) := by decide +kernel
theorem dX6_leave_42 : decode cX6_leave 42 = .ok (.getfield 10, 3) := by decide +kernel
theorem dX6_leave_45 : decode cX6_leave 45 = .ok (.invokevirtual 34, 3) := by decide +kernel
theorem dX6_leave_48 : decode cX6_leave 48 = .ok (.aload_n 0, 1) := by decide +kernel
theorem dX6_leave_49 : decode cX6_leave 49 = .ok (.getfield 10, 3) := by decide +kernel
theorem dX6_leave_52 : decode cX6_leave 52 = .ok (.getfield 38, 3) := by decide +kernel
theorem dX6_leave_55 : decode cX6_leave 55 = .ok (.getfield 101, 3) := by decide +kernel
theorem dX6_leave_58 : decode cX6_leave 58 = .ok (.istore_n 2, 1) := by decide +kernel
theorem dX6_leave_59 : decode cX6_leave 59 = .ok (.aload_n 0, 1) := by decide +kernel
theorem dX6_leave_60 : decode cX6_leave 60 = .ok (.getfield 10, 3) := by decide +kernel
theorem dX6_leave_63 : decode cX6_leave 63 = .ok (.getfield 38, 3) := by decide +kernel
theorem dX6_leave_66 : decode cX6_leave 66 = .ok (.iload_n 1, 1) := by decide +kernel
theorem dX6_leave_67 : decode cX6_leave 67 = .ok (.putfield 101, 3) := by decide +kernel
theorem dX6_leave_70 : decode cX6_leave 70 = .ok (.iload_n 2, 1) := by decide +kernel
theorem dX6_leave_71 : decode cX6_leave 71 = .ok (.ireturn, 1) := by decide +kernel
set_option maxRecDepth 20000 in
theorem ggX6_begin_X3_tilesDown : GoodIn wsX6_begin wsX3_tilesDown := goodIn_r _ [11, 12, 13, 14, 15, 16, 10, 17, 18, 19, 112, 113, 114, 115, 116, 128, 129, 130, 131, 132, 133] (by decide +kernel) (by decide +kernel)
set_option maxRecDepth 20000 in
theorem gX6_begin_X3_tilesDown : GoodIn wsX6_begin (wsV RX6 104 RX3 yX3_tilesDown wsX3_tilesDown) := goodIn_app (goodIn_of _ (by decide +kernel)) ggX6_begin_X3_tilesDown
set_option maxRecDepth 20000 in
theorem ggX6_begin_X3_tilesAcross : GoodIn wsX6_begin wsX3_tilesAcross := goodIn_r _ [23, 24, 25, 14, 15, 16, 10, 17, 18, 19, 112, 113, 114, 115, 116, 128, 129, 130, 131, 132, 133] (by decide +kernel) (by decide +kernel)
set_option maxRecDepth 20000 in
theorem gX6_begin_X3_tilesAcross : GoodIn wsX6_begin (wsV RX6 107 RX3 yX3_tilesAcross wsX3_tilesAcross) := goodIn_app (goodIn_of _ (by decide +kernel)) ggX6_begin_X3_tilesAcross
set_option maxRecDepth 20000 in
theorem ggX6_begin_X0_remember : GoodIn wsX6_begin wsX0_remember := goodIn_r _ [30, 31, 32, 33, 34, 35, 29, 36, 37, 38, 39, 10, 40, 18, 12, 24, 41, 42, 43, 44, 45, 46, 47, 48, 49, 50, 51, 52, 53, 54, 55, 56, 57, 58, 59, 60, 61, 62, 63, 64, 65, 66, 67, 68, 69, 70, 71, 72, 73, 74, 75, 76, 77, 78, 79, 80, 134, 135, 112, 113, 114, 115, 116, 131, 132, 133, 128, 129, 130, 117, 118, 119, 120, 121, 122, 123, 124, 125, 126, 127] (by decide +kernel) (by decide +kernel)
set_option maxRecDepth 20000 in
theorem gX6_begin_X0_remember : GoodIn wsX6_begin (wsV RX6 34 RX0 yX0_remember wsX0_remember) := goodIn_app (goodIn_of _ (by decide +kernel)) ggX6_begin_X0_remember
set_option maxRecDepth 20000 in
theorem ggX6_begin_X3_beginTile : GoodIn wsX6_begin wsX3_beginTile := goodIn_r _ [84, 42, 85, 86, 87, 18, 19, 12, 13, 88, 89, 90, 91, 92, 24, 25, 93, 94, 95, 96, 97, 67, 98, 76, 78, 79, 99, 80, 74, 100, 101, 102, 103, 112, 113, 114, 115, 116, 117, 118, 119, 120, 121, 122, 123, 124, 125, 126, 127, 131, 132, 133, 128, 129, 130] (by decide +kernel) (by decide +kernel)
set_option maxRecDepth 20000 in
theorem gX6_begin_X3_beginTile : GoodIn wsX6_begin (wsV RX6 110 RX3 yX3_beginTile wsX3_beginTile) := goodIn_app (goodIn_of _ (by decide +kernel)) ggX6_begin_X3_beginTile
set_option maxRecDepth 20000 in
theorem ggX6_begin_X5_ticksLeft : GoodIn wsX6_begin wsX5_ticksLeft := goodIn_r _ [107, 75, 74, 117, 118, 119, 120, 121, 122, 123, 124, 125, 126, 127] (by decide +kernel) (by decide +kernel)
set_option maxRecDepth 20000 in
theorem gX6_begin_X5_ticksLeft : GoodIn wsX6_begin (wsV RX6 114 RX5 yX5_ticksLeft wsX5_ticksLeft) := goodIn_app (goodIn_of _ (by decide +kernel)) ggX6_begin_X5_ticksLeft
theorem dX6_begin_0 : decode cX6_begin 0 = .ok (.iload_n 1, 1) := by decide +kernel
theorem dX6_begin_1 : decode cX6_begin 1 = .ok (.ifCond .lt 29, 3) := by decide +kernel
theorem dX6_begin_4 : decode cX6_begin 4 = .ok (.iload_n 1, 1) := by decide +kernel
theorem dX6_begin_5 : decode cX6_begin 5 = .ok (.aload_n 0, 1) := by decide +kernel
theorem dX6_begin_6 : decode cX6_begin 6 = .ok (.getfield 10, 3) := by decide +kernel
theorem dX6_begin_9 : decode cX6_begin 9 = .ok (.invokevirtual 104, 3) := by decide +kernel
theorem dX6_begin_12 : decode cX6_begin 12 = .ok (.if_icmp .ge 18, 3) := by decide +kernel
theorem dX6_begin_15 : decode cX6_begin 15 = .ok (.iload_n 2, 1) := by decide +kernel
theorem dX6_begin_16 : decode cX6_begin 16 = .ok (.ifCond .lt 14, 3) := by decide +kernel
theorem dX6_begin_19 : decode cX6_begin 19 = .ok (.iload_n 2, 1) := by decide +kernel
theorem dX6_begin_20 : decode cX6_begin 20 = .ok (.aload_n 0, 1) := by decide +kernel
theorem dX6_begin_21 : decode cX6_begin 21 = .ok (.getfield 10, 3) := by decide +kernel
theorem dX6_begin_24 : decode cX6_begin 24 = .ok (.invokevirtual 107, 3) := by decide +kernel
theorem dX6_begin_27 : decode cX6_begin 27 = .ok (.if_icmp .lt 6, 3) := by decide +kernel
theorem dX6_begin_30 : decode cX6_begin 30 = .ok (.ldc 33, 2) := by decide +kernel
theorem dX6_begin_32 : decode cX6_begin 32 = .ok (.ireturn, 1) := by decide +kernel
theorem dX6_begin_33 : decode cX6_begin 33 = .ok (.aload_n 0, 1) := by decide +kernel
theorem dX6_begin_34 : decode cX6_begin 34 = .ok (.getfield 10, 3) := by decide +kernel
theorem dX6_begin_37 : decode cX6_begin 37 = .ok (.getfield 52, 3) := by decide +kernel
theorem dX6_begin_40 : decode cX6_begin 40 = .ok (.getfield 56, 3) := by decide +kernel
theorem dX6_begin_43 : decode cX6_begin 43 = .ok (.ifCond .eq 6, 3) := by decide +kernel
theorem dX6_begin_46 : decode cX6_begin 46 = .ok (.ldc 93, 2) := by decide +kernel
theorem dX6_begin_48 : decode cX6_begin 48 = .ok (.ireturn, 1) := by decide +kernel
theorem dX6_begin_49 : decode cX6_begin 49 = .ok (.aload_n 0, 1) := by decide +kernel
theorem dX6_begin_50 : decode cX6_begin 50 = .ok (.getfield 22, 3) := by decide +kernel
theorem dX6_begin_53 : decode cX6_begin 53 = .ok (.aload_n 0, 1) := by decide +kernel
theorem dX6_begin_54 : decode cX6_begin 54 = .ok (.getfield 10, 3) := by decide +kernel
theorem dX6_begin_57 : decode cX6_begin 57 = .ok (.invokevirtual 34, 3) := by decide +kernel
theorem dX6_begin_60 : decode cX6_begin 60 = .ok (.aload_n 0, 1) := by decide +kernel
theorem dX6_begin_61 : decode cX6_begin 61 = .ok (.getfield 10, 3) := by decide +kernel
theorem dX6_begin_64 : decode cX6_begin 64 = .ok (.iload_n 1, 1) := by decide +kernel
theorem dX6_begin_65 : decode cX6_begin 65 = .ok (.iload_n 2, 1) := by decide +kernel
theorem dX6_begin_66 : decode cX6_begin 66 = .ok (.invokevirtual 110, 3) := by decide +kernel
theorem dX6_begin_69 : decode cX6_begin 69 = .ok (.aload_n 0, 1) := by decide +kernel
theorem dX6_begin_70 : decode cX6_begin 70 = .ok (.getfield 10, 3) := by decide +kernel
theorem dX6_begin_73 : decode cX6_begin 73 = .ok (.getfield 52, 3) := by decide +kernel
theorem dX6_begin_76 : decode cX6_begin 76 = .ok (.invokevirtual 114, 3) := by decide +kernel
theorem dX6_begin_79 : decode cX6_begin 79 = .ok (.ireturn, 1) := by decide +kernel
set_option maxRecDepth 20000 in
theorem ggX6_tick_X5_ticksLeft : GoodIn wsX6_tick wsX5_ticksLeft := goodIn_r _ [11, 12, 13, 152, 153, 154, 155, 156, 157, 158, 159, 160, 161, 162] (by decide +kernel) (by decide +kernel)
set_option maxRecDepth 20000 in
theorem gX6_tick_X5_ticksLeft : GoodIn wsX6_tick (wsV RX6 114 RX5 yX5_ticksLeft wsX5_ticksLeft) := goodIn_app (goodIn_of _ (by decide +kernel)) ggX6_tick_X5_ticksLeft
set_option maxRecDepth 20000 in
theorem ggX6_tick_X0_remember : GoodIn wsX6_tick wsX0_remember := goodIn_r _ [18, 19, 20, 21, 22, 23, 17, 24, 25, 26, 27, 28, 29, 30, 31, 32, 33, 34, 35, 36, 37, 38, 39, 40, 41, 42, 43, 44, 45, 46, 47, 48, 49, 50, 51, 52, 53, 54, 55, 56, 57, 58, 10, 59, 60, 61, 62, 63, 64, 13, 12, 65, 66, 67, 68, 69, 163, 164, 147, 148, 149, 150, 151, 165, 166, 167, 168, 169, 170, 152, 153, 154, 155, 156, 157, 158, 159, 160, 161, 162] (by decide +kernel) (by decide +kernel)
set_option maxRecDepth 20000 in
theorem gX6_tick_X0_remember : GoodIn wsX6_tick (wsV RX6 34 RX0 yX0_remember wsX0_remember) := goodIn_app (goodIn_of _ (by decide +kernel)) ggX6_tick_X0_remember
set_option maxRecDepth 20000 in
theorem ggX6_tick_X3_goOn : GoodIn wsX6_tick wsX3_goOn := goodIn_r _ [73, 34, 74, 75, 76, 77, 78, 8, 9, 10, 11, 12, 13, 79, 80, 81, 28, 82, 83, 84, 30, 85, 86, 87, 88, 38, 89, 41, 90, 91, 92, 93, 42, 94, 95, 96, 97, 40, 98, 99, 100, 101, 102, 103, 104, 105, 106, 31, 107, 108, 109, 110, 111, 68, 112, 113, 114, 115, 116, 117, 118, 50, 119, 52, 53, 120, 121, 122, 123, 54, 124, 125, 126, 127, 128, 32, 129, 130, 131, 132, 69, 133, 134, 135, 136, 67, 65, 137, 138, 139, 140, 141, 142, 147, 148, 149, 150, 151, 152, 153, 154, 155, 156, 157, 158, 159, 160, 161, 162, 165, 166, 167, 168, 169, 170] (by decide +kernel) (by decide +kernel)
set_option maxRecDepth 20000 in
theorem gX6_tick_X3_goOn : GoodIn wsX6_tick (wsV RX6 117 RX3 yX3_goOn wsX3_goOn) := goodIn_app (goodIn_of _ (by decide +kernel)) ggX6_tick_X3_goOn
theorem dX6_tick_0 : decode cX6_tick 0 = .ok (.iload_n 1, 1) := by decide +kernel
theorem dX6_tick_1 : decode cX6_tick 1 = .ok (.iconst 1, 1) := by decide +kernel
theorem dX6_tick_2 : decode cX6_tick 2 = .ok (.if_icmp .lt 9, 3) := by decide +kernel
theorem dX6_tick_5 : decode cX6_tick 5 = .ok (.iload_n 1, 1) := by decide +kernel
theorem dX6_tick_6 : decode cX6_tick 6 = .ok (.bipush 20, 2) := by decide +kernel
theorem dX6_tick_8 : decode cX6_tick 8 = .ok (.if_icmp .le 6, 3) := by decide +kernel
theorem dX6_tick_11 : decode cX6_tick 11 = .ok (.ldc 33, 2) := by decide +kernel
theorem dX6_tick_13 : decode cX6_tick 13 = .ok (.ireturn, 1) := by decide +kernel
theorem dX6_tick_14 : decode cX6_tick 14 = .ok (.aload_n 0, 1) := by decide +kernel
theorem dX6_tick_15 : decode cX6_tick 15 = .ok (.getfield 10, 3) := by decide +kernel
theorem dX6_tick_18 : decode cX6_tick 18 = .ok (.getfield 52, 3) := by decide +kernel
theorem dX6_tick_21 : decode cX6_tick 21 = .ok (.getfield 56, 3) := by decide +kernel
theorem dX6_tick_24 : decode cX6_tick 24 = .ok (.ifCond .eq 16, 3) := by decide +kernel
theorem dX6_tick_27 : decode cX6_tick 27 = .ok (.aload_n 0, 1) := by decide +kernel
theorem dX6_tick_28 : decode cX6_tick 28 = .ok (.getfield 10, 3) := by decide +kernel
theorem dX6_tick_31 : decode cX6_tick 31 = .ok (.getfield 52, 3) := by decide +kernel
theorem dX6_tick_34 : decode cX6_tick 34 = .ok (.invokevirtual 114, 3) := by decide +kernel
theorem dX6_tick_37 : decode cX6_tick 37 = .ok (.ifCond .ne 6, 3) := by decide +kernel
theorem dX6_tick_40 : decode cX6_tick 40 = .ok (.ldc 93, 2) := by decide +kernel
theorem dX6_tick_42 : decode cX6_tick 42 = .ok (.ireturn, 1) := by decide +kernel
theorem dX6_tick_43 : decode cX6_tick 43 = .ok (.aload_n 0, 1) := by decide +kernel
theorem dX6_tick_44 : decode cX6_tick 44 = .ok (.getfield 22, 3) := by decide +kernel
theorem dX6_tick_47 : decode cX6_tick 47 = .ok (.aload_n 0, 1) := by decide +kernel
theorem dX6_tick_48 : decode cX6_tick 48 = .ok (.getfield 10, 3) := by decide +kernel
theorem dX6_tick_51 : decode cX6_tick 51 = .ok (.invokevirtual 34, 3) := by decide +kernel
theorem dX6_tick_54 : decode cX6_tick 54 = .ok (.aload_n 0, 1) := by decide +kernel
theorem dX6_tick_55 : decode cX6_tick 55 = .ok (.getfield 10, 3) := by decide +kernel
theorem dX6_tick_58 : decode cX6_tick 58 = .ok (.iload_n 1, 1) := by decide +kernel
theorem dX6_tick_59 : decode cX6_tick 59 = .ok (.invokevirtual 117, 3) := by decide +kernel
theorem dX6_tick_62 : decode cX6_tick 62 = .ok (.aload_n 0, 1) := by decide +kernel
theorem dX6_tick_63 : decode cX6_tick 63 = .ok (.getfield 10, 3) := by decide +kernel
theorem dX6_tick_66 : decode cX6_tick 66 = .ok (.getfield 52, 3) := by decide +kernel
theorem dX6_tick_69 : decode cX6_tick 69 = .ok (.invokevirtual 114, 3) := by decide +kernel
theorem dX6_tick_72 : decode cX6_tick 72 = .ok (.ireturn, 1) := by decide +kernel
set_option maxRecDepth 20000 in
theorem ggX6_drain_X5_ticksLeft : GoodIn wsX6_drain wsX5_ticksLeft := goodIn_r _ [10, 11, 12, 117, 118, 119, 120, 121, 122, 123, 124, 125, 126, 127] (by decide +kernel) (by decide +kernel)
set_option maxRecDepth 20000 in
theorem gX6_drain_X5_ticksLeft : GoodIn wsX6_drain (wsV RX6 114 RX5 yX5_ticksLeft wsX5_ticksLeft) := goodIn_app (goodIn_of _ (by decide +kernel)) ggX6_drain_X5_ticksLeft
set_option maxRecDepth 20000 in
theorem ggX6_drain_X0_remember : GoodIn wsX6_drain wsX0_remember := goodIn_r _ [17, 18, 19, 20, 21, 22, 16, 23, 24, 25, 26, 27, 28, 29, 30, 31, 32, 33, 34, 35, 36, 37, 38, 39, 40, 41, 42, 43, 44, 45, 46, 47, 48, 49, 50, 51, 52, 53, 54, 55, 56, 57, 9, 58, 59, 60, 61, 62, 63, 12, 11, 64, 65, 66, 67, 68, 128, 129, 112, 113, 114, 115, 116, 130, 131, 132, 133, 134, 135, 117, 118, 119, 120, 121, 122, 123, 124, 125, 126, 127] (by decide +kernel) (by decide +kernel)
set_option maxRecDepth 20000 in
theorem gX6_drain_X0_remember : GoodIn wsX6_drain (wsV RX6 34 RX0 yX0_remember wsX0_remember) := goodIn_app (goodIn_of _ (by decide +kernel)) ggX6_drain_X0_remember
set_option maxRecDepth 20000 in
theorem ggX6_drain_X3_drainTile : GoodIn wsX6_drain wsX3_drainTile := goodIn_r _ [72, 33, 73, 29, 74, 75, 76, 77, 32, 78, 79, 80, 9, 81, 82, 83, 84, 85, 64, 86, 87, 88, 89, 90, 91, 49, 92, 53, 93, 94, 95, 96, 51, 52, 112, 113, 114, 115, 116, 117, 118, 119, 120, 121, 122, 123, 124, 125, 126, 127, 130, 131, 132, 133, 134, 135] (by decide +kernel) (by decide +kernel)
set_option maxRecDepth 20000 in
theorem gX6_drain_X3_drainTile : GoodIn wsX6_drain (wsV RX6 120 RX3 yX3_drainTile wsX3_drainTile) := goodIn_app (goodIn_of _ (by decide +kernel)) ggX6_drain_X3_drainTile
set_option maxRecDepth 20000 in
theorem ggX6_drain_X3_knownEntries : GoodIn wsX6_drain wsX3_knownEntries := goodIn_r _ [100, 32, 101, 102, 103, 104, 105, 106, 49, 107, 51, 52, 53, 112, 113, 114, 115, 116, 133, 134, 135] (by decide +kernel) (by decide +kernel)
set_option maxRecDepth 20000 in
theorem gX6_drain_X3_knownEntries : GoodIn wsX6_drain (wsV RX6 123 RX3 yX3_knownEntries wsX3_knownEntries) := goodIn_app (goodIn_of _ (by decide +kernel)) ggX6_drain_X3_knownEntries
theorem dX6_drain_0 : decode cX6_drain 0 = .ok (.aload_n 0, 1) := by decide +kernel
theorem dX6_drain_1 : decode cX6_drain 1 = .ok (.getfield 10, 3) := by decide +kernel
theorem dX6_drain_4 : decode cX6_drain 4 = .ok (.getfield 52, 3) := by decide +kernel
theorem dX6_drain_7 : decode cX6_drain 7 = .ok (.getfield 56, 3) := by decide +kernel
theorem dX6_drain_10 : decode cX6_drain 10 = .ok (.ifCond .eq 16, 3) := by decide +kernel
theorem dX6_drain_13 : decode cX6_drain 13 = .ok (.aload_n 0, 1) := by decide +kernel
theorem dX6_drain_14 : decode cX6_drain 14 = .ok (.getfield 10, 3) := by decide +kernel
theorem dX6_drain_17 : decode cX6_drain 17 = .ok (.getfield 52, 3) := by decide +kernel
theorem dX6_drain_20 : decode cX6_drain 20 = .ok (.invokevirtual 114, 3) := by decide +kernel
theorem dX6_drain_23 : decode cX6_drain 23 = .ok (.ifCond .le 6, 3) := by decide +kernel
theorem dX6_drain_26 : decode cX6_drain 26 = .ok (.ldc 93, 2) := by decide +kernel
theorem dX6_drain_28 : decode cX6_drain 28 = .ok (.ireturn, 1) := by decide +kernel
theorem dX6_drain_29 : decode cX6_drain 29 = .ok (.aload_n 0, 1) := by decide +kernel
theorem dX6_drain_30 : decode cX6_drain 30 = .ok (.getfield 22, 3) := by decide +kernel
theorem dX6_drain_33 : decode cX6_drain 33 = .ok (.aload_n 0, 1) := by decide +kernel
theorem dX6_drain_34 : decode cX6_drain 34 = .ok (.getfield 10, 3) := by decide +kernel
theorem dX6_drain_37 : decode cX6_drain 37 = .ok (.invokevirtual 34, 3) := by decide +kernel
theorem dX6_drain_40 : decode cX6_drain 40 = .ok (.aload_n 0, 1) := by decide +kernel
theorem dX6_drain_41 : decode cX6_drain 41 = .ok (.getfield 10, 3) := by decide +kernel
theorem dX6_drain_44 : decode cX6_drain 44 = .ok (.invokevirtual 120, 3) := by decide +kernel
theorem dX6_drain_47 : decode cX6_drain 47 = .ok (.aload_n 0, 1) := by decide +kernel
theorem dX6_drain_48 : decode cX6_drain 48 = .ok (.getfield 10, 3) := by decide +kernel
theorem dX6_drain_51 : decode cX6_drain 51 = .ok (.invokevirtual 123, 3) := by decide +kernel
theorem dX6_drain_54 : decode cX6_drain 54 = .ok (.ireturn, 1) := by decide +kernel
set_option maxRecDepth 20000 in
theorem ggX6_all_X0_remember : GoodIn wsX6_all wsX0_remember := goodIn_r _ [10, 11, 12, 13, 14, 15, 9, 16, 17, 18, 19, 20, 21, 22, 23, 24, 25, 26, 27, 28, 29, 30, 31, 32, 33, 34, 35, 36, 37, 38, 39, 40, 41, 42, 43, 44, 45, 46, 47, 48, 49, 50, 51, 52, 53, 54, 55, 56, 57, 58, 59, 60, 61, 62, 63, 64, 206, 207, 190, 191, 192, 193, 194, 208, 209, 210, 211, 212, 213, 195, 196, 197, 198, 199, 200, 201, 202, 203, 204, 205] (by decide +kernel) (by decide +kernel)
set_option maxRecDepth 20000 in
theorem gX6_all_X0_remember : GoodIn wsX6_all (wsV RX6 34 RX0 yX0_remember wsX0_remember) := goodIn_app (goodIn_of _ (by decide +kernel)) ggX6_all_X0_remember
set_option maxRecDepth 20000 in
theorem ggX6_all_X3_doAllTiles : GoodIn wsX6_all wsX3_doAllTiles := goodIn_r _ [68, 26, 69, 70, 71, 20, 72, 23, 73, 74, 75, 76, 77, 22, 78, 79, 80, 81, 82, 24, 83, 84, 85, 86, 87, 88, 89, 90, 91, 92, 93, 94, 95, 96, 97, 98, 99, 100, 51, 101, 60, 62, 63, 102, 64, 58, 103, 104, 105, 106, 107, 108, 109, 110, 59, 111, 112, 113, 114, 115, 116, 117, 118, 119, 120, 121, 122, 30, 123, 33, 124, 125, 126, 127, 34, 128, 129, 130, 131, 32, 132, 133, 134, 135, 136, 137, 138, 139, 140, 141, 142, 143, 144, 145, 146, 147, 148, 149, 42, 150, 44, 45, 151, 152, 153, 154, 46, 155, 156, 157, 158, 159, 160, 161, 162, 163, 164, 165, 166, 167, 168, 169, 170, 171, 172, 173, 174, 175, 176, 25, 177, 178, 179, 180, 181, 182, 183, 184, 185, 190, 191, 192, 193, 194, 211, 212, 213, 208, 209, 210, 195, 196, 197, 198, 199, 200, 201, 202, 203, 204, 205] (by decide +kernel) (by decide +kernel)
set_option maxRecDepth 20000 in
theorem gX6_all_X3_doAllTiles : GoodIn wsX6_all (wsV RX6 126 RX3 yX3_doAllTiles wsX3_doAllTiles) := goodIn_app (goodIn_of _ (by decide +kernel)) ggX6_all_X3_doAllTiles
theorem dX6_all_0 : decode cX6_all 0 = .ok (.aload_n 0, 1) := by decide +kernel
theorem dX6_all_1 : decode cX6_all 1 = .ok (.getfield 10, 3) := by decide +kernel
theorem dX6_all_4 : decode cX6_all 4 = .ok (.getfield 52, 3) := by decide +kernel
theorem dX6_all_7 : decode cX6_all 7 = .ok (.getfield 56, 3) := by decide +kernel
theorem dX6_all_10 : decode cX6_all 10 = .ok (.ifCond .eq 6, 3) := by decide +kernel
theorem dX6_all_13 : decode cX6_all 13 = .ok (.ldc 93, 2) := by decide +kernel
theorem dX6_all_15 : decode cX6_all 15 = .ok (.ireturn, 1) := by decide +kernel
theorem dX6_all_16 : decode cX6_all 16 = .ok (.aload_n 0, 1) := by decide +kernel
theorem dX6_all_17 : decode cX6_all 17 = .ok (.getfield 22, 3) := by decide +kernel
theorem dX6_all_20 : decode cX6_all 20 = .ok (.aload_n 0, 1) := by decide +kernel
theorem dX6_all_21 : decode cX6_all 21 = .ok (.getfield 10, 3) := by decide +kernel
theorem dX6_all_24 : decode cX6_all 24 = .ok (.invokevirtual 34, 3) := by decide +kernel
theorem dX6_all_27 : decode cX6_all 27 = .ok (.aload_n 0, 1) := by decide +kernel
theorem dX6_all_28 : decode cX6_all 28 = .ok (.getfield 10, 3) := by decide +kernel
theorem dX6_all_31 : decode cX6_all 31 = .ok (.invokevirtual 126, 3) := by decide +kernel
theorem dX6_all_34 : decode cX6_all 34 = .ok (.ireturn, 1) := by decide +kernel
set_option maxRecDepth 20000 in
theorem ggX6_entry_X1_has : GoodIn wsX6_entry wsX1_has := goodIn_r _ [9, 10, 11, 26, 27, 28] (by decide +kernel) (by decide +kernel)
set_option maxRecDepth 20000 in
theorem gX6_entry_X1_has : GoodIn wsX6_entry (wsV RX6 129 RX1 yX1_has wsX1_has) := goodIn_app (goodIn_of _ (by decide +kernel)) ggX6_entry_X1_has
set_option maxRecDepth 20000 in
theorem ggX6_entry_X1_at : GoodIn wsX6_entry wsX1_at := goodIn_r _ [15, 10, 11, 16, 26, 27, 28] (by decide +kernel) (by decide +kernel)
set_option maxRecDepth 20000 in
theorem gX6_entry_X1_at : GoodIn wsX6_entry (wsV RX6 130 RX1 yX1_at wsX1_at) := goodIn_app (goodIn_of _ (by decide +kernel)) ggX6_entry_X1_at
theorem dX6_entry_0 : decode cX6_entry 0 = .ok (.iload_n 1, 1) := by decide +kernel
theorem dX6_entry_1 : decode cX6_entry 1 = .ok (.ifCond .lt 8, 3) := by decide +kernel
theorem dX6_entry_4 : decode cX6_entry 4 = .ok (.iload_n 1, 1) := by decide +kernel
theorem dX6_entry_5 : decode cX6_entry 5 = .ok (.iconst 1, 1) := by decide +kernel
theorem dX6_entry_6 : decode cX6_entry 6 = .ok (.if_icmp .le 6, 3) := by decide +kernel
theorem dX6_entry_9 : decode cX6_entry 9 = .ok (.ldc 33, 2) := by decide +kernel
theorem dX6_entry_11 : decode cX6_entry 11 = .ok (.ireturn, 1) := by decide +kernel
theorem dX6_entry_12 : decode cX6_entry 12 = .ok (.iload_n 1, 1) := by decide +kernel
theorem dX6_entry_13 : decode cX6_entry 13 = .ok (.ifCond .ne 13, 3) := by decide +kernel
theorem dX6_entry_16 : decode cX6_entry 16 = .ok (.aload_n 0, 1) := by decide +kernel
theorem dX6_entry_17 : decode cX6_entry 17 = .ok (.getfield 10, 3) := by decide +kernel
theorem dX6_entry_20 : decode cX6_entry 20 = .ok (.getfield 69, 3) := by decide +kernel
theorem dX6_entry_23 : decode cX6_entry 23 = .ok (.goto 10, 3) := by decide +kernel
theorem dX6_entry_26 : decode cX6_entry 26 = .ok (.aload_n 0, 1) := by decide +kernel
theorem dX6_entry_27 : decode cX6_entry 27 = .ok (.getfield 10, 3) := by decide +kernel
theorem dX6_entry_30 : decode cX6_entry 30 = .ok (.getfield 78, 3) := by decide +kernel
theorem dX6_entry_33 : decode cX6_entry 33 = .ok (.astore 4, 2) := by decide +kernel
theorem dX6_entry_35 : decode cX6_entry 35 = .ok (.aload 4, 2) := by decide +kernel
theorem dX6_entry_37 : decode cX6_entry 37 = .ok (.iload_n 2, 1) := by decide +kernel
theorem dX6_entry_38 : decode cX6_entry 38 = .ok (.iload_n 3, 1) := by decide +kernel
theorem dX6_entry_39 : decode cX6_entry 39 = .ok (.invokevirtual 129, 3) := by decide +kernel
theorem dX6_entry_42 : decode cX6_entry 42 = .ok (.ifCond .eq 13, 3) := by decide +kernel
theorem dX6_entry_45 : decode cX6_entry 45 = .ok (.aload 4, 2) := by decide +kernel
theorem dX6_entry_47 : decode cX6_entry 47 = .ok (.iload_n 2, 1) := by decide +kernel
theorem dX6_entry_48 : decode cX6_entry 48 = .ok (.iload_n 3, 1) := by decide +kernel
theorem dX6_entry_49 : decode cX6_entry 49 = .ok (.invokevirtual 130, 3) := by decide +kernel
theorem dX6_entry_52 : decode cX6_entry 52 = .ok (.goto 5, 3) := by decide +kernel
theorem dX6_entry_55 : decode cX6_entry 55 = .ok (.ldc 33, 2) := by decide +kernel
theorem dX6_entry_57 : decode cX6_entry 57 = .ok (.ireturn, 1) := by decide +kernel
set_option maxRecDepth 20000 in
theorem ggX6_cellOf_X2_placeOf : GoodIn wsX6_cellOf wsX2_placeOf := goodIn_r _ [12, 13, 71, 72, 73] (by decide +kernel) (by decide +kernel)
set_option maxRecDepth 20000 in
theorem gX6_cellOf_X2_placeOf : GoodIn wsX6_cellOf (wsV RX6 133 RX2 yX2_placeOf wsX2_placeOf) := goodIn_app (goodIn_of _ (by decide +kernel)) ggX6_cellOf_X2_placeOf
set_option maxRecDepth 20000 in
theorem ggX6_cellOf_X2_kindAt : GoodIn wsX6_cellOf wsX2_kindAt := goodIn_r _ [17, 18, 19, 20, 21, 11, 22, 23, 71, 72, 73] (by decide +kernel) (by decide +kernel)
set_option maxRecDepth 20000 in
theorem gX6_cellOf_X2_kindAt : GoodIn wsX6_cellOf (wsV RX6 94 RX2 yX2_kindAt wsX2_kindAt) := goodIn_app (goodIn_of _ (by decide +kernel)) ggX6_cellOf_X2_kindAt
set_option maxRecDepth 20000 in
theorem ggX6_cellOf_X5_cell : GoodIn wsX6_cellOf wsX5_cell := goodIn_r _ [27] (by decide +kernel) (by decide +kernel)
set_option maxRecDepth 20000 in
theorem gX6_cellOf_X5_cell : GoodIn wsX6_cellOf (va_wsS RX6 137 yX5_cell wsX5_cell) := goodIn_app (goodIn_of _ (by decide +kernel)) ggX6_cellOf_X5_cell
set_option maxRecDepth 20000 in
theorem ggX6_cellOf_X6_ofCellAtWork : GoodIn wsX6_cellOf wsX6_ofCellAtWork := goodIn_r _ [32, 1, 5, 33, 34, 35, 26, 36, 37, 38, 39, 40, 41, 42, 43, 44, 45, 46, 47, 48, 31, 49, 50, 51, 52, 53, 54, 55, 56, 57, 58, 59, 60, 61, 62, 63, 64, 65, 66, 67, 68, 69, 70, 74, 75, 76, 77, 78, 79, 80, 81, 82, 83, 84] (by decide +kernel) (by decide +kernel)
set_option maxRecDepth 20000 in
theorem gX6_cellOf_X6_ofCellAtWork : GoodIn wsX6_cellOf (wsV RX6 140 RX6 yX6_ofCellAtWork wsX6_ofCellAtWork) := goodIn_app (goodIn_of _ (by decide +kernel)) ggX6_cellOf_X6_ofCellAtWork
theorem dX6_cellOf_0 : decode cX6_cellOf 0 = .ok (.iload_n 1, 1) := by decide +kernel
theorem dX6_cellOf_1 : decode cX6_cellOf 1 = .ok (.ifCond .lt 35, 3) := by decide +kernel
theorem dX6_cellOf_4 : decode cX6_cellOf 4 = .ok (.iload_n 1, 1) := by decide +kernel
theorem dX6_cellOf_5 : decode cX6_cellOf 5 = .ok (.aload_n 0, 1) := by decide +kernel
theorem dX6_cellOf_6 : decode cX6_cellOf 6 = .ok (.getfield 10, 3) := by decide +kernel
theorem dX6_cellOf_9 : decode cX6_cellOf 9 = .ok (.getfield 38, 3) := by decide +kernel
theorem dX6_cellOf_12 : decode cX6_cellOf 12 = .ok (.getfield 42, 3) := by decide +kernel
theorem dX6_cellOf_15 : decode cX6_cellOf 15 = .ok (.if_icmp .ge 21, 3) := by decide +kernel
theorem dX6_cellOf_18 : decode cX6_cellOf 18 = .ok (.iload_n 2, 1) := by decide +kernel
theorem dX6_cellOf_19 : decode cX6_cellOf 19 = .ok (.ifCond .lt 17, 3) := by decide +kernel
theorem dX6_cellOf_22 : decode cX6_cellOf 22 = .ok (.iload_n 2, 1) := by decide +kernel
theorem dX6_cellOf_23 : decode cX6_cellOf 23 = .ok (.aload_n 0, 1) := by decide +kernel
theorem dX6_cellOf_24 : decode cX6_cellOf 24 = .ok (.getfield 10, 3) := by decide +kernel
theorem dX6_cellOf_27 : decode cX6_cellOf 27 = .ok (.getfield 38, 3) := by decide +kernel
theorem dX6_cellOf_30 : decode cX6_cellOf 30 = .ok (.getfield 42, 3) := by decide +kernel
theorem dX6_cellOf_33 : decode cX6_cellOf 33 = .ok (.if_icmp .lt 6, 3) := by decide +kernel
theorem dX6_cellOf_36 : decode cX6_cellOf 36 = .ok (.ldc 33, 2) := by decide +kernel
theorem dX6_cellOf_38 : decode cX6_cellOf 38 = .ok (.ireturn, 1) := by decide +kernel
theorem dX6_cellOf_39 : decode cX6_cellOf 39 = .ok (.iload_n 3, 1) := by decide +kernel
theorem dX6_cellOf_40 : decode cX6_cellOf 40 = .ok (.ifCond .lt 8, 3) := by decide +kernel
theorem dX6_cellOf_43 : decode cX6_cellOf 43 = .ok (.iload_n 3, 1) := by decide +kernel
theorem dX6_cellOf_44 : decode cX6_cellOf 44 = .ok (.iconst 5, 1) := by decide +kernel
theorem dX6_cellOf_45 : decode cX6_cellOf 45 = .ok (.if_icmp .le 6, 3) := by decide +kernel
theorem dX6_cellOf_48 : decode cX6_cellOf 48 = .ok (.ldc 33, 2) := by decide +kernel
theorem dX6_cellOf_50 : decode cX6_cellOf 50 = .ok (.ireturn, 1) := by decide +kernel
theorem dX6_cellOf_51 : decode cX6_cellOf 51 = .ok (.aload_n 0, 1) := by decide +kernel
theorem dX6_cellOf_52 : decode cX6_cellOf 52 = .ok (.getfield 10, 3) := by decide +kernel
theorem dX6_cellOf_55 : decode cX6_cellOf 55 = .ok (.getfield 38, 3) := by decide +kernel
theorem dX6_cellOf_58 : decode cX6_cellOf 58 = .ok (.iload_n 2, 1) := by decide +kernel
theorem dX6_cellOf_59 : decode cX6_cellOf 59 = .ok (.invokevirtual 133, 3) := by decide +kernel
theorem dX6_cellOf_62 : decode cX6_cellOf 62 = .ok (.istore 4, 2) := by decide +kernel
theorem dX6_cellOf_64 : decode cX6_cellOf 64 = .ok (.iload_n 3, 1) := by decide +kernel
theorem dX6_cellOf_65 : decode cX6_cellOf 65 = .ok (.iconst 3, 1) := by decide +kernel
theorem dX6_cellOf_66 : decode cX6_cellOf 66 = .ok (.if_icmp .ne 6, 3) := by decide +kernel
theorem dX6_cellOf_69 : decode cX6_cellOf 69 = .ok (.iload 4, 2) := by decide +kernel
theorem dX6_cellOf_71 : decode cX6_cellOf 71 = .ok (.ireturn, 1) := by decide +kernel
theorem dX6_cellOf_72 : decode cX6_cellOf 72 = .ok (.iload_n 3, 1) := by decide +kernel
theorem dX6_cellOf_73 : decode cX6_cellOf 73 = .ok (.iconst 4, 1) := by decide +kernel
theorem dX6_cellOf_74 : decode cX6_cellOf 74 = .ok (.if_icmp .ne 17, 3) := by decide +kernel
theorem dX6_cellOf_77 : decode cX6_cellOf 77 = .ok (.aload_n 0, 1) := by decide +kernel
theorem dX6_cellOf_78 : decode cX6_cellOf 78 = .ok (.getfield 10, 3) := by decide +kernel
theorem dX6_cellOf_81 : decode cX6_cellOf 81 = .ok (.getfield 38, 3) := by decide +kernel
theorem dX6_cellOf_84 : decode cX6_cellOf 84 = .ok (.iload_n 1, 1) := by decide +kernel
theorem dX6_cellOf_85 : decode cX6_cellOf 85 = .ok (.iload 4, 2) := by decide +kernel
theorem dX6_cellOf_87 : decode cX6_cellOf 87 = .ok (.invokevirtual 94, 3) := by decide +kernel
theorem dX6_cellOf_90 : decode cX6_cellOf 90 = .ok (.ireturn, 1) := by decide +kernel
theorem dX6_cellOf_91 : decode cX6_cellOf 91 = .ok (.aload_n 0, 1) := by decide +kernel
theorem dX6_cellOf_92 : decode cX6_cellOf 92 = .ok (.getfield 10, 3) := by decide +kernel
theorem dX6_cellOf_95 : decode cX6_cellOf 95 = .ok (.getfield 52, 3) := by decide +kernel
theorem dX6_cellOf_98 : decode cX6_cellOf 98 = .ok (.getfield 56, 3) := by decide +kernel
theorem dX6_cellOf_101 : decode cX6_cellOf 101 = .ok (.ifCond .eq 16, 3) := by decide +kernel
theorem dX6_cellOf_104 : decode cX6_cellOf 104 = .ok (.aload_n 0, 1) := by decide +kernel
theorem dX6_cellOf_105 : decode cX6_cellOf 105 = .ok (.iload_n 1, 1) := by decide +kernel
theorem dX6_cellOf_106 : decode cX6_cellOf 106 = .ok (.iload_n 2, 1) := by decide +kernel
theorem dX6_cellOf_107 : decode cX6_cellOf 107 = .ok (.invokestatic 137, 3) := by decide +kernel
theorem dX6_cellOf_110 : decode cX6_cellOf 110 = .ok (.iload_n 3, 1) := by decide +kernel
theorem dX6_cellOf_111 : decode cX6_cellOf 111 = .ok (.invokevirtual 140, 3) := by decide +kernel
theorem dX6_cellOf_114 : decode cX6_cellOf 114 = .ok (.goto 5, 3) := by decide +kernel
theorem dX6_cellOf_117 : decode cX6_cellOf 117 = .ok (.ldc 93, 2) := by decide +kernel
theorem dX6_cellOf_119 : decode cX6_cellOf 119 = .ok (.ireturn, 1) := by decide +kernel
set_option maxRecDepth 20000 in
theorem ggX6_result_X1_has : GoodIn wsX6_result wsX1_has := goodIn_r _ [8, 9, 10, 40, 41, 42] (by decide +kernel) (by decide +kernel)
set_option maxRecDepth 20000 in
theorem gX6_result_X1_has : GoodIn wsX6_result (wsV RX6 129 RX1 yX1_has wsX1_has) := goodIn_app (goodIn_of _ (by decide +kernel)) ggX6_result_X1_has
set_option maxRecDepth 20000 in
theorem ggX6_result_X3_dueAt : GoodIn wsX6_result wsX3_dueAt := goodIn_r _ [15, 16, 17, 18, 19, 20, 21, 7, 22, 9, 10, 23, 35, 36, 37, 38, 39, 40, 41, 42] (by decide +kernel) (by decide +kernel)
set_option maxRecDepth 20000 in
theorem gX6_result_X3_dueAt : GoodIn wsX6_result (wsV RX6 146 RX3 yX3_dueAt wsX3_dueAt) := goodIn_app (goodIn_of _ (by decide +kernel)) ggX6_result_X3_dueAt
set_option maxRecDepth 20000 in
theorem ggX6_result_X1_at : GoodIn wsX6_result wsX1_at := goodIn_r _ [22, 9, 10, 23, 40, 41, 42] (by decide +kernel) (by decide +kernel)
set_option maxRecDepth 20000 in
theorem gX6_result_X1_at : GoodIn wsX6_result (wsV RX6 130 RX1 yX1_at wsX1_at) := goodIn_app (goodIn_of _ (by decide +kernel)) ggX6_result_X1_at
set_option maxRecDepth 20000 in
theorem ggX6_result_X6_orNotFound : GoodIn wsX6_result wsX6_orNotFound := goodIn_r _ [28, 29, 30] (by decide +kernel) (by decide +kernel)
set_option maxRecDepth 20000 in
theorem gX6_result_X6_orNotFound : GoodIn wsX6_result (va_wsS RX6 149 yX6_orNotFound wsX6_orNotFound) := goodIn_app (goodIn_of _ (by decide +kernel)) ggX6_result_X6_orNotFound
theorem dX6_result_0 : decode cX6_result 0 = .ok (.iload_n 3, 1) := by decide +kernel
theorem dX6_result_1 : decode cX6_result 1 = .ok (.ifCond .lt 23, 3) := by decide +kernel
theorem dX6_result_4 : decode cX6_result 4 = .ok (.iload_n 3, 1) := by decide +kernel
theorem dX6_result_5 : decode cX6_result 5 = .ok (.iconst 1, 1) := by decide +kernel
theorem dX6_result_6 : decode cX6_result 6 = .ok (.if_icmp .gt 18, 3) := by decide +kernel
theorem dX6_result_9 : decode cX6_result 9 = .ok (.aload_n 0, 1) := by decide +kernel
theorem dX6_result_10 : decode cX6_result 10 = .ok (.getfield 10, 3) := by decide +kernel
theorem dX6_result_13 : decode cX6_result 13 = .ok (.getfield 143, 3) := by decide +kernel
theorem dX6_result_16 : decode cX6_result 16 = .ok (.iload_n 1, 1) := by decide +kernel
theorem dX6_result_17 : decode cX6_result 17 = .ok (.iload_n 2, 1) := by decide +kernel
theorem dX6_result_18 : decode cX6_result 18 = .ok (.invokevirtual 129, 3) := by decide +kernel
theorem dX6_result_21 : decode cX6_result 21 = .ok (.ifCond .ne 6, 3) := by decide +kernel
theorem dX6_result_24 : decode cX6_result 24 = .ok (.ldc 33, 2) := by decide +kernel
theorem dX6_result_26 : decode cX6_result 26 = .ok (.ireturn, 1) := by decide +kernel
theorem dX6_result_27 : decode cX6_result 27 = .ok (.iload_n 3, 1) := by decide +kernel
theorem dX6_result_28 : decode cX6_result 28 = .ok (.iconst 1, 1) := by decide +kernel
theorem dX6_result_29 : decode cX6_result 29 = .ok (.if_icmp .ne 13, 3) := by decide +kernel
theorem dX6_result_32 : decode cX6_result 32 = .ok (.aload_n 0, 1) := by decide +kernel
theorem dX6_result_33 : decode cX6_result 33 = .ok (.getfield 10, 3) := by decide +kernel
theorem dX6_result_36 : decode cX6_result 36 = .ok (.iload_n 1, 1) := by decide +kernel
theorem dX6_result_37 : decode cX6_result 37 = .ok (.iload_n 2, 1) := by decide +kernel
theorem dX6_result_38 : decode cX6_result 38 = .ok (.invokevirtual 146, 3) := by decide +kernel
theorem dX6_result_41 : decode cX6_result 41 = .ok (.ireturn, 1) := by decide +kernel
theorem dX6_result_42 : decode cX6_result 42 = .ok (.aload_n 0, 1) := by decide +kernel
theorem dX6_result_43 : decode cX6_result 43 = .ok (.getfield 10, 3) := by decide +kernel
theorem dX6_result_46 : decode cX6_result 46 = .ok (.getfield 143, 3) := by decide +kernel
theorem dX6_result_49 : decode cX6_result 49 = .ok (.iload_n 1, 1) := by decide +kernel
theorem dX6_result_50 : decode cX6_result 50 = .ok (.iload_n 2, 1) := by decide +kernel
theorem dX6_result_51 : decode cX6_result 51 = .ok (.invokevirtual 130, 3) := by decide +kernel
theorem dX6_result_54 : decode cX6_result 54 = .ok (.invokestatic 149, 3) := by decide +kernel
theorem dX6_result_57 : decode cX6_result 57 = .ok (.ireturn, 1) := by decide +kernel
set_option maxRecDepth 20000 in
theorem ggX6_count_X3_tiles : GoodIn wsX6_count wsX3_tiles := goodIn_r _ [24, 25, 26, 27, 23, 28, 29, 30, 31, 32, 33, 34, 35, 36, 37, 38, 39, 40, 41, 42, 91, 92, 93, 94, 95, 99, 100, 101, 96, 97, 98] (by decide +kernel) (by decide +kernel)
set_option maxRecDepth 20000 in
theorem gX6_count_X3_tiles : GoodIn wsX6_count (wsV RX6 81 RX3 yX3_tiles wsX3_tiles) := goodIn_app (goodIn_of _ (by decide +kernel)) ggX6_count_X3_tiles
set_option maxRecDepth 20000 in
theorem ggX6_count_X5_ticksLeft : GoodIn wsX6_count wsX5_ticksLeft := goodIn_r _ [47, 48, 49, 102, 103, 104, 105, 106, 107, 108, 109, 110, 111, 112] (by decide +kernel) (by decide +kernel)
set_option maxRecDepth 20000 in
theorem gX6_count_X5_ticksLeft : GoodIn wsX6_count (wsV RX6 114 RX5 yX5_ticksLeft wsX5_ticksLeft) := goodIn_app (goodIn_of _ (by decide +kernel)) ggX6_count_X5_ticksLeft
set_option maxRecDepth 20000 in
theorem ggX6_count_X3_knownEntries : GoodIn wsX6_count wsX3_knownEntries := goodIn_r _ [53, 54, 30, 42, 55, 56, 57, 58, 59, 60, 61, 62, 63, 91, 92, 93, 94, 95, 99, 100, 101] (by decide +kernel) (by decide +kernel)
set_option maxRecDepth 20000 in
theorem gX6_count_X3_knownEntries : GoodIn wsX6_count (wsV RX6 123 RX3 yX3_knownEntries wsX3_knownEntries) := goodIn_app (goodIn_of _ (by decide +kernel)) ggX6_count_X3_knownEntries
set_option maxRecDepth 20000 in
theorem ggX6_count_X3_wrongEntries : GoodIn wsX6_count wsX3_wrongEntries := goodIn_r _ [67, 54, 30, 42, 55, 56, 57, 58, 59, 60, 61, 62, 63, 68, 69, 70, 23, 71, 29, 41, 91, 92, 93, 94, 95, 99, 100, 101] (by decide +kernel) (by decide +kernel)
set_option maxRecDepth 20000 in
theorem gX6_count_X3_wrongEntries : GoodIn wsX6_count (wsV RX6 168 RX3 yX3_wrongEntries wsX3_wrongEntries) := goodIn_app (goodIn_of _ (by decide +kernel)) ggX6_count_X3_wrongEntries
set_option maxRecDepth 20000 in
theorem ggX6_count_X2_faultyCells : GoodIn wsX6_count wsX2_faultyCells := goodIn_r _ [76, 77, 78, 79, 80, 75, 81, 82, 83, 84, 85, 86, 96, 97, 98] (by decide +kernel) (by decide +kernel)
set_option maxRecDepth 20000 in
theorem gX6_count_X2_faultyCells : GoodIn wsX6_count (wsV RX6 171 RX2 yX2_faultyCells wsX2_faultyCells) := goodIn_app (goodIn_of _ (by decide +kernel)) ggX6_count_X2_faultyCells
theorem dX6_count_0 : decode cX6_count 0 = .ok (.iload_n 1, 1) := by decide +kernel
theorem dX6_count_1 : decode cX6_count 1 = .ok (.tableswitch 320 0 15 #[79, 90, 101, 112, 123, 131, 142, 161, 190, 219, 248, 277, 285, 293, 304, 312], 79) := by decide +kernel
theorem dX6_count_80 : decode cX6_count 80 = .ok (.aload_n 0, 1) := by decide +kernel
theorem dX6_count_81 : decode cX6_count 81 = .ok (.getfield 10, 3) := by decide +kernel
theorem dX6_count_84 : decode cX6_count 84 = .ok (.getfield 38, 3) := by decide +kernel
theorem dX6_count_87 : decode cX6_count 87 = .ok (.getfield 42, 3) := by decide +kernel
theorem dX6_count_90 : decode cX6_count 90 = .ok (.ireturn, 1) := by decide +kernel
theorem dX6_count_91 : decode cX6_count 91 = .ok (.aload_n 0, 1) := by decide +kernel
theorem dX6_count_92 : decode cX6_count 92 = .ok (.getfield 10, 3) := by decide +kernel
theorem dX6_count_95 : decode cX6_count 95 = .ok (.getfield 69, 3) := by decide +kernel
theorem dX6_count_98 : decode cX6_count 98 = .ok (.getfield 152, 3) := by decide +kernel
theorem dX6_count_101 : decode cX6_count 101 = .ok (.ireturn, 1) := by decide +kernel
theorem dX6_count_102 : decode cX6_count 102 = .ok (.aload_n 0, 1) := by decide +kernel
theorem dX6_count_103 : decode cX6_count 103 = .ok (.getfield 10, 3) := by decide +kernel
theorem dX6_count_106 : decode cX6_count 106 = .ok (.getfield 69, 3) := by decide +kernel
theorem dX6_count_109 : decode cX6_count 109 = .ok (.getfield 155, 3) := by decide +kernel
theorem dX6_count_112 : decode cX6_count 112 = .ok (.ireturn, 1) := by decide +kernel
theorem dX6_count_113 : decode cX6_count 113 = .ok (.aload_n 0, 1) := by decide +kernel
theorem dX6_count_114 : decode cX6_count 114 = .ok (.getfield 10, 3) := by decide +kernel
theorem dX6_count_117 : decode cX6_count 117 = .ok (.getfield 78, 3) := by decide +kernel
theorem dX6_count_120 : decode cX6_count 120 = .ok (.getfield 155, 3) := by decide +kernel
theorem dX6_count_123 : decode cX6_count 123 = .ok (.ireturn, 1) := by decide +kernel
theorem dX6_count_124 : decode cX6_count 124 = .ok (.aload_n 0, 1) := by decide +kernel
theorem dX6_count_125 : decode cX6_count 125 = .ok (.getfield 10, 3) := by decide +kernel
theorem dX6_count_128 : decode cX6_count 128 = .ok (.invokevirtual 81, 3) := by decide +kernel
theorem dX6_count_131 : decode cX6_count 131 = .ok (.ireturn, 1) := by decide +kernel
theorem dX6_count_132 : decode cX6_count 132 = .ok (.aload_n 0, 1) := by decide +kernel
theorem dX6_count_133 : decode cX6_count 133 = .ok (.getfield 10, 3) := by decide +kernel
theorem dX6_count_136 : decode cX6_count 136 = .ok (.getfield 38, 3) := by decide +kernel
theorem dX6_count_139 : decode cX6_count 139 = .ok (.getfield 101, 3) := by decide +kernel
theorem dX6_count_142 : decode cX6_count 142 = .ok (.ireturn, 1) := by decide +kernel
theorem dX6_count_143 : decode cX6_count 143 = .ok (.aload_n 0, 1) := by decide +kernel
theorem dX6_count_144 : decode cX6_count 144 = .ok (.getfield 10, 3) := by decide +kernel
theorem dX6_count_147 : decode cX6_count 147 = .ok (.getfield 52, 3) := by decide +kernel
theorem dX6_count_150 : decode cX6_count 150 = .ok (.getfield 56, 3) := by decide +kernel
theorem dX6_count_153 : decode cX6_count 153 = .ok (.ifCond .eq 7, 3) := by decide +kernel
theorem dX6_count_156 : decode cX6_count 156 = .ok (.iconst 1, 1) := by decide +kernel
theorem dX6_count_157 : decode cX6_count 157 = .ok (.goto 4, 3) := by decide +kernel
theorem dX6_count_160 : decode cX6_count 160 = .ok (.iconst 0, 1) := by decide +kernel
theorem dX6_count_161 : decode cX6_count 161 = .ok (.ireturn, 1) := by decide +kernel
theorem dX6_count_162 : decode cX6_count 162 = .ok (.aload_n 0, 1) := by decide +kernel
theorem dX6_count_163 : decode cX6_count 163 = .ok (.getfield 10, 3) := by decide +kernel
theorem dX6_count_166 : decode cX6_count 166 = .ok (.getfield 52, 3) := by decide +kernel
theorem dX6_count_169 : decode cX6_count 169 = .ok (.getfield 56, 3) := by decide +kernel
theorem dX6_count_172 : decode cX6_count 172 = .ok (.ifCond .eq 16, 3) := by decide +kernel
theorem dX6_count_175 : decode cX6_count 175 = .ok (.aload_n 0, 1) := by decide +kernel
theorem dX6_count_176 : decode cX6_count 176 = .ok (.getfield 10, 3) := by decide +kernel
theorem dX6_count_179 : decode cX6_count 179 = .ok (.getfield 52, 3) := by decide +kernel
theorem dX6_count_182 : decode cX6_count 182 = .ok (.getfield 158, 3) := by decide +kernel
theorem dX6_count_185 : decode cX6_count 185 = .ok (.goto 5, 3) := by decide +kernel
theorem dX6_count_188 : decode cX6_count 188 = .ok (.ldc 161, 2) := by decide +kernel
theorem dX6_count_190 : decode cX6_count 190 = .ok (.ireturn, 1) := by decide +kernel
theorem dX6_count_191 : decode cX6_count 191 = .ok (.aload_n 0, 1) := by decide +kernel
theorem dX6_count_192 : decode cX6_count 192 = .ok (.getfield 10, 3) := by decide +kernel
theorem dX6_count_195 : decode cX6_count 195 = .ok (.getfield 52, 3) := by decide +kernel
theorem dX6_count_198 : decode cX6_count 198 = .ok (.getfield 56, 3) := by decide +kernel
theorem dX6_count_201 : decode cX6_count 201 = .ok (.ifCond .eq 16, 3) := by decide +kernel
theorem dX6_count_204 : decode cX6_count 204 = .ok (.aload_n 0, 1) := by decide +kernel
theorem dX6_count_205 : decode cX6_count 205 = .ok (.getfield 10, 3) := by decide +kernel
theorem dX6_count_208 : decode cX6_count 208 = .ok (.getfield 52, 3) := by decide +kernel
theorem dX6_count_211 : decode cX6_count 211 = .ok (.getfield 162, 3) := by decide +kernel
theorem dX6_count_214 : decode cX6_count 214 = .ok (.goto 5, 3) := by decide +kernel
theorem dX6_count_217 : decode cX6_count 217 = .ok (.ldc 161, 2) := by decide +kernel
theorem dX6_count_219 : decode cX6_count 219 = .ok (.ireturn, 1) := by decide +kernel
theorem dX6_count_220 : decode cX6_count 220 = .ok (.aload_n 0, 1) := by decide +kernel
theorem dX6_count_221 : decode cX6_count 221 = .ok (.getfield 10, 3) := by decide +kernel
theorem dX6_count_224 : decode cX6_count 224 = .ok (.getfield 52, 3) := by decide +kernel
theorem dX6_count_227 : decode cX6_count 227 = .ok (.getfield 56, 3) := by decide +kernel
theorem dX6_count_230 : decode cX6_count 230 = .ok (.ifCond .eq 16, 3) := by decide +kernel
theorem dX6_count_233 : decode cX6_count 233 = .ok (.aload_n 0, 1) := by decide +kernel
theorem dX6_count_234 : decode cX6_count 234 = .ok (.getfield 10, 3) := by decide +kernel
theorem dX6_count_237 : decode cX6_count 237 = .ok (.getfield 52, 3) := by decide +kernel
theorem dX6_count_240 : decode cX6_count 240 = .ok (.getfield 165, 3) := by decide +kernel
theorem dX6_count_243 : decode cX6_count 243 = .ok (.goto 5, 3) := by decide +kernel
theorem dX6_count_246 : decode cX6_count 246 = .ok (.ldc 161, 2) := by decide +kernel
theorem dX6_count_248 : decode cX6_count 248 = .ok (.ireturn, 1) := by decide +kernel
theorem dX6_count_249 : decode cX6_count 249 = .ok (.aload_n 0, 1) := by decide +kernel
theorem dX6_count_250 : decode cX6_count 250 = .ok (.getfield 10, 3) := by decide +kernel
theorem dX6_count_253 : decode cX6_count 253 = .ok (.getfield 52, 3) := by decide +kernel
theorem dX6_count_256 : decode cX6_count 256 = .ok (.getfield 56, 3) := by decide +kernel
theorem dX6_count_259 : decode cX6_count 259 = .ok (.ifCond .eq 16, 3) := by decide +kernel
theorem dX6_count_262 : decode cX6_count 262 = .ok (.aload_n 0, 1) := by decide +kernel
theorem dX6_count_263 : decode cX6_count 263 = .ok (.getfield 10, 3) := by decide +kernel
theorem dX6_count_266 : decode cX6_count 266 = .ok (.getfield 52, 3) := by decide +kernel
theorem dX6_count_269 : decode cX6_count 269 = .ok (.invokevirtual 114, 3) := by decide +kernel
theorem dX6_count_272 : decode cX6_count 272 = .ok (.goto 5, 3) := by decide +kernel
theorem dX6_count_275 : decode cX6_count 275 = .ok (.ldc 161, 2) := by decide +kernel
theorem dX6_count_277 : decode cX6_count 277 = .ok (.ireturn, 1) := by decide +kernel
theorem dX6_count_278 : decode cX6_count 278 = .ok (.aload_n 0, 1) := by decide +kernel
theorem dX6_count_279 : decode cX6_count 279 = .ok (.getfield 10, 3) := by decide +kernel
theorem dX6_count_282 : decode cX6_count 282 = .ok (.invokevirtual 123, 3) := by decide +kernel
theorem dX6_count_285 : decode cX6_count 285 = .ok (.ireturn, 1) := by decide +kernel
theorem dX6_count_286 : decode cX6_count 286 = .ok (.aload_n 0, 1) := by decide +kernel
theorem dX6_count_287 : decode cX6_count 287 = .ok (.getfield 10, 3) := by decide +kernel
theorem dX6_count_290 : decode cX6_count 290 = .ok (.invokevirtual 168, 3) := by decide +kernel
theorem dX6_count_293 : decode cX6_count 293 = .ok (.ireturn, 1) := by decide +kernel
theorem dX6_count_294 : decode cX6_count 294 = .ok (.aload_n 0, 1) := by decide +kernel
theorem dX6_count_295 : decode cX6_count 295 = .ok (.getfield 10, 3) := by decide +kernel
theorem dX6_count_298 : decode cX6_count 298 = .ok (.getfield 38, 3) := by decide +kernel
theorem dX6_count_301 : decode cX6_count 301 = .ok (.invokevirtual 171, 3) := by decide +kernel
theorem dX6_count_304 : decode cX6_count 304 = .ok (.ireturn, 1) := by decide +kernel
theorem dX6_count_305 : decode cX6_count 305 = .ok (.aload_n 0, 1) := by decide +kernel
theorem dX6_count_306 : decode cX6_count 306 = .ok (.getfield 22, 3) := by decide +kernel
theorem dX6_count_309 : decode cX6_count 309 = .ok (.getfield 174, 3) := by decide +kernel
theorem dX6_count_312 : decode cX6_count 312 = .ok (.ireturn, 1) := by decide +kernel
theorem dX6_count_313 : decode cX6_count 313 = .ok (.aload_n 0, 1) := by decide +kernel
theorem dX6_count_314 : decode cX6_count 314 = .ok (.getfield 29, 3) := by decide +kernel
theorem dX6_count_317 : decode cX6_count 317 = .ok (.getfield 177, 3) := by decide +kernel
theorem dX6_count_320 : decode cX6_count 320 = .ok (.ireturn, 1) := by decide +kernel
theorem dX6_count_321 : decode cX6_count 321 = .ok (.ldc 33, 2) := by decide +kernel
theorem dX6_count_323 : decode cX6_count 323 = .ok (.ireturn, 1) := by decide +kernel
set_option maxRecDepth 20000 in
theorem ggX6_type_X4_append : GoodIn wsX6_type wsX4_append := goodIn_r _ [9, 10, 11, 16, 17, 18, 19, 20, 21, 22, 23, 24, 25, 26] (by decide +kernel) (by decide +kernel)
set_option maxRecDepth 20000 in
theorem gX6_type_X4_append : GoodIn wsX6_type (wsV RX6 193 RX4 yX4_append wsX4_append) := goodIn_app (goodIn_of _ (by decide +kernel)) ggX6_type_X4_append
theorem dX6_type_0 : decode cX6_type 0 = .ok (.iload_n 1, 1) := by decide +kernel
theorem dX6_type_1 : decode cX6_type 1 = .ok (.bipush 32, 2) := by decide +kernel
theorem dX6_type_3 : decode cX6_type 3 = .ok (.if_icmp .lt 9, 3) := by decide +kernel
theorem dX6_type_6 : decode cX6_type 6 = .ok (.iload_n 1, 1) := by decide +kernel
theorem dX6_type_7 : decode cX6_type 7 = .ok (.bipush 126, 2) := by decide +kernel
theorem dX6_type_9 : decode cX6_type 9 = .ok (.if_icmp .le 6, 3) := by decide +kernel
theorem dX6_type_12 : decode cX6_type 12 = .ok (.ldc 33, 2) := by decide +kernel
theorem dX6_type_14 : decode cX6_type 14 = .ok (.ireturn, 1) := by decide +kernel
theorem dX6_type_15 : decode cX6_type 15 = .ok (.aload_n 0, 1) := by decide +kernel
theorem dX6_type_16 : decode cX6_type 16 = .ok (.getfield 29, 3) := by decide +kernel
theorem dX6_type_19 : decode cX6_type 19 = .ok (.getfield 177, 3) := by decide +kernel
theorem dX6_type_22 : decode cX6_type 22 = .ok (.bipush 80, 2) := by decide +kernel
theorem dX6_type_24 : decode cX6_type 24 = .ok (.if_icmp .lt 6, 3) := by decide +kernel
theorem dX6_type_27 : decode cX6_type 27 = .ok (.ldc 192, 2) := by decide +kernel
theorem dX6_type_29 : decode cX6_type 29 = .ok (.ireturn, 1) := by decide +kernel
theorem dX6_type_30 : decode cX6_type 30 = .ok (.aload_n 0, 1) := by decide +kernel
theorem dX6_type_31 : decode cX6_type 31 = .ok (.getfield 29, 3) := by decide +kernel
theorem dX6_type_34 : decode cX6_type 34 = .ok (.iload_n 1, 1) := by decide +kernel
theorem dX6_type_35 : decode cX6_type 35 = .ok (.i2c, 1) := by decide +kernel
theorem dX6_type_36 : decode cX6_type 36 = .ok (.invokevirtual 193, 3) := by decide +kernel
theorem dX6_type_39 : decode cX6_type 39 = .ok (.aload_n 0, 1) := by decide +kernel
theorem dX6_type_40 : decode cX6_type 40 = .ok (.getfield 29, 3) := by decide +kernel
theorem dX6_type_43 : decode cX6_type 43 = .ok (.getfield 177, 3) := by decide +kernel
theorem dX6_type_46 : decode cX6_type 46 = .ok (.ireturn, 1) := by decide +kernel
theorem dX6_clearText_0 : decode cX6_clearText 0 = .ok (.aload_n 0, 1) := by decide +kernel
theorem dX6_clearText_1 : decode cX6_clearText 1 = .ok (.getfield 29, 3) := by decide +kernel
theorem dX6_clearText_4 : decode cX6_clearText 4 = .ok (.getfield 177, 3) := by decide +kernel
theorem dX6_clearText_7 : decode cX6_clearText 7 = .ok (.istore_n 1, 1) := by decide +kernel
theorem dX6_clearText_8 : decode cX6_clearText 8 = .ok (.aload_n 0, 1) := by decide +kernel
theorem dX6_clearText_9 : decode cX6_clearText 9 = .ok (.getfield 29, 3) := by decide +kernel
theorem dX6_clearText_12 : decode cX6_clearText 12 = .ok (.iconst 0, 1) := by decide +kernel
theorem dX6_clearText_13 : decode cX6_clearText 13 = .ok (.putfield 177, 3) := by decide +kernel
theorem dX6_clearText_16 : decode cX6_clearText 16 = .ok (.iload_n 1, 1) := by decide +kernel
theorem dX6_clearText_17 : decode cX6_clearText 17 = .ok (.ireturn, 1) := by decide +kernel
set_option maxRecDepth 20000 in
theorem ggX6_textFault_X4_scan : GoodIn wsX6_textFault wsX4_scan := goodIn_r _ [10, 11, 12, 13, 14, 15, 16, 9, 17, 18, 19, 20, 21, 22, 23, 24, 25, 26, 27, 28, 29, 30, 31, 32, 33, 34, 35, 36, 37, 38, 39, 40, 41, 42, 43, 44, 45, 46, 47, 48, 49, 50, 51, 52, 53, 54, 55, 56, 57, 58, 59, 60, 61, 62, 63, 64, 65, 66, 67, 68, 69, 70, 71, 72, 73, 74, 75, 76, 77, 78, 79, 80, 81, 82, 83, 84, 85, 86, 91, 92, 93, 94, 95, 96, 97, 98, 99, 100, 101, 102, 103, 104] (by decide +kernel) (by decide +kernel)
set_option maxRecDepth 20000 in
theorem gX6_textFault_X4_scan : GoodIn wsX6_textFault (wsV RX6 197 RX4 yX4_scan wsX4_scan) := goodIn_app (goodIn_of _ (by decide +kernel)) ggX6_textFault_X4_scan
theorem dX6_textFault_0 : decode cX6_textFault 0 = .ok (.iload_n 1, 1) := by decide +kernel
theorem dX6_textFault_1 : decode cX6_textFault 1 = .ok (.ifCond .lt 8, 3) := by decide +kernel
theorem dX6_textFault_4 : decode cX6_textFault 4 = .ok (.iload_n 1, 1) := by decide +kernel
theorem dX6_textFault_5 : decode cX6_textFault 5 = .ok (.iconst 1, 1) := by decide +kernel
theorem dX6_textFault_6 : decode cX6_textFault 6 = .ok (.if_icmp .le 6, 3) := by decide +kernel
theorem dX6_textFault_9 : decode cX6_textFault 9 = .ok (.ldc 33, 2) := by decide +kernel
theorem dX6_textFault_11 : decode cX6_textFault 11 = .ok (.ireturn, 1) := by decide +kernel
theorem dX6_textFault_12 : decode cX6_textFault 12 = .ok (.aload_n 0, 1) := by decide +kernel
theorem dX6_textFault_13 : decode cX6_textFault 13 = .ok (.getfield 29, 3) := by decide +kernel
theorem dX6_textFault_16 : decode cX6_textFault 16 = .ok (.invokevirtual 197, 3) := by decide +kernel
theorem dX6_textFault_19 : decode cX6_textFault 19 = .ok (.aload_n 0, 1) := by decide +kernel
theorem dX6_textFault_20 : decode cX6_textFault 20 = .ok (.getfield 29, 3) := by decide +kernel
theorem dX6_textFault_23 : decode cX6_textFault 23 = .ok (.getfield 200, 3) := by decide +kernel
theorem dX6_textFault_26 : decode cX6_textFault 26 = .ok (.ifCond .ne 6, 3) := by decide +kernel
theorem dX6_textFault_29 : decode cX6_textFault 29 = .ok (.ldc 161, 2) := by decide +kernel
theorem dX6_textFault_31 : decode cX6_textFault 31 = .ok (.ireturn, 1) := by decide +kernel
theorem dX6_textFault_32 : decode cX6_textFault 32 = .ok (.iload_n 1, 1) := by decide +kernel
theorem dX6_textFault_33 : decode cX6_textFault 33 = .ok (.ifCond .ne 13, 3) := by decide +kernel
theorem dX6_textFault_36 : decode cX6_textFault 36 = .ok (.aload_n 0, 1) := by decide +kernel
theorem dX6_textFault_37 : decode cX6_textFault 37 = .ok (.getfield 29, 3) := by decide +kernel
theorem dX6_textFault_40 : decode cX6_textFault 40 = .ok (.getfield 203, 3) := by decide +kernel
theorem dX6_textFault_43 : decode cX6_textFault 43 = .ok (.goto 10, 3) := by decide +kernel
theorem dX6_textFault_46 : decode cX6_textFault 46 = .ok (.aload_n 0, 1) := by decide +kernel
theorem dX6_textFault_47 : decode cX6_textFault 47 = .ok (.getfield 29, 3) := by decide +kernel
theorem dX6_textFault_50 : decode cX6_textFault 50 = .ok (.getfield 200, 3) := by decide +kernel
theorem dX6_textFault_53 : decode cX6_textFault 53 = .ok (.ireturn, 1) := by decide +kernel
set_option maxRecDepth 20000 in
theorem ggX6_read_X4_scan : GoodIn wsX6_read wsX4_scan := goodIn_r _ [16, 17, 18, 19, 20, 21, 22, 15, 23, 24, 25, 26, 27, 28, 29, 30, 31, 32, 33, 34, 35, 36, 37, 38, 39, 40, 41, 42, 43, 44, 45, 46, 47, 48, 49, 50, 51, 52, 53, 54, 55, 56, 57, 58, 59, 60, 61, 62, 63, 64, 65, 66, 67, 68, 69, 70, 71, 72, 73, 74, 75, 76, 77, 78, 79, 80, 81, 82, 83, 84, 85, 86, 87, 88, 89, 90, 91, 92, 184, 185, 186, 187, 188, 189, 190, 191, 192, 193, 194, 195, 196, 197] (by decide +kernel) (by decide +kernel)
set_option maxRecDepth 20000 in
theorem gX6_read_X4_scan : GoodIn wsX6_read (wsV RX6 197 RX4 yX4_scan wsX4_scan) := goodIn_app (goodIn_of _ (by decide +kernel)) ggX6_read_X4_scan
set_option maxRecDepth 20000 in
theorem ggX6_read_X0_remember : GoodIn wsX6_read wsX0_remember := goodIn_r _ [97, 98, 99, 100, 101, 102, 96, 103, 104, 105, 106, 107, 108, 109, 110, 111, 112, 113, 114, 115, 116, 117, 118, 119, 120, 121, 122, 123, 124, 125, 126, 127, 128, 31, 129, 33, 34, 35, 130, 131, 132, 133, 134, 135, 136, 137, 138, 139, 140, 141, 142, 143, 144, 145, 146, 147, 198, 199, 168, 169, 170, 171, 172, 200, 201, 202, 195, 196, 197, 173, 174, 175, 176, 177, 178, 179, 180, 181, 182, 183] (by decide +kernel) (by decide +kernel)
set_option maxRecDepth 20000 in
theorem gX6_read_X0_remember : GoodIn wsX6_read (wsV RX6 34 RX0 yX0_remember wsX0_remember) := goodIn_app (goodIn_of _ (by decide +kernel)) ggX6_read_X0_remember
set_option maxRecDepth 20000 in
theorem ggX6_read_X3_takeLeft : GoodIn wsX6_read wsX3_takeLeft := goodIn_r _ [151, 110, 111, 152, 153, 126, 127, 128, 31, 129, 33, 34, 35, 130, 123, 124, 125, 154, 29, 30, 32, 36, 37, 38, 39, 40, 41, 42, 155, 156, 157, 107, 158, 112, 159, 168, 169, 170, 171, 172, 195, 196, 197] (by decide +kernel) (by decide +kernel)
set_option maxRecDepth 20000 in
theorem gX6_read_X3_takeLeft : GoodIn wsX6_read (wsV RX6 209 RX3 yX3_takeLeft wsX3_takeLeft) := goodIn_app (goodIn_of _ (by decide +kernel)) ggX6_read_X3_takeLeft
set_option maxRecDepth 20000 in
theorem ggX6_read_X3_takeRight : GoodIn wsX6_read wsX3_takeRight := goodIn_r _ [163, 111, 110, 153, 152, 126, 127, 128, 31, 129, 33, 34, 35, 130, 123, 124, 125, 154, 29, 30, 32, 36, 37, 38, 39, 40, 41, 42, 155, 156, 157, 107, 158, 112, 159, 168, 169, 170, 171, 172, 195, 196, 197] (by decide +kernel) (by decide +kernel)
set_option maxRecDepth 20000 in
theorem gX6_read_X3_takeRight : GoodIn wsX6_read (wsV RX6 213 RX3 yX3_takeRight wsX3_takeRight) := goodIn_app (goodIn_of _ (by decide +kernel)) ggX6_read_X3_takeRight
theorem dX6_read_0 : decode cX6_read 0 = .ok (.iload_n 1, 1) := by decide +kernel
theorem dX6_read_1 : decode cX6_read 1 = .ok (.ifCond .lt 8, 3) := by decide +kernel
theorem dX6_read_4 : decode cX6_read 4 = .ok (.iload_n 1, 1) := by decide +kernel
theorem dX6_read_5 : decode cX6_read 5 = .ok (.iconst 1, 1) := by decide +kernel
theorem dX6_read_6 : decode cX6_read 6 = .ok (.if_icmp .le 6, 3) := by decide +kernel
theorem dX6_read_9 : decode cX6_read 9 = .ok (.ldc 33, 2) := by decide +kernel
theorem dX6_read_11 : decode cX6_read 11 = .ok (.ireturn, 1) := by decide +kernel
theorem dX6_read_12 : decode cX6_read 12 = .ok (.aload_n 0, 1) := by decide +kernel
theorem dX6_read_13 : decode cX6_read 13 = .ok (.getfield 10, 3) := by decide +kernel
theorem dX6_read_16 : decode cX6_read 16 = .ok (.getfield 52, 3) := by decide +kernel
theorem dX6_read_19 : decode cX6_read 19 = .ok (.getfield 56, 3) := by decide +kernel
theorem dX6_read_22 : decode cX6_read 22 = .ok (.ifCond .eq 6, 3) := by decide +kernel
theorem dX6_read_25 : decode cX6_read 25 = .ok (.ldc 93, 2) := by decide +kernel
theorem dX6_read_27 : decode cX6_read 27 = .ok (.ireturn, 1) := by decide +kernel
theorem dX6_read_28 : decode cX6_read 28 = .ok (.aload_n 0, 1) := by decide +kernel
theorem dX6_read_29 : decode cX6_read 29 = .ok (.getfield 29, 3) := by decide +kernel
theorem dX6_read_32 : decode cX6_read 32 = .ok (.invokevirtual 197, 3) := by decide +kernel
theorem dX6_read_35 : decode cX6_read 35 = .ok (.aload_n 0, 1) := by decide +kernel
theorem dX6_read_36 : decode cX6_read 36 = .ok (.getfield 29, 3) := by decide +kernel
theorem dX6_read_39 : decode cX6_read 39 = .ok (.getfield 200, 3) := by decide +kernel
theorem dX6_read_42 : decode cX6_read 42 = .ok (.ifCond .eq 6, 3) := by decide +kernel
theorem dX6_read_45 : decode cX6_read 45 = .ok (.ldc 93, 2) := by decide +kernel
theorem dX6_read_47 : decode cX6_read 47 = .ok (.ireturn, 1) := by decide +kernel
theorem dX6_read_48 : decode cX6_read 48 = .ok (.aload_n 0, 1) := by decide +kernel
theorem dX6_read_49 : decode cX6_read 49 = .ok (.getfield 22, 3) := by decide +kernel
theorem dX6_read_52 : decode cX6_read 52 = .ok (.aload_n 0, 1) := by decide +kernel
theorem dX6_read_53 : decode cX6_read 53 = .ok (.getfield 10, 3) := by decide +kernel
theorem dX6_read_56 : decode cX6_read 56 = .ok (.invokevirtual 34, 3) := by decide +kernel
theorem dX6_read_59 : decode cX6_read 59 = .ok (.iload_n 1, 1) := by decide +kernel
theorem dX6_read_60 : decode cX6_read 60 = .ok (.ifCond .ne 20, 3) := by decide +kernel
theorem dX6_read_63 : decode cX6_read 63 = .ok (.aload_n 0, 1) := by decide +kernel
theorem dX6_read_64 : decode cX6_read 64 = .ok (.getfield 10, 3) := by decide +kernel
theorem dX6_read_67 : decode cX6_read 67 = .ok (.aload_n 0, 1) := by decide +kernel
theorem dX6_read_68 : decode cX6_read 68 = .ok (.getfield 29, 3) := by decide +kernel
theorem dX6_read_71 : decode cX6_read 71 = .ok (.getfield 206, 3) := by decide +kernel
theorem dX6_read_74 : decode cX6_read 74 = .ok (.invokevirtual 209, 3) := by decide +kernel
theorem dX6_read_77 : decode cX6_read 77 = .ok (.goto 17, 3) := by decide +kernel
theorem dX6_read_80 : decode cX6_read 80 = .ok (.aload_n 0, 1) := by decide +kernel
theorem dX6_read_81 : decode cX6_read 81 = .ok (.getfield 10, 3) := by decide +kernel
theorem dX6_read_84 : decode cX6_read 84 = .ok (.aload_n 0, 1) := by decide +kernel
theorem dX6_read_85 : decode cX6_read 85 = .ok (.getfield 29, 3) := by decide +kernel
theorem dX6_read_88 : decode cX6_read 88 = .ok (.getfield 206, 3) := by decide +kernel
theorem dX6_read_91 : decode cX6_read 91 = .ok (.invokevirtual 213, 3) := by decide +kernel
theorem dX6_read_94 : decode cX6_read 94 = .ok (.aload_n 0, 1) := by decide +kernel
theorem dX6_read_95 : decode cX6_read 95 = .ok (.getfield 29, 3) := by decide +kernel
theorem dX6_read_98 : decode cX6_read 98 = .ok (.getfield 206, 3) := by decide +kernel
theorem dX6_read_101 : decode cX6_read 101 = .ok (.getfield 152, 3) := by decide +kernel
theorem dX6_read_104 : decode cX6_read 104 = .ok (.aload_n 0, 1) := by decide +kernel
theorem dX6_read_105 : decode cX6_read 105 = .ok (.getfield 29, 3) := by decide +kernel
theorem dX6_read_108 : decode cX6_read 108 = .ok (.getfield 206, 3) := by decide +kernel
theorem dX6_read_111 : decode cX6_read 111 = .ok (.getfield 155, 3) := by decide +kernel
theorem dX6_read_114 : decode cX6_read 114 = .ok (.imul, 1) := by decide +kernel
theorem dX6_read_115 : decode cX6_read 115 = .ok (.ireturn, 1) := by decide +kernel
theorem dX6_isLength_0 : decode cX6_isLength 0 = .ok (.iload_n 0, 1) := by decide +kernel
theorem dX6_isLength_1 : decode cX6_isLength 1 = .ok (.iconst 1, 1) := by decide +kernel
theorem dX6_isLength_2 : decode cX6_isLength 2 = .ok (.if_icmp .lt 13, 3) := by decide +kernel
theorem dX6_isLength_5 : decode cX6_isLength 5 = .ok (.iload_n 0, 1) := by decide +kernel
theorem dX6_isLength_6 : decode cX6_isLength 6 = .ok (.bipush 6, 2) := by decide +kernel
theorem dX6_isLength_8 : decode cX6_isLength 8 = .ok (.if_icmp .gt 7, 3) := by decide +kernel
theorem dX6_isLength_11 : decode cX6_isLength 11 = .ok (.iconst 1, 1) := by decide +kernel
theorem dX6_isLength_12 : decode cX6_isLength 12 = .ok (.goto 4, 3) := by decide +kernel
theorem dX6_isLength_15 : decode cX6_isLength 15 = .ok (.iconst 0, 1) := by decide +kernel
theorem dX6_isLength_16 : decode cX6_isLength 16 = .ok (.ireturn, 1) := by decide +kernel
theorem dX6_orNotFound_0 : decode cX6_orNotFound 0 = .ok (.iload_n 0, 1) := by decide +kernel
theorem dX6_orNotFound_1 : decode cX6_orNotFound 1 = .ok (.ldc 216, 2) := by decide +kernel
theorem dX6_orNotFound_3 : decode cX6_orNotFound 3 = .ok (.if_icmp .ne 8, 3) := by decide +kernel
theorem dX6_orNotFound_6 : decode cX6_orNotFound 6 = .ok (.ldc 161, 2) := by decide +kernel
theorem dX6_orNotFound_8 : decode cX6_orNotFound 8 = .ok (.goto 4, 3) := by decide +kernel
theorem dX6_orNotFound_11 : decode cX6_orNotFound 11 = .ok (.iload_n 0, 1) := by decide +kernel
theorem dX6_orNotFound_12 : decode cX6_orNotFound 12 = .ok (.ireturn, 1) := by decide +kernel
set_option maxRecDepth 20000 in
theorem ggX6_setEntry_X1_has : GoodIn wsX6_setEntry wsX1_has := goodIn_r _ [11, 12, 13, 117, 118, 119] (by decide +kernel) (by decide +kernel)
set_option maxRecDepth 20000 in
theorem gX6_setEntry_X1_has : GoodIn wsX6_setEntry (wsV RX6 129 RX1 yX1_has wsX1_has) := goodIn_app (goodIn_of _ (by decide +kernel)) ggX6_setEntry_X1_has
set_option maxRecDepth 20000 in
theorem ggX6_setEntry_X0_remember : GoodIn wsX6_setEntry wsX0_remember := goodIn_r _ [18, 19, 20, 21, 22, 23, 17, 24, 25, 26, 27, 28, 29, 30, 31, 32, 33, 34, 35, 36, 37, 38, 39, 40, 41, 42, 43, 44, 45, 46, 47, 48, 49, 10, 50, 12, 13, 51, 52, 53, 54, 55, 56, 57, 58, 59, 60, 61, 62, 63, 64, 65, 66, 67, 68, 69, 120, 121, 101, 102, 103, 104, 105, 122, 123, 124, 117, 118, 119, 106, 107, 108, 109, 110, 111, 112, 113, 114, 115, 116] (by decide +kernel) (by decide +kernel)
set_option maxRecDepth 20000 in
theorem gX6_setEntry_X0_remember : GoodIn wsX6_setEntry (wsV RX6 34 RX0 yX0_remember wsX0_remember) := goodIn_app (goodIn_of _ (by decide +kernel)) ggX6_setEntry_X0_remember
set_option maxRecDepth 20000 in
theorem ggX6_setEntry_X1_at : GoodIn wsX6_setEntry wsX1_at := goodIn_r _ [73, 12, 13, 51, 117, 118, 119] (by decide +kernel) (by decide +kernel)
set_option maxRecDepth 20000 in
theorem gX6_setEntry_X1_at : GoodIn wsX6_setEntry (wsV RX6 130 RX1 yX1_at wsX1_at) := goodIn_app (goodIn_of _ (by decide +kernel)) ggX6_setEntry_X1_at
set_option maxRecDepth 20000 in
theorem ggX6_setEntry_X1_put : GoodIn wsX6_setEntry wsX1_put := goodIn_r _ [77, 51, 78, 8, 9, 10, 11, 12, 13, 117, 118, 119] (by decide +kernel) (by decide +kernel)
set_option maxRecDepth 20000 in
theorem gX6_setEntry_X1_put : GoodIn wsX6_setEntry (wsV RX6 217 RX1 yX1_put wsX1_put) := goodIn_app (goodIn_of _ (by decide +kernel)) ggX6_setEntry_X1_put
set_option maxRecDepth 20000 in
theorem ggX6_setEntry_X3_forgetResults : GoodIn wsX6_setEntry wsX3_forgetResults := goodIn_r _ [82, 33, 31, 83, 32, 84, 85, 86, 87, 88, 10, 89, 12, 13, 51, 90, 91, 92, 93, 94, 95, 96, 101, 102, 103, 104, 105, 117, 118, 119] (by decide +kernel) (by decide +kernel)
set_option maxRecDepth 20000 in
theorem gX6_setEntry_X3_forgetResults : GoodIn wsX6_setEntry (wsV RX6 62 RX3 yX3_forgetResults wsX3_forgetResults) := goodIn_app (goodIn_of _ (by decide +kernel)) ggX6_setEntry_X3_forgetResults
theorem dX6_setEntry_0 : decode cX6_setEntry 0 = .ok (.aload_n 1, 1) := by decide +kernel
theorem dX6_setEntry_1 : decode cX6_setEntry 1 = .ok (.iload_n 2, 1) := by decide +kernel
theorem dX6_setEntry_2 : decode cX6_setEntry 2 = .ok (.iload_n 3, 1) := by decide +kernel
theorem dX6_setEntry_3 : decode cX6_setEntry 3 = .ok (.invokevirtual 129, 3) := by decide +kernel
theorem dX6_setEntry_6 : decode cX6_setEntry 6 = .ok (.ifCond .eq 17, 3) := by decide +kernel
theorem dX6_setEntry_9 : decode cX6_setEntry 9 = .ok (.iload 4, 2) := by decide +kernel
theorem dX6_setEntry_11 : decode cX6_setEntry 11 = .ok (.bipush (-99), 2) := by decide +kernel
theorem dX6_setEntry_13 : decode cX6_setEntry 13 = .ok (.if_icmp .lt 10, 3) := by decide +kernel
theorem dX6_setEntry_16 : decode cX6_setEntry 16 = .ok (.iload 4, 2) := by decide +kernel
theorem dX6_setEntry_18 : decode cX6_setEntry 18 = .ok (.bipush 99, 2) := by decide +kernel
theorem dX6_setEntry_20 : decode cX6_setEntry 20 = .ok (.if_icmp .le 6, 3) := by decide +kernel
theorem dX6_setEntry_23 : decode cX6_setEntry 23 = .ok (.ldc 33, 2) := by decide +kernel
theorem dX6_setEntry_25 : decode cX6_setEntry 25 = .ok (.ireturn, 1) := by decide +kernel
theorem dX6_setEntry_26 : decode cX6_setEntry 26 = .ok (.aload_n 0, 1) := by decide +kernel
theorem dX6_setEntry_27 : decode cX6_setEntry 27 = .ok (.getfield 10, 3) := by decide +kernel
theorem dX6_setEntry_30 : decode cX6_setEntry 30 = .ok (.getfield 52, 3) := by decide +kernel
theorem dX6_setEntry_33 : decode cX6_setEntry 33 = .ok (.getfield 56, 3) := by decide +kernel
theorem dX6_setEntry_36 : decode cX6_setEntry 36 = .ok (.ifCond .eq 6, 3) := by decide +kernel
theorem dX6_setEntry_39 : decode cX6_setEntry 39 = .ok (.ldc 93, 2) := by decide +kernel
theorem dX6_setEntry_41 : decode cX6_setEntry 41 = .ok (.ireturn, 1) := by decide +kernel
theorem dX6_setEntry_42 : decode cX6_setEntry 42 = .ok (.aload_n 0, 1) := by decide +kernel
theorem dX6_setEntry_43 : decode cX6_setEntry 43 = .ok (.getfield 22, 3) := by decide +kernel
theorem dX6_setEntry_46 : decode cX6_setEntry 46 = .ok (.aload_n 0, 1) := by decide +kernel
theorem dX6_setEntry_47 : decode cX6_setEntry 47 = .ok (.getfield 10, 3) := by decide +kernel
theorem dX6_setEntry_50 : decode cX6_setEntry 50 = .ok (.invokevirtual 34, 3) := by decide +kernel
theorem dX6_setEntry_53 : decode cX6_setEntry 53 = .ok (.aload_n 1, 1) := by decide +kernel
theorem dX6_setEntry_54 : decode cX6_setEntry 54 = .ok (.iload_n 2, 1) := by decide +kernel
theorem dX6_setEntry_55 : decode cX6_setEntry 55 = .ok (.iload_n 3, 1) := by decide +kernel
theorem dX6_setEntry_56 : decode cX6_setEntry 56 = .ok (.invokevirtual 130, 3) := by decide +kernel
theorem dX6_setEntry_59 : decode cX6_setEntry 59 = .ok (.istore 5, 2) := by decide +kernel
theorem dX6_setEntry_61 : decode cX6_setEntry 61 = .ok (.aload_n 1, 1) := by decide +kernel
theorem dX6_setEntry_62 : decode cX6_setEntry 62 = .ok (.iload_n 2, 1) := by decide +kernel
theorem dX6_setEntry_63 : decode cX6_setEntry 63 = .ok (.iload_n 3, 1) := by decide +kernel
theorem dX6_setEntry_64 : decode cX6_setEntry 64 = .ok (.iload 4, 2) := by decide +kernel
theorem dX6_setEntry_66 : decode cX6_setEntry 66 = .ok (.invokevirtual 217, 3) := by decide +kernel
theorem dX6_setEntry_69 : decode cX6_setEntry 69 = .ok (.aload_n 0, 1) := by decide +kernel
theorem dX6_setEntry_70 : decode cX6_setEntry 70 = .ok (.getfield 10, 3) := by decide +kernel
theorem dX6_setEntry_73 : decode cX6_setEntry 73 = .ok (.invokevirtual 62, 3) := by decide +kernel
theorem dX6_setEntry_76 : decode cX6_setEntry 76 = .ok (.iload 5, 2) := by decide +kernel
theorem dX6_setEntry_78 : decode cX6_setEntry 78 = .ok (.ireturn, 1) := by decide +kernel
set_option maxRecDepth 20000 in
theorem ggX6_ofCellAtWork_X5_sumOf : GoodIn wsX6_ofCellAtWork wsX5_sumOf := goodIn_r _ [7, 8, 9, 10, 6, 11, 43, 44, 45, 46, 47, 48, 49, 50, 51, 52, 53] (by decide +kernel) (by decide +kernel)
set_option maxRecDepth 20000 in
theorem gX6_ofCellAtWork_X5_sumOf : GoodIn wsX6_ofCellAtWork (wsV RX6 220 RX5 yX5_sumOf wsX5_sumOf) := goodIn_app (goodIn_of _ (by decide +kernel)) ggX6_ofCellAtWork_X5_sumOf
set_option maxRecDepth 20000 in
theorem ggX6_ofCellAtWork_X5_rightwardOf : GoodIn wsX6_ofCellAtWork wsX5_rightwardOf := goodIn_r _ [15, 16, 17, 9, 10, 6, 11, 43, 44, 45, 46, 47, 48, 49, 50, 51, 52, 53] (by decide +kernel) (by decide +kernel)
set_option maxRecDepth 20000 in
theorem gX6_ofCellAtWork_X5_rightwardOf : GoodIn wsX6_ofCellAtWork (wsV RX6 223 RX5 yX5_rightwardOf wsX5_rightwardOf) := goodIn_app (goodIn_of _ (by decide +kernel)) ggX6_ofCellAtWork_X5_rightwardOf
set_option maxRecDepth 20000 in
theorem ggX6_ofCellAtWork_X6_orNotFound : GoodIn wsX6_ofCellAtWork wsX6_orNotFound := goodIn_r _ [21, 22, 23] (by decide +kernel) (by decide +kernel)
set_option maxRecDepth 20000 in
theorem gX6_ofCellAtWork_X6_orNotFound : GoodIn wsX6_ofCellAtWork (va_wsS RX6 149 yX6_orNotFound wsX6_orNotFound) := goodIn_app (goodIn_of _ (by decide +kernel)) ggX6_ofCellAtWork_X6_orNotFound
set_option maxRecDepth 20000 in
theorem ggX6_ofCellAtWork_X5_downwardOf : GoodIn wsX6_ofCellAtWork wsX5_downwardOf := goodIn_r _ [27, 28, 17, 9, 10, 6, 11, 43, 44, 45, 46, 47, 48, 49, 50, 51, 52, 53] (by decide +kernel) (by decide +kernel)
set_option maxRecDepth 20000 in
theorem gX6_ofCellAtWork_X5_downwardOf : GoodIn wsX6_ofCellAtWork (wsV RX6 226 RX5 yX5_downwardOf wsX5_downwardOf) := goodIn_app (goodIn_of _ (by decide +kernel)) ggX6_ofCellAtWork_X5_downwardOf
set_option maxRecDepth 20000 in
theorem ggX6_ofCellAtWork_X5_meetingsOf : GoodIn wsX6_ofCellAtWork wsX5_meetingsOf := goodIn_r _ [32, 33, 9, 10, 6, 11, 43, 44, 45, 46, 47, 48, 49, 50, 51, 52, 53] (by decide +kernel) (by decide +kernel)
set_option maxRecDepth 20000 in
theorem gX6_ofCellAtWork_X5_meetingsOf : GoodIn wsX6_ofCellAtWork (wsV RX6 229 RX5 yX5_meetingsOf wsX5_meetingsOf) := goodIn_app (goodIn_of _ (by decide +kernel)) ggX6_ofCellAtWork_X5_meetingsOf
theorem dX6_ofCellAtWork_0 : decode cX6_ofCellAtWork 0 = .ok (.iload_n 2, 1) := by decide +kernel
theorem dX6_ofCellAtWork_1 : decode cX6_ofCellAtWork 1 = .ok (.tableswitch 69 0 2 #[27, 39, 54], 27) := by decide +kernel
theorem dX6_ofCellAtWork_28 : decode cX6_ofCellAtWork 28 = .ok (.aload_n 0, 1) := by decide +kernel
theorem dX6_ofCellAtWork_29 : decode cX6_ofCellAtWork 29 = .ok (.getfield 10, 3) := by decide +kernel
theorem dX6_ofCellAtWork_32 : decode cX6_ofCellAtWork 32 = .ok (.getfield 52, 3) := by decide +kernel
theorem dX6_ofCellAtWork_35 : decode cX6_ofCellAtWork 35 = .ok (.iload_n 1, 1) := by decide +kernel
theorem dX6_ofCellAtWork_36 : decode cX6_ofCellAtWork 36 = .ok (.invokevirtual 220, 3) := by decide +kernel
theorem dX6_ofCellAtWork_39 : decode cX6_ofCellAtWork 39 = .ok (.ireturn, 1) := by decide +kernel
theorem dX6_ofCellAtWork_40 : decode cX6_ofCellAtWork 40 = .ok (.aload_n 0, 1) := by decide +kernel
theorem dX6_ofCellAtWork_41 : decode cX6_ofCellAtWork 41 = .ok (.getfield 10, 3) := by decide +kernel
theorem dX6_ofCellAtWork_44 : decode cX6_ofCellAtWork 44 = .ok (.getfield 52, 3) := by decide +kernel
theorem dX6_ofCellAtWork_47 : decode cX6_ofCellAtWork 47 = .ok (.iload_n 1, 1) := by decide +kernel
theorem dX6_ofCellAtWork_48 : decode cX6_ofCellAtWork 48 = .ok (.invokevirtual 223, 3) := by decide +kernel
theorem dX6_ofCellAtWork_51 : decode cX6_ofCellAtWork 51 = .ok (.invokestatic 149, 3) := by decide +kernel
theorem dX6_ofCellAtWork_54 : decode cX6_ofCellAtWork 54 = .ok (.ireturn, 1) := by decide +kernel
theorem dX6_ofCellAtWork_55 : decode cX6_ofCellAtWork 55 = .ok (.aload_n 0, 1) := by decide +kernel
theorem dX6_ofCellAtWork_56 : decode cX6_ofCellAtWork 56 = .ok (.getfield 10, 3) := by decide +kernel
theorem dX6_ofCellAtWork_59 : decode cX6_ofCellAtWork 59 = .ok (.getfield 52, 3) := by decide +kernel
theorem dX6_ofCellAtWork_62 : decode cX6_ofCellAtWork 62 = .ok (.iload_n 1, 1) := by decide +kernel
theorem dX6_ofCellAtWork_63 : decode cX6_ofCellAtWork 63 = .ok (.invokevirtual 226, 3) := by decide +kernel
theorem dX6_ofCellAtWork_66 : decode cX6_ofCellAtWork 66 = .ok (.invokestatic 149, 3) := by decide +kernel
theorem dX6_ofCellAtWork_69 : decode cX6_ofCellAtWork 69 = .ok (.ireturn, 1) := by decide +kernel
theorem dX6_ofCellAtWork_70 : decode cX6_ofCellAtWork 70 = .ok (.aload_n 0, 1) := by decide +kernel
theorem dX6_ofCellAtWork_71 : decode cX6_ofCellAtWork 71 = .ok (.getfield 10, 3) := by decide +kernel
theorem dX6_ofCellAtWork_74 : decode cX6_ofCellAtWork 74 = .ok (.getfield 52, 3) := by decide +kernel
theorem dX6_ofCellAtWork_77 : decode cX6_ofCellAtWork 77 = .ok (.iload_n 1, 1) := by decide +kernel
theorem dX6_ofCellAtWork_78 : decode cX6_ofCellAtWork 78 = .ok (.invokevirtual 229, 3) := by decide +kernel
theorem dX6_ofCellAtWork_81 : decode cX6_ofCellAtWork 81 = .ok (.ireturn, 1) := by decide +kernel
