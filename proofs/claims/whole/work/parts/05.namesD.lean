theorem dX7_drain_16 : decode cX7_drain 16 = .ok (.ldc 58, 2) := by decide +kernel
theorem dX7_drain_18 : decode cX7_drain 18 = .ok (.ireturn, 1) := by decide +kernel
theorem dX7_drain_19 : decode cX7_drain 19 = .ok (.aload_n 0, 1) := by decide +kernel
theorem dX7_drain_20 : decode cX7_drain 20 = .ok (.invokevirtual 38, 3) := by decide +kernel
theorem dX7_drain_23 : decode cX7_drain 23 = .ok (.aload_n 0, 1) := by decide +kernel
theorem dX7_drain_24 : decode cX7_drain 24 = .ok (.invokevirtual 108, 3) := by decide +kernel
theorem dX7_drain_27 : decode cX7_drain 27 = .ok (.aload_n 0, 1) := by decide +kernel
theorem dX7_drain_28 : decode cX7_drain 28 = .ok (.invokevirtual 111, 3) := by decide +kernel
theorem dX7_drain_31 : decode cX7_drain 31 = .ok (.ireturn, 1) := by decide +kernel
set_option maxRecDepth 20000 in
theorem ggX7_doesAll_X7_along : GoodIn wsX7_doesAll wsX7_along := goodIn_r _ [6, 1, 61, 62, 63, 64, 65, 66, 67, 68, 69, 70, 71, 72, 73, 74, 75, 76] (by decide +kernel) (by decide +kernel)
set_option maxRecDepth 20000 in
theorem gX7_doesAll_X7_along : GoodIn wsX7_doesAll (wsV RX7 29 RX7 yX7_along wsX7_along) := goodIn_app (goodIn_of _ (by decide +kernel)) ggX7_doesAll_X7_along
set_option maxRecDepth 20000 in
theorem ggX7_doesAll_X7_begins : GoodIn wsX7_doesAll wsX7_begins := goodIn_r _ [10, 1, 11, 12, 13, 5, 14, 61, 62, 63, 64, 65, 66, 67, 68, 69, 70, 71, 72, 73, 74, 75, 76] (by decide +kernel) (by decide +kernel)
set_option maxRecDepth 20000 in
theorem gX7_doesAll_X7_begins : GoodIn wsX7_doesAll (wsV RX7 69 RX7 yX7_begins wsX7_begins) := goodIn_app (goodIn_of _ (by decide +kernel)) ggX7_doesAll_X7_begins
set_option maxRecDepth 20000 in
theorem ggX7_doesAll_X7_isDone : GoodIn wsX7_doesAll wsX7_isDone := goodIn_r _ [18, 1, 19, 20, 21, 5, 22, 23, 24, 25, 26, 27, 28, 29, 30, 61, 62, 63, 64, 65, 66, 67, 68, 69, 70, 71, 72, 73, 74, 75, 76] (by decide +kernel) (by decide +kernel)
set_option maxRecDepth 20000 in
theorem gX7_doesAll_X7_isDone : GoodIn wsX7_doesAll (wsV RX7 101 RX7 yX7_isDone wsX7_isDone) := goodIn_app (goodIn_of _ (by decide +kernel)) ggX7_doesAll_X7_isDone
set_option maxRecDepth 20000 in
theorem ggX7_doesAll_X7_goes : GoodIn wsX7_doesAll wsX7_goes := goodIn_r _ [34, 35, 36, 1, 37, 38, 23, 24, 25, 5, 26, 27, 28, 29, 30, 39, 40, 41, 42, 43, 44, 45, 46, 47, 48, 49, 50, 51, 52, 53, 54, 55, 56, 61, 62, 63, 64, 65, 66, 67, 68, 69, 70, 71, 72, 73, 74, 75, 76] (by decide +kernel) (by decide +kernel)
set_option maxRecDepth 20000 in
theorem gX7_doesAll_X7_goes : GoodIn wsX7_doesAll (wsV RX7 105 RX7 yX7_goes wsX7_goes) := goodIn_app (goodIn_of _ (by decide +kernel)) ggX7_doesAll_X7_goes
set_option maxRecDepth 20000 in
theorem ggX7_doesAll_X7_drains : GoodIn wsX7_doesAll wsX7_drains := goodIn_r _ [60, 1, 23, 24, 25, 5, 26, 27, 28, 29, 30, 46, 47, 48, 61, 62, 63, 64, 65, 66, 67, 68, 69, 70, 71, 72, 73, 74, 75, 76] (by decide +kernel) (by decide +kernel)
set_option maxRecDepth 20000 in
theorem gX7_doesAll_X7_drains : GoodIn wsX7_doesAll (wsV RX7 108 RX7 yX7_drains wsX7_drains) := goodIn_app (goodIn_of _ (by decide +kernel)) ggX7_doesAll_X7_drains
theorem dX7_doesAll_0 : decode cX7_doesAll 0 = .ok (.iconst 0, 1) := by decide +kernel
theorem dX7_doesAll_1 : decode cX7_doesAll 1 = .ok (.istore_n 1, 1) := by decide +kernel
theorem dX7_doesAll_2 : decode cX7_doesAll 2 = .ok (.iconst 0, 1) := by decide +kernel
theorem dX7_doesAll_3 : decode cX7_doesAll 3 = .ok (.istore_n 2, 1) := by decide +kernel
theorem dX7_doesAll_4 : decode cX7_doesAll 4 = .ok (.iload_n 2, 1) := by decide +kernel
theorem dX7_doesAll_5 : decode cX7_doesAll 5 = .ok (.aload_n 0, 1) := by decide +kernel
theorem dX7_doesAll_6 : decode cX7_doesAll 6 = .ok (.aload_n 0, 1) := by decide +kernel
theorem dX7_doesAll_7 : decode cX7_doesAll 7 = .ok (.getfield 7, 3) := by decide +kernel
theorem dX7_doesAll_10 : decode cX7_doesAll 10 = .ok (.iconst 1, 1) := by decide +kernel
theorem dX7_doesAll_11 : decode cX7_doesAll 11 = .ok (.iaload, 1) := by decide +kernel
theorem dX7_doesAll_12 : decode cX7_doesAll 12 = .ok (.invokevirtual 29, 3) := by decide +kernel
theorem dX7_doesAll_15 : decode cX7_doesAll 15 = .ok (.if_icmp .ge 58, 3) := by decide +kernel
theorem dX7_doesAll_18 : decode cX7_doesAll 18 = .ok (.iconst 0, 1) := by decide +kernel
theorem dX7_doesAll_19 : decode cX7_doesAll 19 = .ok (.istore_n 3, 1) := by decide +kernel
theorem dX7_doesAll_20 : decode cX7_doesAll 20 = .ok (.iload_n 3, 1) := by decide +kernel
theorem dX7_doesAll_21 : decode cX7_doesAll 21 = .ok (.aload_n 0, 1) := by decide +kernel
theorem dX7_doesAll_22 : decode cX7_doesAll 22 = .ok (.aload_n 0, 1) := by decide +kernel
theorem dX7_doesAll_23 : decode cX7_doesAll 23 = .ok (.getfield 7, 3) := by decide +kernel
theorem dX7_doesAll_26 : decode cX7_doesAll 26 = .ok (.iconst 3, 1) := by decide +kernel
theorem dX7_doesAll_27 : decode cX7_doesAll 27 = .ok (.iaload, 1) := by decide +kernel
theorem dX7_doesAll_28 : decode cX7_doesAll 28 = .ok (.invokevirtual 29, 3) := by decide +kernel
theorem dX7_doesAll_31 : decode cX7_doesAll 31 = .ok (.if_icmp .ge 36, 3) := by decide +kernel
theorem dX7_doesAll_34 : decode cX7_doesAll 34 = .ok (.aload_n 0, 1) := by decide +kernel
theorem dX7_doesAll_35 : decode cX7_doesAll 35 = .ok (.iload_n 2, 1) := by decide +kernel
theorem dX7_doesAll_36 : decode cX7_doesAll 36 = .ok (.iload_n 3, 1) := by decide +kernel
theorem dX7_doesAll_37 : decode cX7_doesAll 37 = .ok (.invokevirtual 69, 3) := by decide +kernel
theorem dX7_doesAll_40 : decode cX7_doesAll 40 = .ok (.aload_n 0, 1) := by decide +kernel
theorem dX7_doesAll_41 : decode cX7_doesAll 41 = .ok (.invokevirtual 101, 3) := by decide +kernel
theorem dX7_doesAll_44 : decode cX7_doesAll 44 = .ok (.ifCond .ne 13, 3) := by decide +kernel
theorem dX7_doesAll_47 : decode cX7_doesAll 47 = .ok (.aload_n 0, 1) := by decide +kernel
theorem dX7_doesAll_48 : decode cX7_doesAll 48 = .ok (.invokevirtual 105, 3) := by decide +kernel
theorem dX7_doesAll_51 : decode cX7_doesAll 51 = .ok (.iinc 1 1, 3) := by decide +kernel
theorem dX7_doesAll_54 : decode cX7_doesAll 54 = .ok (.goto (-14), 3) := by decide +kernel
theorem dX7_doesAll_57 : decode cX7_doesAll 57 = .ok (.aload_n 0, 1) := by decide +kernel
theorem dX7_doesAll_58 : decode cX7_doesAll 58 = .ok (.invokevirtual 108, 3) := by decide +kernel
theorem dX7_doesAll_61 : decode cX7_doesAll 61 = .ok (.iinc 3 1, 3) := by decide +kernel
theorem dX7_doesAll_64 : decode cX7_doesAll 64 = .ok (.goto (-44), 3) := by decide +kernel
theorem dX7_doesAll_67 : decode cX7_doesAll 67 = .ok (.iinc 2 1, 3) := by decide +kernel
theorem dX7_doesAll_70 : decode cX7_doesAll 70 = .ok (.goto (-66), 3) := by decide +kernel
theorem dX7_doesAll_73 : decode cX7_doesAll 73 = .ok (.iload_n 1, 1) := by decide +kernel
theorem dX7_doesAll_74 : decode cX7_doesAll 74 = .ok (.ireturn, 1) := by decide +kernel
set_option maxRecDepth 20000 in
theorem ggX7_all_X7_changes : GoodIn wsX7_all wsX7_changes := goodIn_r _ [7, 8, 9, 1, 72, 73, 74, 75, 76, 77, 78, 79, 80, 81, 82, 83, 84, 85, 86, 87] (by decide +kernel) (by decide +kernel)
set_option maxRecDepth 20000 in
theorem gX7_all_X7_changes : GoodIn wsX7_all (wsV RX7 38 RX7 yX7_changes wsX7_changes) := goodIn_app (goodIn_of _ (by decide +kernel)) ggX7_all_X7_changes
set_option maxRecDepth 20000 in
theorem ggX7_all_X7_doesAll : GoodIn wsX7_all wsX7_doesAll := goodIn_r _ [13, 1, 14, 15, 16, 6, 17, 18, 19, 20, 21, 22, 23, 24, 25, 26, 27, 28, 29, 30, 31, 32, 33, 34, 35, 36, 37, 38, 39, 40, 41, 42, 43, 44, 45, 46, 47, 48, 49, 50, 51, 52, 53, 54, 55, 56, 57, 58, 59, 60, 61, 62, 63, 64, 65, 66, 67, 68, 69, 70, 71, 72, 73, 74, 75, 76, 77, 78, 79, 80, 81, 82, 83, 84, 85, 86, 87] (by decide +kernel) (by decide +kernel)
set_option maxRecDepth 20000 in
theorem gX7_all_X7_doesAll : GoodIn wsX7_all (wsV RX7 114 RX7 yX7_doesAll wsX7_doesAll) := goodIn_app (goodIn_of _ (by decide +kernel)) ggX7_all_X7_doesAll
theorem dX7_all_0 : decode cX7_all 0 = .ok (.aload_n 0, 1) := by decide +kernel
theorem dX7_all_1 : decode cX7_all 1 = .ok (.getfield 7, 3) := by decide +kernel
theorem dX7_all_4 : decode cX7_all 4 = .ok (.iconst 5, 1) := by decide +kernel
theorem dX7_all_5 : decode cX7_all 5 = .ok (.iaload, 1) := by decide +kernel
theorem dX7_all_6 : decode cX7_all 6 = .ok (.iconst 1, 1) := by decide +kernel
theorem dX7_all_7 : decode cX7_all 7 = .ok (.if_icmp .ne 6, 3) := by decide +kernel
theorem dX7_all_10 : decode cX7_all 10 = .ok (.ldc 58, 2) := by decide +kernel
theorem dX7_all_12 : decode cX7_all 12 = .ok (.ireturn, 1) := by decide +kernel
theorem dX7_all_13 : decode cX7_all 13 = .ok (.aload_n 0, 1) := by decide +kernel
theorem dX7_all_14 : decode cX7_all 14 = .ok (.invokevirtual 38, 3) := by decide +kernel
theorem dX7_all_17 : decode cX7_all 17 = .ok (.aload_n 0, 1) := by decide +kernel
theorem dX7_all_18 : decode cX7_all 18 = .ok (.invokevirtual 114, 3) := by decide +kernel
theorem dX7_all_21 : decode cX7_all 21 = .ok (.ireturn, 1) := by decide +kernel
set_option maxRecDepth 20000 in
theorem ggX7_entry_X7_isEntry : GoodIn wsX7_entry wsX7_isEntry := goodIn_r _ [7, 8, 9, 6, 10, 11, 12, 13, 14, 1, 15, 16, 17, 18, 19, 20, 21, 22, 23, 24, 25, 26, 27, 28, 29, 30, 31, 32, 33, 34] (by decide +kernel) (by decide +kernel)
set_option maxRecDepth 20000 in
theorem gX7_entry_X7_isEntry : GoodIn wsX7_entry (wsV RX7 55 RX7 yX7_isEntry wsX7_isEntry) := goodIn_app (goodIn_of _ (by decide +kernel)) ggX7_entry_X7_isEntry
theorem dX7_entry_0 : decode cX7_entry 0 = .ok (.aload_n 0, 1) := by decide +kernel
theorem dX7_entry_1 : decode cX7_entry 1 = .ok (.iload_n 1, 1) := by decide +kernel
theorem dX7_entry_2 : decode cX7_entry 2 = .ok (.iload_n 2, 1) := by decide +kernel
theorem dX7_entry_3 : decode cX7_entry 3 = .ok (.iload_n 3, 1) := by decide +kernel
theorem dX7_entry_4 : decode cX7_entry 4 = .ok (.invokevirtual 55, 3) := by decide +kernel
theorem dX7_entry_7 : decode cX7_entry 7 = .ok (.ifCond .eq 25, 3) := by decide +kernel
theorem dX7_entry_10 : decode cX7_entry 10 = .ok (.aload_n 0, 1) := by decide +kernel
theorem dX7_entry_11 : decode cX7_entry 11 = .ok (.getfield 7, 3) := by decide +kernel
theorem dX7_entry_14 : decode cX7_entry 14 = .ok (.bipush 9, 2) := by decide +kernel
theorem dX7_entry_16 : decode cX7_entry 16 = .ok (.bipush 36, 2) := by decide +kernel
theorem dX7_entry_18 : decode cX7_entry 18 = .ok (.iload_n 1, 1) := by decide +kernel
theorem dX7_entry_19 : decode cX7_entry 19 = .ok (.imul, 1) := by decide +kernel
theorem dX7_entry_20 : decode cX7_entry 20 = .ok (.iadd, 1) := by decide +kernel
theorem dX7_entry_21 : decode cX7_entry 21 = .ok (.bipush 6, 2) := by decide +kernel
theorem dX7_entry_23 : decode cX7_entry 23 = .ok (.iload_n 2, 1) := by decide +kernel
theorem dX7_entry_24 : decode cX7_entry 24 = .ok (.imul, 1) := by decide +kernel
theorem dX7_entry_25 : decode cX7_entry 25 = .ok (.iadd, 1) := by decide +kernel
theorem dX7_entry_26 : decode cX7_entry 26 = .ok (.iload_n 3, 1) := by decide +kernel
theorem dX7_entry_27 : decode cX7_entry 27 = .ok (.iadd, 1) := by decide +kernel
theorem dX7_entry_28 : decode cX7_entry 28 = .ok (.iaload, 1) := by decide +kernel
theorem dX7_entry_29 : decode cX7_entry 29 = .ok (.goto 5, 3) := by decide +kernel
theorem dX7_entry_32 : decode cX7_entry 32 = .ok (.ldc 37, 2) := by decide +kernel
theorem dX7_entry_34 : decode cX7_entry 34 = .ok (.ireturn, 1) := by decide +kernel
set_option maxRecDepth 20000 in
theorem ggX7_cellOf_X7_in : GoodIn wsX7_cellOf wsX7_in := goodIn_r _ [8] (by decide +kernel) (by decide +kernel)
set_option maxRecDepth 20000 in
theorem gX7_cellOf_X7_in : GoodIn wsX7_cellOf (va_wsS RX7 33 yX7_in wsX7_in) := goodIn_app (goodIn_of _ (by decide +kernel)) ggX7_cellOf_X7_in
set_option maxRecDepth 20000 in
theorem ggX7_cellOf_X7_placeOf : GoodIn wsX7_cellOf wsX7_placeOf := goodIn_r _ [12, 1, 20, 21, 22, 23, 24, 25, 26, 27, 28, 29, 30, 31, 32, 33, 34, 35] (by decide +kernel) (by decide +kernel)
set_option maxRecDepth 20000 in
theorem gX7_cellOf_X7_placeOf : GoodIn wsX7_cellOf (wsV RX7 75 RX7 yX7_placeOf wsX7_placeOf) := goodIn_app (goodIn_of _ (by decide +kernel)) ggX7_cellOf_X7_placeOf
set_option maxRecDepth 20000 in
theorem ggX7_cellOf_X7_faultOf : GoodIn wsX7_cellOf wsX7_faultOf := goodIn_r _ [16, 1, 9, 10, 11, 7, 12, 20, 21, 22, 23, 24, 25, 26, 27, 28, 29, 30, 31, 32, 33, 34, 35] (by decide +kernel) (by decide +kernel)
set_option maxRecDepth 20000 in
theorem gX7_cellOf_X7_faultOf : GoodIn wsX7_cellOf (wsV RX7 98 RX7 yX7_faultOf wsX7_faultOf) := goodIn_app (goodIn_of _ (by decide +kernel)) ggX7_cellOf_X7_faultOf
set_option maxRecDepth 20000 in
theorem ggX7_cellOf_X7_cell : GoodIn wsX7_cellOf wsX7_cell := goodIn_r _ [19] (by decide +kernel) (by decide +kernel)
set_option maxRecDepth 20000 in
theorem gX7_cellOf_X7_cell : GoodIn wsX7_cellOf (va_wsS RX7 78 yX7_cell wsX7_cell) := goodIn_app (goodIn_of _ (by decide +kernel)) ggX7_cellOf_X7_cell
theorem dX7_cellOf_0 : decode cX7_cellOf 0 = .ok (.iload_n 1, 1) := by decide +kernel
theorem dX7_cellOf_1 : decode cX7_cellOf 1 = .ok (.iconst 0, 1) := by decide +kernel
theorem dX7_cellOf_2 : decode cX7_cellOf 2 = .ok (.aload_n 0, 1) := by decide +kernel
theorem dX7_cellOf_3 : decode cX7_cellOf 3 = .ok (.getfield 7, 3) := by decide +kernel
theorem dX7_cellOf_6 : decode cX7_cellOf 6 = .ok (.iconst 0, 1) := by decide +kernel
theorem dX7_cellOf_7 : decode cX7_cellOf 7 = .ok (.iaload, 1) := by decide +kernel
theorem dX7_cellOf_8 : decode cX7_cellOf 8 = .ok (.iconst 1, 1) := by decide +kernel
theorem dX7_cellOf_9 : decode cX7_cellOf 9 = .ok (.isub, 1) := by decide +kernel
theorem dX7_cellOf_10 : decode cX7_cellOf 10 = .ok (.invokestatic 33, 3) := by decide +kernel
theorem dX7_cellOf_13 : decode cX7_cellOf 13 = .ok (.ifCond .eq 28, 3) := by decide +kernel
theorem dX7_cellOf_16 : decode cX7_cellOf 16 = .ok (.iload_n 2, 1) := by decide +kernel
theorem dX7_cellOf_17 : decode cX7_cellOf 17 = .ok (.iconst 0, 1) := by decide +kernel
theorem dX7_cellOf_18 : decode cX7_cellOf 18 = .ok (.aload_n 0, 1) := by decide +kernel
theorem dX7_cellOf_19 : decode cX7_cellOf 19 = .ok (.getfield 7, 3) := by decide +kernel
theorem dX7_cellOf_22 : decode cX7_cellOf 22 = .ok (.iconst 0, 1) := by decide +kernel
theorem dX7_cellOf_23 : decode cX7_cellOf 23 = .ok (.iaload, 1) := by decide +kernel
theorem dX7_cellOf_24 : decode cX7_cellOf 24 = .ok (.iconst 1, 1) := by decide +kernel
theorem dX7_cellOf_25 : decode cX7_cellOf 25 = .ok (.isub, 1) := by decide +kernel
theorem dX7_cellOf_26 : decode cX7_cellOf 26 = .ok (.invokestatic 33, 3) := by decide +kernel
theorem dX7_cellOf_29 : decode cX7_cellOf 29 = .ok (.ifCond .eq 12, 3) := by decide +kernel
theorem dX7_cellOf_32 : decode cX7_cellOf 32 = .ok (.iload_n 3, 1) := by decide +kernel
theorem dX7_cellOf_33 : decode cX7_cellOf 33 = .ok (.iconst 0, 1) := by decide +kernel
theorem dX7_cellOf_34 : decode cX7_cellOf 34 = .ok (.iconst 5, 1) := by decide +kernel
theorem dX7_cellOf_35 : decode cX7_cellOf 35 = .ok (.invokestatic 33, 3) := by decide +kernel
theorem dX7_cellOf_38 : decode cX7_cellOf 38 = .ok (.ifCond .ne 6, 3) := by decide +kernel
theorem dX7_cellOf_41 : decode cX7_cellOf 41 = .ok (.ldc 37, 2) := by decide +kernel
theorem dX7_cellOf_43 : decode cX7_cellOf 43 = .ok (.ireturn, 1) := by decide +kernel
theorem dX7_cellOf_44 : decode cX7_cellOf 44 = .ok (.iload_n 3, 1) := by decide +kernel
theorem dX7_cellOf_45 : decode cX7_cellOf 45 = .ok (.iconst 3, 1) := by decide +kernel
theorem dX7_cellOf_46 : decode cX7_cellOf 46 = .ok (.if_icmp .eq 8, 3) := by decide +kernel
theorem dX7_cellOf_49 : decode cX7_cellOf 49 = .ok (.iload_n 3, 1) := by decide +kernel
theorem dX7_cellOf_50 : decode cX7_cellOf 50 = .ok (.iconst 4, 1) := by decide +kernel
theorem dX7_cellOf_51 : decode cX7_cellOf 51 = .ok (.if_icmp .ne 23, 3) := by decide +kernel
theorem dX7_cellOf_54 : decode cX7_cellOf 54 = .ok (.iload_n 3, 1) := by decide +kernel
theorem dX7_cellOf_55 : decode cX7_cellOf 55 = .ok (.iconst 3, 1) := by decide +kernel
theorem dX7_cellOf_56 : decode cX7_cellOf 56 = .ok (.if_icmp .ne 11, 3) := by decide +kernel
theorem dX7_cellOf_59 : decode cX7_cellOf 59 = .ok (.aload_n 0, 1) := by decide +kernel
theorem dX7_cellOf_60 : decode cX7_cellOf 60 = .ok (.iload_n 2, 1) := by decide +kernel
theorem dX7_cellOf_61 : decode cX7_cellOf 61 = .ok (.invokevirtual 75, 3) := by decide +kernel
theorem dX7_cellOf_64 : decode cX7_cellOf 64 = .ok (.goto 9, 3) := by decide +kernel
theorem dX7_cellOf_67 : decode cX7_cellOf 67 = .ok (.aload_n 0, 1) := by decide +kernel
theorem dX7_cellOf_68 : decode cX7_cellOf 68 = .ok (.iload_n 1, 1) := by decide +kernel
theorem dX7_cellOf_69 : decode cX7_cellOf 69 = .ok (.iload_n 2, 1) := by decide +kernel
theorem dX7_cellOf_70 : decode cX7_cellOf 70 = .ok (.invokevirtual 98, 3) := by decide +kernel
theorem dX7_cellOf_73 : decode cX7_cellOf 73 = .ok (.ireturn, 1) := by decide +kernel
theorem dX7_cellOf_74 : decode cX7_cellOf 74 = .ok (.aload_n 0, 1) := by decide +kernel
theorem dX7_cellOf_75 : decode cX7_cellOf 75 = .ok (.getfield 7, 3) := by decide +kernel
theorem dX7_cellOf_78 : decode cX7_cellOf 78 = .ok (.iconst 5, 1) := by decide +kernel
theorem dX7_cellOf_79 : decode cX7_cellOf 79 = .ok (.iaload, 1) := by decide +kernel
theorem dX7_cellOf_80 : decode cX7_cellOf 80 = .ok (.ifCond .ne 6, 3) := by decide +kernel
theorem dX7_cellOf_83 : decode cX7_cellOf 83 = .ok (.ldc 58, 2) := by decide +kernel
theorem dX7_cellOf_85 : decode cX7_cellOf 85 = .ok (.ireturn, 1) := by decide +kernel
theorem dX7_cellOf_86 : decode cX7_cellOf 86 = .ok (.iload_n 1, 1) := by decide +kernel
theorem dX7_cellOf_87 : decode cX7_cellOf 87 = .ok (.iload_n 2, 1) := by decide +kernel
theorem dX7_cellOf_88 : decode cX7_cellOf 88 = .ok (.invokestatic 78, 3) := by decide +kernel
theorem dX7_cellOf_91 : decode cX7_cellOf 91 = .ok (.istore 4, 2) := by decide +kernel
theorem dX7_cellOf_93 : decode cX7_cellOf 93 = .ok (.iload_n 3, 1) := by decide +kernel
theorem dX7_cellOf_94 : decode cX7_cellOf 94 = .ok (.tableswitch 92 0 2 #[26, 36, 64], 26) := by decide +kernel
theorem dX7_cellOf_120 : decode cX7_cellOf 120 = .ok (.aload_n 0, 1) := by decide +kernel
theorem dX7_cellOf_121 : decode cX7_cellOf 121 = .ok (.getfield 7, 3) := by decide +kernel
theorem dX7_cellOf_124 : decode cX7_cellOf 124 = .ok (.iload 4, 2) := by decide +kernel
theorem dX7_cellOf_126 : decode cX7_cellOf 126 = .ok (.iconst 0, 1) := by decide +kernel
theorem dX7_cellOf_127 : decode cX7_cellOf 127 = .ok (.iadd, 1) := by decide +kernel
theorem dX7_cellOf_128 : decode cX7_cellOf 128 = .ok (.iaload, 1) := by decide +kernel
theorem dX7_cellOf_129 : decode cX7_cellOf 129 = .ok (.ireturn, 1) := by decide +kernel
theorem dX7_cellOf_130 : decode cX7_cellOf 130 = .ok (.aload_n 0, 1) := by decide +kernel
theorem dX7_cellOf_131 : decode cX7_cellOf 131 = .ok (.getfield 7, 3) := by decide +kernel
theorem dX7_cellOf_134 : decode cX7_cellOf 134 = .ok (.iload 4, 2) := by decide +kernel
theorem dX7_cellOf_136 : decode cX7_cellOf 136 = .ok (.iconst 1, 1) := by decide +kernel
theorem dX7_cellOf_137 : decode cX7_cellOf 137 = .ok (.iadd, 1) := by decide +kernel
theorem dX7_cellOf_138 : decode cX7_cellOf 138 = .ok (.iaload, 1) := by decide +kernel
theorem dX7_cellOf_139 : decode cX7_cellOf 139 = .ok (.iconst 1, 1) := by decide +kernel
theorem dX7_cellOf_140 : decode cX7_cellOf 140 = .ok (.if_icmp .ne 15, 3) := by decide +kernel
theorem dX7_cellOf_143 : decode cX7_cellOf 143 = .ok (.aload_n 0, 1) := by decide +kernel
theorem dX7_cellOf_144 : decode cX7_cellOf 144 = .ok (.getfield 7, 3) := by decide +kernel
theorem dX7_cellOf_147 : decode cX7_cellOf 147 = .ok (.iload 4, 2) := by decide +kernel
theorem dX7_cellOf_149 : decode cX7_cellOf 149 = .ok (.iconst 2, 1) := by decide +kernel
theorem dX7_cellOf_150 : decode cX7_cellOf 150 = .ok (.iadd, 1) := by decide +kernel
theorem dX7_cellOf_151 : decode cX7_cellOf 151 = .ok (.iaload, 1) := by decide +kernel
theorem dX7_cellOf_152 : decode cX7_cellOf 152 = .ok (.goto 5, 3) := by decide +kernel
theorem dX7_cellOf_155 : decode cX7_cellOf 155 = .ok (.ldc 117, 2) := by decide +kernel
theorem dX7_cellOf_157 : decode cX7_cellOf 157 = .ok (.ireturn, 1) := by decide +kernel
theorem dX7_cellOf_158 : decode cX7_cellOf 158 = .ok (.aload_n 0, 1) := by decide +kernel
theorem dX7_cellOf_159 : decode cX7_cellOf 159 = .ok (.getfield 7, 3) := by decide +kernel
theorem dX7_cellOf_162 : decode cX7_cellOf 162 = .ok (.iload 4, 2) := by decide +kernel
theorem dX7_cellOf_164 : decode cX7_cellOf 164 = .ok (.iconst 3, 1) := by decide +kernel
theorem dX7_cellOf_165 : decode cX7_cellOf 165 = .ok (.iadd, 1) := by decide +kernel
theorem dX7_cellOf_166 : decode cX7_cellOf 166 = .ok (.iaload, 1) := by decide +kernel
theorem dX7_cellOf_167 : decode cX7_cellOf 167 = .ok (.iconst 1, 1) := by decide +kernel
theorem dX7_cellOf_168 : decode cX7_cellOf 168 = .ok (.if_icmp .ne 15, 3) := by decide +kernel
theorem dX7_cellOf_171 : decode cX7_cellOf 171 = .ok (.aload_n 0, 1) := by decide +kernel
theorem dX7_cellOf_172 : decode cX7_cellOf 172 = .ok (.getfield 7, 3) := by decide +kernel
theorem dX7_cellOf_175 : decode cX7_cellOf 175 = .ok (.iload 4, 2) := by decide +kernel
theorem dX7_cellOf_177 : decode cX7_cellOf 177 = .ok (.iconst 4, 1) := by decide +kernel
theorem dX7_cellOf_178 : decode cX7_cellOf 178 = .ok (.iadd, 1) := by decide +kernel
theorem dX7_cellOf_179 : decode cX7_cellOf 179 = .ok (.iaload, 1) := by decide +kernel
theorem dX7_cellOf_180 : decode cX7_cellOf 180 = .ok (.goto 5, 3) := by decide +kernel
theorem dX7_cellOf_183 : decode cX7_cellOf 183 = .ok (.ldc 117, 2) := by decide +kernel
theorem dX7_cellOf_185 : decode cX7_cellOf 185 = .ok (.ireturn, 1) := by decide +kernel
theorem dX7_cellOf_186 : decode cX7_cellOf 186 = .ok (.aload_n 0, 1) := by decide +kernel
theorem dX7_cellOf_187 : decode cX7_cellOf 187 = .ok (.getfield 7, 3) := by decide +kernel
theorem dX7_cellOf_190 : decode cX7_cellOf 190 = .ok (.iload 4, 2) := by decide +kernel
theorem dX7_cellOf_192 : decode cX7_cellOf 192 = .ok (.iconst 5, 1) := by decide +kernel
theorem dX7_cellOf_193 : decode cX7_cellOf 193 = .ok (.iadd, 1) := by decide +kernel
theorem dX7_cellOf_194 : decode cX7_cellOf 194 = .ok (.iaload, 1) := by decide +kernel
theorem dX7_cellOf_195 : decode cX7_cellOf 195 = .ok (.ireturn, 1) := by decide +kernel
theorem dX7_due_0 : decode cX7_due 0 = .ok (.iconst 0, 1) := by decide +kernel
theorem dX7_due_1 : decode cX7_due 1 = .ok (.istore_n 3, 1) := by decide +kernel
theorem dX7_due_2 : decode cX7_due 2 = .ok (.iconst 0, 1) := by decide +kernel
theorem dX7_due_3 : decode cX7_due 3 = .ok (.istore 4, 2) := by decide +kernel
theorem dX7_due_5 : decode cX7_due 5 = .ok (.iload 4, 2) := by decide +kernel
theorem dX7_due_7 : decode cX7_due 7 = .ok (.aload_n 0, 1) := by decide +kernel
theorem dX7_due_8 : decode cX7_due 8 = .ok (.getfield 7, 3) := by decide +kernel
theorem dX7_due_11 : decode cX7_due 11 = .ok (.iconst 2, 1) := by decide +kernel
theorem dX7_due_12 : decode cX7_due 12 = .ok (.iaload, 1) := by decide +kernel
theorem dX7_due_13 : decode cX7_due 13 = .ok (.if_icmp .ge 43, 3) := by decide +kernel
theorem dX7_due_16 : decode cX7_due 16 = .ok (.iload_n 3, 1) := by decide +kernel
theorem dX7_due_17 : decode cX7_due 17 = .ok (.aload_n 0, 1) := by decide +kernel
theorem dX7_due_18 : decode cX7_due 18 = .ok (.getfield 7, 3) := by decide +kernel
theorem dX7_due_21 : decode cX7_due 21 = .ok (.bipush 9, 2) := by decide +kernel
theorem dX7_due_23 : decode cX7_due 23 = .ok (.bipush 6, 2) := by decide +kernel
theorem dX7_due_25 : decode cX7_due 25 = .ok (.iload_n 1, 1) := by decide +kernel
theorem dX7_due_26 : decode cX7_due 26 = .ok (.imul, 1) := by decide +kernel
theorem dX7_due_27 : decode cX7_due 27 = .ok (.iadd, 1) := by decide +kernel
theorem dX7_due_28 : decode cX7_due 28 = .ok (.iload 4, 2) := by decide +kernel
theorem dX7_due_30 : decode cX7_due 30 = .ok (.iadd, 1) := by decide +kernel
theorem dX7_due_31 : decode cX7_due 31 = .ok (.iaload, 1) := by decide +kernel
theorem dX7_due_32 : decode cX7_due 32 = .ok (.aload_n 0, 1) := by decide +kernel
theorem dX7_due_33 : decode cX7_due 33 = .ok (.getfield 7, 3) := by decide +kernel
theorem dX7_due_36 : decode cX7_due 36 = .ok (.bipush 45, 2) := by decide +kernel
theorem dX7_due_38 : decode cX7_due 38 = .ok (.bipush 6, 2) := by decide +kernel
theorem dX7_due_40 : decode cX7_due 40 = .ok (.iload 4, 2) := by decide +kernel
theorem dX7_due_42 : decode cX7_due 42 = .ok (.imul, 1) := by decide +kernel
theorem dX7_due_43 : decode cX7_due 43 = .ok (.iadd, 1) := by decide +kernel
theorem dX7_due_44 : decode cX7_due 44 = .ok (.iload_n 2, 1) := by decide +kernel
theorem dX7_due_45 : decode cX7_due 45 = .ok (.iadd, 1) := by decide +kernel
theorem dX7_due_46 : decode cX7_due 46 = .ok (.iaload, 1) := by decide +kernel
theorem dX7_due_47 : decode cX7_due 47 = .ok (.imul, 1) := by decide +kernel
theorem dX7_due_48 : decode cX7_due 48 = .ok (.iadd, 1) := by decide +kernel
theorem dX7_due_49 : decode cX7_due 49 = .ok (.istore_n 3, 1) := by decide +kernel
theorem dX7_due_50 : decode cX7_due 50 = .ok (.iinc 4 1, 3) := by decide +kernel
theorem dX7_due_53 : decode cX7_due 53 = .ok (.goto (-48), 3) := by decide +kernel
theorem dX7_due_56 : decode cX7_due 56 = .ok (.iload_n 3, 1) := by decide +kernel
theorem dX7_due_57 : decode cX7_due 57 = .ok (.ireturn, 1) := by decide +kernel
theorem dX7_isKnown_0 : decode cX7_isKnown 0 = .ok (.aload_n 0, 1) := by decide +kernel
theorem dX7_isKnown_1 : decode cX7_isKnown 1 = .ok (.getfield 7, 3) := by decide +kernel
theorem dX7_isKnown_4 : decode cX7_isKnown 4 = .ok (.bipush 117, 2) := by decide +kernel
theorem dX7_isKnown_6 : decode cX7_isKnown 6 = .ok (.bipush 6, 2) := by decide +kernel
theorem dX7_isKnown_8 : decode cX7_isKnown 8 = .ok (.iload_n 1, 1) := by decide +kernel
theorem dX7_isKnown_9 : decode cX7_isKnown 9 = .ok (.imul, 1) := by decide +kernel
theorem dX7_isKnown_10 : decode cX7_isKnown 10 = .ok (.iadd, 1) := by decide +kernel
theorem dX7_isKnown_11 : decode cX7_isKnown 11 = .ok (.iload_n 2, 1) := by decide +kernel
theorem dX7_isKnown_12 : decode cX7_isKnown 12 = .ok (.iadd, 1) := by decide +kernel
theorem dX7_isKnown_13 : decode cX7_isKnown 13 = .ok (.iaload, 1) := by decide +kernel
theorem dX7_isKnown_14 : decode cX7_isKnown 14 = .ok (.iconst 1, 1) := by decide +kernel
theorem dX7_isKnown_15 : decode cX7_isKnown 15 = .ok (.if_icmp .ne 7, 3) := by decide +kernel
theorem dX7_isKnown_18 : decode cX7_isKnown 18 = .ok (.iconst 1, 1) := by decide +kernel
theorem dX7_isKnown_19 : decode cX7_isKnown 19 = .ok (.goto 4, 3) := by decide +kernel
theorem dX7_isKnown_22 : decode cX7_isKnown 22 = .ok (.iconst 0, 1) := by decide +kernel
theorem dX7_isKnown_23 : decode cX7_isKnown 23 = .ok (.ireturn, 1) := by decide +kernel
set_option maxRecDepth 20000 in
theorem ggX7_result_X7_in : GoodIn wsX7_result wsX7_in := goodIn_r _ [7] (by decide +kernel) (by decide +kernel)
set_option maxRecDepth 20000 in
theorem gX7_result_X7_in : GoodIn wsX7_result (va_wsS RX7 33 yX7_in wsX7_in) := goodIn_app (goodIn_of _ (by decide +kernel)) ggX7_result_X7_in
set_option maxRecDepth 20000 in
theorem ggX7_result_X7_due : GoodIn wsX7_result wsX7_due := goodIn_r _ [11, 1, 16, 17, 18, 19, 20, 21, 22, 23, 24, 25, 26, 27, 28, 29, 30, 31] (by decide +kernel) (by decide +kernel)
set_option maxRecDepth 20000 in
theorem gX7_result_X7_due : GoodIn wsX7_result (wsV RX7 118 RX7 yX7_due wsX7_due) := goodIn_app (goodIn_of _ (by decide +kernel)) ggX7_result_X7_due
set_option maxRecDepth 20000 in
theorem ggX7_result_X7_isKnown : GoodIn wsX7_result wsX7_isKnown := goodIn_r _ [15, 1, 16, 17, 18, 19, 20, 21, 22, 23, 24, 25, 26, 27, 28, 29, 30, 31] (by decide +kernel) (by decide +kernel)
set_option maxRecDepth 20000 in
theorem gX7_result_X7_isKnown : GoodIn wsX7_result (wsV RX7 121 RX7 yX7_isKnown wsX7_isKnown) := goodIn_app (goodIn_of _ (by decide +kernel)) ggX7_result_X7_isKnown
theorem dX7_result_0 : decode cX7_result 0 = .ok (.iload_n 1, 1) := by decide +kernel
theorem dX7_result_1 : decode cX7_result 1 = .ok (.iconst 0, 1) := by decide +kernel
theorem dX7_result_2 : decode cX7_result 2 = .ok (.aload_n 0, 1) := by decide +kernel
theorem dX7_result_3 : decode cX7_result 3 = .ok (.getfield 7, 3) := by decide +kernel
theorem dX7_result_6 : decode cX7_result 6 = .ok (.iconst 1, 1) := by decide +kernel
theorem dX7_result_7 : decode cX7_result 7 = .ok (.iaload, 1) := by decide +kernel
theorem dX7_result_8 : decode cX7_result 8 = .ok (.iconst 1, 1) := by decide +kernel
theorem dX7_result_9 : decode cX7_result 9 = .ok (.isub, 1) := by decide +kernel
theorem dX7_result_10 : decode cX7_result 10 = .ok (.invokestatic 33, 3) := by decide +kernel
theorem dX7_result_13 : decode cX7_result 13 = .ok (.ifCond .eq 28, 3) := by decide +kernel
theorem dX7_result_16 : decode cX7_result 16 = .ok (.iload_n 2, 1) := by decide +kernel
theorem dX7_result_17 : decode cX7_result 17 = .ok (.iconst 0, 1) := by decide +kernel
theorem dX7_result_18 : decode cX7_result 18 = .ok (.aload_n 0, 1) := by decide +kernel
theorem dX7_result_19 : decode cX7_result 19 = .ok (.getfield 7, 3) := by decide +kernel
theorem dX7_result_22 : decode cX7_result 22 = .ok (.iconst 3, 1) := by decide +kernel
theorem dX7_result_23 : decode cX7_result 23 = .ok (.iaload, 1) := by decide +kernel
theorem dX7_result_24 : decode cX7_result 24 = .ok (.iconst 1, 1) := by decide +kernel
theorem dX7_result_25 : decode cX7_result 25 = .ok (.isub, 1) := by decide +kernel
theorem dX7_result_26 : decode cX7_result 26 = .ok (.invokestatic 33, 3) := by decide +kernel
theorem dX7_result_29 : decode cX7_result 29 = .ok (.ifCond .eq 12, 3) := by decide +kernel
theorem dX7_result_32 : decode cX7_result 32 = .ok (.iload_n 3, 1) := by decide +kernel
theorem dX7_result_33 : decode cX7_result 33 = .ok (.iconst 0, 1) := by decide +kernel
theorem dX7_result_34 : decode cX7_result 34 = .ok (.iconst 1, 1) := by decide +kernel
theorem dX7_result_35 : decode cX7_result 35 = .ok (.invokestatic 33, 3) := by decide +kernel
theorem dX7_result_38 : decode cX7_result 38 = .ok (.ifCond .ne 6, 3) := by decide +kernel
theorem dX7_result_41 : decode cX7_result 41 = .ok (.ldc 37, 2) := by decide +kernel
theorem dX7_result_43 : decode cX7_result 43 = .ok (.ireturn, 1) := by decide +kernel
theorem dX7_result_44 : decode cX7_result 44 = .ok (.iload_n 3, 1) := by decide +kernel
theorem dX7_result_45 : decode cX7_result 45 = .ok (.iconst 1, 1) := by decide +kernel
theorem dX7_result_46 : decode cX7_result 46 = .ok (.if_icmp .ne 12, 3) := by decide +kernel
theorem dX7_result_49 : decode cX7_result 49 = .ok (.aload_n 0, 1) := by decide +kernel
theorem dX7_result_50 : decode cX7_result 50 = .ok (.iload_n 1, 1) := by decide +kernel
theorem dX7_result_51 : decode cX7_result 51 = .ok (.iload_n 2, 1) := by decide +kernel
theorem dX7_result_52 : decode cX7_result 52 = .ok (.invokevirtual 118, 3) := by decide +kernel
theorem dX7_result_55 : decode cX7_result 55 = .ok (.goto 31, 3) := by decide +kernel
theorem dX7_result_58 : decode cX7_result 58 = .ok (.aload_n 0, 1) := by decide +kernel
theorem dX7_result_59 : decode cX7_result 59 = .ok (.iload_n 1, 1) := by decide +kernel
theorem dX7_result_60 : decode cX7_result 60 = .ok (.iload_n 2, 1) := by decide +kernel
theorem dX7_result_61 : decode cX7_result 61 = .ok (.invokevirtual 121, 3) := by decide +kernel
theorem dX7_result_64 : decode cX7_result 64 = .ok (.ifCond .eq 20, 3) := by decide +kernel
theorem dX7_result_67 : decode cX7_result 67 = .ok (.aload_n 0, 1) := by decide +kernel
theorem dX7_result_68 : decode cX7_result 68 = .ok (.getfield 7, 3) := by decide +kernel
theorem dX7_result_71 : decode cX7_result 71 = .ok (.bipush 81, 2) := by decide +kernel
theorem dX7_result_73 : decode cX7_result 73 = .ok (.bipush 6, 2) := by decide +kernel
theorem dX7_result_75 : decode cX7_result 75 = .ok (.iload_n 1, 1) := by decide +kernel
theorem dX7_result_76 : decode cX7_result 76 = .ok (.imul, 1) := by decide +kernel
theorem dX7_result_77 : decode cX7_result 77 = .ok (.iadd, 1) := by decide +kernel
theorem dX7_result_78 : decode cX7_result 78 = .ok (.iload_n 2, 1) := by decide +kernel
theorem dX7_result_79 : decode cX7_result 79 = .ok (.iadd, 1) := by decide +kernel
theorem dX7_result_80 : decode cX7_result 80 = .ok (.iaload, 1) := by decide +kernel
theorem dX7_result_81 : decode cX7_result 81 = .ok (.goto 5, 3) := by decide +kernel
theorem dX7_result_84 : decode cX7_result 84 = .ok (.ldc 117, 2) := by decide +kernel
theorem dX7_result_86 : decode cX7_result 86 = .ok (.ireturn, 1) := by decide +kernel
set_option maxRecDepth 20000 in
theorem ggX7_wrong_X7_isKnown : GoodIn wsX7_wrong wsX7_isKnown := goodIn_r _ [6, 1, 11, 12, 13, 14, 15, 16, 17, 18, 19, 20, 21, 22, 23, 24, 25, 26] (by decide +kernel) (by decide +kernel)
set_option maxRecDepth 20000 in
theorem gX7_wrong_X7_isKnown : GoodIn wsX7_wrong (wsV RX7 121 RX7 yX7_isKnown wsX7_isKnown) := goodIn_app (goodIn_of _ (by decide +kernel)) ggX7_wrong_X7_isKnown
set_option maxRecDepth 20000 in
theorem ggX7_wrong_X7_due : GoodIn wsX7_wrong wsX7_due := goodIn_r _ [10, 1, 11, 12, 13, 14, 15, 16, 17, 18, 19, 20, 21, 22, 23, 24, 25, 26] (by decide +kernel) (by decide +kernel)
set_option maxRecDepth 20000 in
theorem gX7_wrong_X7_due : GoodIn wsX7_wrong (wsV RX7 118 RX7 yX7_due wsX7_due) := goodIn_app (goodIn_of _ (by decide +kernel)) ggX7_wrong_X7_due
theorem dX7_wrong_0 : decode cX7_wrong 0 = .ok (.iconst 0, 1) := by decide +kernel
theorem dX7_wrong_1 : decode cX7_wrong 1 = .ok (.istore_n 1, 1) := by decide +kernel
theorem dX7_wrong_2 : decode cX7_wrong 2 = .ok (.iconst 0, 1) := by decide +kernel
theorem dX7_wrong_3 : decode cX7_wrong 3 = .ok (.istore_n 2, 1) := by decide +kernel
theorem dX7_wrong_4 : decode cX7_wrong 4 = .ok (.iload_n 2, 1) := by decide +kernel
theorem dX7_wrong_5 : decode cX7_wrong 5 = .ok (.aload_n 0, 1) := by decide +kernel
theorem dX7_wrong_6 : decode cX7_wrong 6 = .ok (.getfield 7, 3) := by decide +kernel
theorem dX7_wrong_9 : decode cX7_wrong 9 = .ok (.iconst 1, 1) := by decide +kernel
theorem dX7_wrong_10 : decode cX7_wrong 10 = .ok (.iaload, 1) := by decide +kernel
theorem dX7_wrong_11 : decode cX7_wrong 11 = .ok (.if_icmp .ge 67, 3) := by decide +kernel
theorem dX7_wrong_14 : decode cX7_wrong 14 = .ok (.iconst 0, 1) := by decide +kernel
theorem dX7_wrong_15 : decode cX7_wrong 15 = .ok (.istore_n 3, 1) := by decide +kernel
theorem dX7_wrong_16 : decode cX7_wrong 16 = .ok (.iload_n 3, 1) := by decide +kernel
theorem dX7_wrong_17 : decode cX7_wrong 17 = .ok (.aload_n 0, 1) := by decide +kernel
theorem dX7_wrong_18 : decode cX7_wrong 18 = .ok (.getfield 7, 3) := by decide +kernel
theorem dX7_wrong_21 : decode cX7_wrong 21 = .ok (.iconst 3, 1) := by decide +kernel
theorem dX7_wrong_22 : decode cX7_wrong 22 = .ok (.iaload, 1) := by decide +kernel
theorem dX7_wrong_23 : decode cX7_wrong 23 = .ok (.if_icmp .ge 49, 3) := by decide +kernel
theorem dX7_wrong_26 : decode cX7_wrong 26 = .ok (.iload_n 1, 1) := by decide +kernel
theorem dX7_wrong_27 : decode cX7_wrong 27 = .ok (.aload_n 0, 1) := by decide +kernel
theorem dX7_wrong_28 : decode cX7_wrong 28 = .ok (.iload_n 2, 1) := by decide +kernel
theorem dX7_wrong_29 : decode cX7_wrong 29 = .ok (.iload_n 3, 1) := by decide +kernel
theorem dX7_wrong_30 : decode cX7_wrong 30 = .ok (.invokevirtual 121, 3) := by decide +kernel
theorem dX7_wrong_33 : decode cX7_wrong 33 = .ok (.ifCond .eq 30, 3) := by decide +kernel
theorem dX7_wrong_36 : decode cX7_wrong 36 = .ok (.aload_n 0, 1) := by decide +kernel
theorem dX7_wrong_37 : decode cX7_wrong 37 = .ok (.getfield 7, 3) := by decide +kernel
theorem dX7_wrong_40 : decode cX7_wrong 40 = .ok (.bipush 81, 2) := by decide +kernel
theorem dX7_wrong_42 : decode cX7_wrong 42 = .ok (.bipush 6, 2) := by decide +kernel
theorem dX7_wrong_44 : decode cX7_wrong 44 = .ok (.iload_n 2, 1) := by decide +kernel
theorem dX7_wrong_45 : decode cX7_wrong 45 = .ok (.imul, 1) := by decide +kernel
theorem dX7_wrong_46 : decode cX7_wrong 46 = .ok (.iadd, 1) := by decide +kernel
theorem dX7_wrong_47 : decode cX7_wrong 47 = .ok (.iload_n 3, 1) := by decide +kernel
theorem dX7_wrong_48 : decode cX7_wrong 48 = .ok (.iadd, 1) := by decide +kernel
theorem dX7_wrong_49 : decode cX7_wrong 49 = .ok (.iaload, 1) := by decide +kernel
theorem dX7_wrong_50 : decode cX7_wrong 50 = .ok (.aload_n 0, 1) := by decide +kernel
theorem dX7_wrong_51 : decode cX7_wrong 51 = .ok (.iload_n 2, 1) := by decide +kernel
theorem dX7_wrong_52 : decode cX7_wrong 52 = .ok (.iload_n 3, 1) := by decide +kernel
theorem dX7_wrong_53 : decode cX7_wrong 53 = .ok (.invokevirtual 118, 3) := by decide +kernel
theorem dX7_wrong_56 : decode cX7_wrong 56 = .ok (.if_icmp .eq 7, 3) := by decide +kernel
theorem dX7_wrong_59 : decode cX7_wrong 59 = .ok (.iconst 1, 1) := by decide +kernel
theorem dX7_wrong_60 : decode cX7_wrong 60 = .ok (.goto 4, 3) := by decide +kernel
theorem dX7_wrong_63 : decode cX7_wrong 63 = .ok (.iconst 0, 1) := by decide +kernel
theorem dX7_wrong_64 : decode cX7_wrong 64 = .ok (.iadd, 1) := by decide +kernel
theorem dX7_wrong_65 : decode cX7_wrong 65 = .ok (.istore_n 1, 1) := by decide +kernel
theorem dX7_wrong_66 : decode cX7_wrong 66 = .ok (.iinc 3 1, 3) := by decide +kernel
theorem dX7_wrong_69 : decode cX7_wrong 69 = .ok (.goto (-53), 3) := by decide +kernel
theorem dX7_wrong_72 : decode cX7_wrong 72 = .ok (.iinc 2 1, 3) := by decide +kernel
theorem dX7_wrong_75 : decode cX7_wrong 75 = .ok (.goto (-71), 3) := by decide +kernel
theorem dX7_wrong_78 : decode cX7_wrong 78 = .ok (.iload_n 1, 1) := by decide +kernel
theorem dX7_wrong_79 : decode cX7_wrong 79 = .ok (.ireturn, 1) := by decide +kernel
theorem dX7_faulty_0 : decode cX7_faulty 0 = .ok (.iconst 0, 1) := by decide +kernel
theorem dX7_faulty_1 : decode cX7_faulty 1 = .ok (.istore_n 1, 1) := by decide +kernel
theorem dX7_faulty_2 : decode cX7_faulty 2 = .ok (.iconst 0, 1) := by decide +kernel
theorem dX7_faulty_3 : decode cX7_faulty 3 = .ok (.istore_n 2, 1) := by decide +kernel
theorem dX7_faulty_4 : decode cX7_faulty 4 = .ok (.iload_n 2, 1) := by decide +kernel
theorem dX7_faulty_5 : decode cX7_faulty 5 = .ok (.bipush 20, 2) := by decide +kernel
theorem dX7_faulty_7 : decode cX7_faulty 7 = .ok (.if_icmp .ge 30, 3) := by decide +kernel
theorem dX7_faulty_10 : decode cX7_faulty 10 = .ok (.iload_n 1, 1) := by decide +kernel
theorem dX7_faulty_11 : decode cX7_faulty 11 = .ok (.aload_n 0, 1) := by decide +kernel
theorem dX7_faulty_12 : decode cX7_faulty 12 = .ok (.getfield 7, 3) := by decide +kernel
theorem dX7_faulty_15 : decode cX7_faulty 15 = .ok (.sipush 153, 3) := by decide +kernel
theorem dX7_faulty_18 : decode cX7_faulty 18 = .ok (.iload_n 2, 1) := by decide +kernel
theorem dX7_faulty_19 : decode cX7_faulty 19 = .ok (.iadd, 1) := by decide +kernel
theorem dX7_faulty_20 : decode cX7_faulty 20 = .ok (.iaload, 1) := by decide +kernel
theorem dX7_faulty_21 : decode cX7_faulty 21 = .ok (.ifCond .le 7, 3) := by decide +kernel
theorem dX7_faulty_24 : decode cX7_faulty 24 = .ok (.iconst 1, 1) := by decide +kernel
theorem dX7_faulty_25 : decode cX7_faulty 25 = .ok (.goto 4, 3) := by decide +kernel
theorem dX7_faulty_28 : decode cX7_faulty 28 = .ok (.iconst 0, 1) := by decide +kernel
theorem dX7_faulty_29 : decode cX7_faulty 29 = .ok (.iadd, 1) := by decide +kernel
theorem dX7_faulty_30 : decode cX7_faulty 30 = .ok (.istore_n 1, 1) := by decide +kernel
theorem dX7_faulty_31 : decode cX7_faulty 31 = .ok (.iinc 2 1, 3) := by decide +kernel
theorem dX7_faulty_34 : decode cX7_faulty 34 = .ok (.goto (-30), 3) := by decide +kernel
theorem dX7_faulty_37 : decode cX7_faulty 37 = .ok (.iload_n 1, 1) := by decide +kernel
theorem dX7_faulty_38 : decode cX7_faulty 38 = .ok (.ireturn, 1) := by decide +kernel
set_option maxRecDepth 20000 in
theorem ggX7_count_X7_tiles : GoodIn wsX7_count wsX7_tiles := goodIn_r _ [10, 1, 11, 12, 13, 9, 14, 47, 48, 49, 50, 51, 52, 53, 54, 55, 56, 57, 58, 59, 60, 61, 62] (by decide +kernel) (by decide +kernel)
set_option maxRecDepth 20000 in
theorem gX7_count_X7_tiles : GoodIn wsX7_count (wsV RX7 45 RX7 yX7_tiles wsX7_tiles) := goodIn_app (goodIn_of _ (by decide +kernel)) ggX7_count_X7_tiles
set_option maxRecDepth 20000 in
theorem ggX7_count_X7_ticks : GoodIn wsX7_count wsX7_ticks := goodIn_r _ [18, 1, 19, 20, 21, 9, 22, 23, 24, 25, 26, 47, 48, 49, 50, 51, 52, 53, 54, 55, 56, 57, 58, 59, 60, 61, 62] (by decide +kernel) (by decide +kernel)
set_option maxRecDepth 20000 in
theorem gX7_count_X7_ticks : GoodIn wsX7_count (wsV RX7 72 RX7 yX7_ticks wsX7_ticks) := goodIn_app (goodIn_of _ (by decide +kernel)) ggX7_count_X7_ticks
set_option maxRecDepth 20000 in
theorem ggX7_count_X7_known : GoodIn wsX7_count wsX7_known := goodIn_r _ [30, 1, 47, 48, 49, 50, 51, 52, 53, 54, 55, 56, 57, 58, 59, 60, 61, 62] (by decide +kernel) (by decide +kernel)
set_option maxRecDepth 20000 in
theorem gX7_count_X7_known : GoodIn wsX7_count (wsV RX7 111 RX7 yX7_known wsX7_known) := goodIn_app (goodIn_of _ (by decide +kernel)) ggX7_count_X7_known
set_option maxRecDepth 20000 in
theorem ggX7_count_X7_wrong : GoodIn wsX7_count wsX7_wrong := goodIn_r _ [34, 1, 35, 36, 37, 9, 38, 39, 40, 41, 42, 47, 48, 49, 50, 51, 52, 53, 54, 55, 56, 57, 58, 59, 60, 61, 62] (by decide +kernel) (by decide +kernel)
set_option maxRecDepth 20000 in
theorem gX7_count_X7_wrong : GoodIn wsX7_count (wsV RX7 125 RX7 yX7_wrong wsX7_wrong) := goodIn_app (goodIn_of _ (by decide +kernel)) ggX7_count_X7_wrong
set_option maxRecDepth 20000 in
theorem ggX7_count_X7_faulty : GoodIn wsX7_count wsX7_faulty := goodIn_r _ [46, 1, 47, 48, 49, 50, 51, 52, 53, 54, 55, 56, 57, 58, 59, 60, 61, 62] (by decide +kernel) (by decide +kernel)
set_option maxRecDepth 20000 in
theorem gX7_count_X7_faulty : GoodIn wsX7_count (wsV RX7 128 RX7 yX7_faulty wsX7_faulty) := goodIn_app (goodIn_of _ (by decide +kernel)) ggX7_count_X7_faulty
theorem dX7_count_0 : decode cX7_count 0 = .ok (.iload_n 1, 1) := by decide +kernel
theorem dX7_count_1 : decode cX7_count 1 = .ok (.tableswitch 177 0 15 #[79, 79, 79, 79, 86, 91, 91, 102, 102, 102, 125, 152, 157, 162, 167, 172], 79) := by decide +kernel
theorem dX7_count_80 : decode cX7_count 80 = .ok (.aload_n 0, 1) := by decide +kernel
theorem dX7_count_81 : decode cX7_count 81 = .ok (.getfield 7, 3) := by decide +kernel
theorem dX7_count_84 : decode cX7_count 84 = .ok (.iload_n 1, 1) := by decide +kernel
theorem dX7_count_85 : decode cX7_count 85 = .ok (.iaload, 1) := by decide +kernel
theorem dX7_count_86 : decode cX7_count 86 = .ok (.ireturn, 1) := by decide +kernel
theorem dX7_count_87 : decode cX7_count 87 = .ok (.aload_n 0, 1) := by decide +kernel
theorem dX7_count_88 : decode cX7_count 88 = .ok (.invokevirtual 45, 3) := by decide +kernel
theorem dX7_count_91 : decode cX7_count 91 = .ok (.ireturn, 1) := by decide +kernel
theorem dX7_count_92 : decode cX7_count 92 = .ok (.aload_n 0, 1) := by decide +kernel
theorem dX7_count_93 : decode cX7_count 93 = .ok (.getfield 7, 3) := by decide +kernel
theorem dX7_count_96 : decode cX7_count 96 = .ok (.iconst 4, 1) := by decide +kernel
theorem dX7_count_97 : decode cX7_count 97 = .ok (.iload_n 1, 1) := by decide +kernel
theorem dX7_count_98 : decode cX7_count 98 = .ok (.iadd, 1) := by decide +kernel
theorem dX7_count_99 : decode cX7_count 99 = .ok (.iconst 5, 1) := by decide +kernel
theorem dX7_count_100 : decode cX7_count 100 = .ok (.isub, 1) := by decide +kernel
theorem dX7_count_101 : decode cX7_count 101 = .ok (.iaload, 1) := by decide +kernel
theorem dX7_count_102 : decode cX7_count 102 = .ok (.ireturn, 1) := by decide +kernel
theorem dX7_count_103 : decode cX7_count 103 = .ok (.aload_n 0, 1) := by decide +kernel
theorem dX7_count_104 : decode cX7_count 104 = .ok (.getfield 7, 3) := by decide +kernel
theorem dX7_count_107 : decode cX7_count 107 = .ok (.iconst 5, 1) := by decide +kernel
theorem dX7_count_108 : decode cX7_count 108 = .ok (.iaload, 1) := by decide +kernel
theorem dX7_count_109 : decode cX7_count 109 = .ok (.ifCond .ne 8, 3) := by decide +kernel
theorem dX7_count_112 : decode cX7_count 112 = .ok (.ldc 117, 2) := by decide +kernel
theorem dX7_count_114 : decode cX7_count 114 = .ok (.goto 11, 3) := by decide +kernel
theorem dX7_count_117 : decode cX7_count 117 = .ok (.aload_n 0, 1) := by decide +kernel
theorem dX7_count_118 : decode cX7_count 118 = .ok (.getfield 7, 3) := by decide +kernel
theorem dX7_count_121 : decode cX7_count 121 = .ok (.iload_n 1, 1) := by decide +kernel
theorem dX7_count_122 : decode cX7_count 122 = .ok (.iconst 1, 1) := by decide +kernel
theorem dX7_count_123 : decode cX7_count 123 = .ok (.isub, 1) := by decide +kernel
theorem dX7_count_124 : decode cX7_count 124 = .ok (.iaload, 1) := by decide +kernel
theorem dX7_count_125 : decode cX7_count 125 = .ok (.ireturn, 1) := by decide +kernel
theorem dX7_count_126 : decode cX7_count 126 = .ok (.aload_n 0, 1) := by decide +kernel
theorem dX7_count_127 : decode cX7_count 127 = .ok (.getfield 7, 3) := by decide +kernel
theorem dX7_count_130 : decode cX7_count 130 = .ok (.iconst 5, 1) := by decide +kernel
theorem dX7_count_131 : decode cX7_count 131 = .ok (.iaload, 1) := by decide +kernel
theorem dX7_count_132 : decode cX7_count 132 = .ok (.ifCond .ne 8, 3) := by decide +kernel
theorem dX7_count_135 : decode cX7_count 135 = .ok (.ldc 117, 2) := by decide +kernel
theorem dX7_count_137 : decode cX7_count 137 = .ok (.goto 15, 3) := by decide +kernel
theorem dX7_count_140 : decode cX7_count 140 = .ok (.aload_n 0, 1) := by decide +kernel
theorem dX7_count_141 : decode cX7_count 141 = .ok (.invokevirtual 72, 3) := by decide +kernel
theorem dX7_count_144 : decode cX7_count 144 = .ok (.aload_n 0, 1) := by decide +kernel
theorem dX7_count_145 : decode cX7_count 145 = .ok (.getfield 7, 3) := by decide +kernel
theorem dX7_count_148 : decode cX7_count 148 = .ok (.bipush 8, 2) := by decide +kernel
theorem dX7_count_150 : decode cX7_count 150 = .ok (.iaload, 1) := by decide +kernel
theorem dX7_count_151 : decode cX7_count 151 = .ok (.isub, 1) := by decide +kernel
theorem dX7_count_152 : decode cX7_count 152 = .ok (.ireturn, 1) := by decide +kernel
theorem dX7_count_153 : decode cX7_count 153 = .ok (.aload_n 0, 1) := by decide +kernel
theorem dX7_count_154 : decode cX7_count 154 = .ok (.invokevirtual 111, 3) := by decide +kernel
theorem dX7_count_157 : decode cX7_count 157 = .ok (.ireturn, 1) := by decide +kernel
theorem dX7_count_158 : decode cX7_count 158 = .ok (.aload_n 0, 1) := by decide +kernel
theorem dX7_count_159 : decode cX7_count 159 = .ok (.invokevirtual 125, 3) := by decide +kernel
theorem dX7_count_162 : decode cX7_count 162 = .ok (.ireturn, 1) := by decide +kernel
theorem dX7_count_163 : decode cX7_count 163 = .ok (.aload_n 0, 1) := by decide +kernel
theorem dX7_count_164 : decode cX7_count 164 = .ok (.invokevirtual 128, 3) := by decide +kernel
theorem dX7_count_167 : decode cX7_count 167 = .ok (.ireturn, 1) := by decide +kernel
theorem dX7_count_168 : decode cX7_count 168 = .ok (.aload_n 0, 1) := by decide +kernel
theorem dX7_count_169 : decode cX7_count 169 = .ok (.getfield 25, 3) := by decide +kernel
theorem dX7_count_172 : decode cX7_count 172 = .ok (.ireturn, 1) := by decide +kernel
theorem dX7_count_173 : decode cX7_count 173 = .ok (.aload_n 0, 1) := by decide +kernel
theorem dX7_count_174 : decode cX7_count 174 = .ok (.getfield 131, 3) := by decide +kernel
theorem dX7_count_177 : decode cX7_count 177 = .ok (.ireturn, 1) := by decide +kernel
theorem dX7_count_178 : decode cX7_count 178 = .ok (.ldc 37, 2) := by decide +kernel
theorem dX7_count_180 : decode cX7_count 180 = .ok (.ireturn, 1) := by decide +kernel
set_option maxRecDepth 20000 in
theorem ggX7_isSuspect_X7_isKnown : GoodIn wsX7_isSuspect wsX7_isKnown := goodIn_r _ [6, 1, 11, 12, 13, 14, 15, 16, 17, 18, 19, 20, 21, 22, 23, 24, 25, 26] (by decide +kernel) (by decide +kernel)
set_option maxRecDepth 20000 in
theorem gX7_isSuspect_X7_isKnown : GoodIn wsX7_isSuspect (wsV RX7 121 RX7 yX7_isKnown wsX7_isKnown) := goodIn_app (goodIn_of _ (by decide +kernel)) ggX7_isSuspect_X7_isKnown
set_option maxRecDepth 20000 in
theorem ggX7_isSuspect_X7_due : GoodIn wsX7_isSuspect wsX7_due := goodIn_r _ [10, 1, 11, 12, 13, 14, 15, 16, 17, 18, 19, 20, 21, 22, 23, 24, 25, 26] (by decide +kernel) (by decide +kernel)
set_option maxRecDepth 20000 in
theorem gX7_isSuspect_X7_due : GoodIn wsX7_isSuspect (wsV RX7 118 RX7 yX7_due wsX7_due) := goodIn_app (goodIn_of _ (by decide +kernel)) ggX7_isSuspect_X7_due
theorem dX7_isSuspect_0 : decode cX7_isSuspect 0 = .ok (.iconst 0, 1) := by decide +kernel
theorem dX7_isSuspect_1 : decode cX7_isSuspect 1 = .ok (.istore_n 3, 1) := by decide +kernel
theorem dX7_isSuspect_2 : decode cX7_isSuspect 2 = .ok (.iconst 1, 1) := by decide +kernel
theorem dX7_isSuspect_3 : decode cX7_isSuspect 3 = .ok (.istore 4, 2) := by decide +kernel
theorem dX7_isSuspect_5 : decode cX7_isSuspect 5 = .ok (.iconst 0, 1) := by decide +kernel
theorem dX7_isSuspect_6 : decode cX7_isSuspect 6 = .ok (.istore 5, 2) := by decide +kernel
theorem dX7_isSuspect_8 : decode cX7_isSuspect 8 = .ok (.iload 5, 2) := by decide +kernel
theorem dX7_isSuspect_10 : decode cX7_isSuspect 10 = .ok (.iload_n 1, 1) := by decide +kernel
theorem dX7_isSuspect_11 : decode cX7_isSuspect 11 = .ok (.ifCond .ne 12, 3) := by decide +kernel
theorem dX7_isSuspect_14 : decode cX7_isSuspect 14 = .ok (.aload_n 0, 1) := by decide +kernel
theorem dX7_isSuspect_15 : decode cX7_isSuspect 15 = .ok (.getfield 7, 3) := by decide +kernel
theorem dX7_isSuspect_18 : decode cX7_isSuspect 18 = .ok (.iconst 3, 1) := by decide +kernel
theorem dX7_isSuspect_19 : decode cX7_isSuspect 19 = .ok (.iaload, 1) := by decide +kernel
theorem dX7_isSuspect_20 : decode cX7_isSuspect 20 = .ok (.goto 9, 3) := by decide +kernel
theorem dX7_isSuspect_23 : decode cX7_isSuspect 23 = .ok (.aload_n 0, 1) := by decide +kernel
theorem dX7_isSuspect_24 : decode cX7_isSuspect 24 = .ok (.getfield 7, 3) := by decide +kernel
theorem dX7_isSuspect_27 : decode cX7_isSuspect 27 = .ok (.iconst 1, 1) := by decide +kernel
theorem dX7_isSuspect_28 : decode cX7_isSuspect 28 = .ok (.iaload, 1) := by decide +kernel
theorem dX7_isSuspect_29 : decode cX7_isSuspect 29 = .ok (.if_icmp .ge 84, 3) := by decide +kernel
theorem dX7_isSuspect_32 : decode cX7_isSuspect 32 = .ok (.iload_n 1, 1) := by decide +kernel
theorem dX7_isSuspect_33 : decode cX7_isSuspect 33 = .ok (.ifCond .ne 7, 3) := by decide +kernel
theorem dX7_isSuspect_36 : decode cX7_isSuspect 36 = .ok (.iload_n 2, 1) := by decide +kernel
theorem dX7_isSuspect_37 : decode cX7_isSuspect 37 = .ok (.goto 5, 3) := by decide +kernel
theorem dX7_isSuspect_40 : decode cX7_isSuspect 40 = .ok (.iload 5, 2) := by decide +kernel
theorem dX7_isSuspect_42 : decode cX7_isSuspect 42 = .ok (.istore 6, 2) := by decide +kernel
theorem dX7_isSuspect_44 : decode cX7_isSuspect 44 = .ok (.iload_n 1, 1) := by decide +kernel
theorem dX7_isSuspect_45 : decode cX7_isSuspect 45 = .ok (.ifCond .ne 8, 3) := by decide +kernel
theorem dX7_isSuspect_48 : decode cX7_isSuspect 48 = .ok (.iload 5, 2) := by decide +kernel
theorem dX7_isSuspect_50 : decode cX7_isSuspect 50 = .ok (.goto 4, 3) := by decide +kernel
theorem dX7_isSuspect_53 : decode cX7_isSuspect 53 = .ok (.iload_n 2, 1) := by decide +kernel
theorem dX7_isSuspect_54 : decode cX7_isSuspect 54 = .ok (.istore 7, 2) := by decide +kernel
theorem dX7_isSuspect_56 : decode cX7_isSuspect 56 = .ok (.iload 4, 2) := by decide +kernel
theorem dX7_isSuspect_58 : decode cX7_isSuspect 58 = .ok (.ifCond .eq 18, 3) := by decide +kernel
theorem dX7_isSuspect_61 : decode cX7_isSuspect 61 = .ok (.aload_n 0, 1) := by decide +kernel
theorem dX7_isSuspect_62 : decode cX7_isSuspect 62 = .ok (.iload 6, 2) := by decide +kernel
theorem dX7_isSuspect_64 : decode cX7_isSuspect 64 = .ok (.iload 7, 2) := by decide +kernel
theorem dX7_isSuspect_66 : decode cX7_isSuspect 66 = .ok (.invokevirtual 121, 3) := by decide +kernel
theorem dX7_isSuspect_69 : decode cX7_isSuspect 69 = .ok (.ifCond .eq 7, 3) := by decide +kernel
theorem dX7_isSuspect_72 : decode cX7_isSuspect 72 = .ok (.iconst 1, 1) := by decide +kernel
theorem dX7_isSuspect_73 : decode cX7_isSuspect 73 = .ok (.goto 4, 3) := by decide +kernel
theorem dX7_isSuspect_76 : decode cX7_isSuspect 76 = .ok (.iconst 0, 1) := by decide +kernel
theorem dX7_isSuspect_77 : decode cX7_isSuspect 77 = .ok (.istore 4, 2) := by decide +kernel
theorem dX7_isSuspect_79 : decode cX7_isSuspect 79 = .ok (.iload_n 3, 1) := by decide +kernel
theorem dX7_isSuspect_80 : decode cX7_isSuspect 80 = .ok (.aload_n 0, 1) := by decide +kernel
theorem dX7_isSuspect_81 : decode cX7_isSuspect 81 = .ok (.getfield 7, 3) := by decide +kernel
theorem dX7_isSuspect_84 : decode cX7_isSuspect 84 = .ok (.bipush 81, 2) := by decide +kernel
theorem dX7_isSuspect_86 : decode cX7_isSuspect 86 = .ok (.bipush 6, 2) := by decide +kernel
theorem dX7_isSuspect_88 : decode cX7_isSuspect 88 = .ok (.iload 6, 2) := by decide +kernel
theorem dX7_isSuspect_90 : decode cX7_isSuspect 90 = .ok (.imul, 1) := by decide +kernel
theorem dX7_isSuspect_91 : decode cX7_isSuspect 91 = .ok (.iadd, 1) := by decide +kernel
theorem dX7_isSuspect_92 : decode cX7_isSuspect 92 = .ok (.iload 7, 2) := by decide +kernel
theorem dX7_isSuspect_94 : decode cX7_isSuspect 94 = .ok (.iadd, 1) := by decide +kernel
theorem dX7_isSuspect_95 : decode cX7_isSuspect 95 = .ok (.iaload, 1) := by decide +kernel
theorem dX7_isSuspect_96 : decode cX7_isSuspect 96 = .ok (.aload_n 0, 1) := by decide +kernel
theorem dX7_isSuspect_97 : decode cX7_isSuspect 97 = .ok (.iload 6, 2) := by decide +kernel
theorem dX7_isSuspect_99 : decode cX7_isSuspect 99 = .ok (.iload 7, 2) := by decide +kernel
theorem dX7_isSuspect_101 : decode cX7_isSuspect 101 = .ok (.invokevirtual 118, 3) := by decide +kernel
theorem dX7_isSuspect_104 : decode cX7_isSuspect 104 = .ok (.isub, 1) := by decide +kernel
theorem dX7_isSuspect_105 : decode cX7_isSuspect 105 = .ok (.iadd, 1) := by decide +kernel
theorem dX7_isSuspect_106 : decode cX7_isSuspect 106 = .ok (.istore_n 3, 1) := by decide +kernel
theorem dX7_isSuspect_107 : decode cX7_isSuspect 107 = .ok (.iinc 5 1, 3) := by decide +kernel
theorem dX7_isSuspect_110 : decode cX7_isSuspect 110 = .ok (.goto (-102), 3) := by decide +kernel
theorem dX7_isSuspect_113 : decode cX7_isSuspect 113 = .ok (.iload 4, 2) := by decide +kernel
theorem dX7_isSuspect_115 : decode cX7_isSuspect 115 = .ok (.ifCond .eq 11, 3) := by decide +kernel
theorem dX7_isSuspect_118 : decode cX7_isSuspect 118 = .ok (.iload_n 3, 1) := by decide +kernel
theorem dX7_isSuspect_119 : decode cX7_isSuspect 119 = .ok (.ifCond .eq 7, 3) := by decide +kernel
theorem dX7_isSuspect_122 : decode cX7_isSuspect 122 = .ok (.iconst 1, 1) := by decide +kernel
theorem dX7_isSuspect_123 : decode cX7_isSuspect 123 = .ok (.goto 4, 3) := by decide +kernel
theorem dX7_isSuspect_126 : decode cX7_isSuspect 126 = .ok (.iconst 0, 1) := by decide +kernel
theorem dX7_isSuspect_127 : decode cX7_isSuspect 127 = .ok (.ireturn, 1) := by decide +kernel
set_option maxRecDepth 20000 in
theorem ggX7_suspects_X7_in : GoodIn wsX7_suspects wsX7_in := goodIn_r _ [6] (by decide +kernel) (by decide +kernel)
set_option maxRecDepth 20000 in
theorem gX7_suspects_X7_in : GoodIn wsX7_suspects (va_wsS RX7 33 yX7_in wsX7_in) := goodIn_app (goodIn_of _ (by decide +kernel)) ggX7_suspects_X7_in
set_option maxRecDepth 20000 in
theorem ggX7_suspects_X7_isSuspect : GoodIn wsX7_suspects wsX7_isSuspect := goodIn_r _ [10, 2, 11, 12, 13, 5, 14, 15, 16, 17, 18, 19, 20, 21, 22, 23, 24, 25, 26, 27, 28, 29, 30, 31, 32, 33, 34] (by decide +kernel) (by decide +kernel)
set_option maxRecDepth 20000 in
theorem gX7_suspects_X7_isSuspect : GoodIn wsX7_suspects (wsV RX7 134 RX7 yX7_isSuspect wsX7_isSuspect) := goodIn_app (goodIn_of _ (by decide +kernel)) ggX7_suspects_X7_isSuspect
theorem dX7_suspects_0 : decode cX7_suspects 0 = .ok (.iload_n 1, 1) := by decide +kernel
theorem dX7_suspects_1 : decode cX7_suspects 1 = .ok (.iconst 0, 1) := by decide +kernel
theorem dX7_suspects_2 : decode cX7_suspects 2 = .ok (.iconst 1, 1) := by decide +kernel
theorem dX7_suspects_3 : decode cX7_suspects 3 = .ok (.invokestatic 33, 3) := by decide +kernel
theorem dX7_suspects_6 : decode cX7_suspects 6 = .ok (.ifCond .ne 6, 3) := by decide +kernel
theorem dX7_suspects_9 : decode cX7_suspects 9 = .ok (.ldc 37, 2) := by decide +kernel
theorem dX7_suspects_11 : decode cX7_suspects 11 = .ok (.ireturn, 1) := by decide +kernel
theorem dX7_suspects_12 : decode cX7_suspects 12 = .ok (.iconst 0, 1) := by decide +kernel
theorem dX7_suspects_13 : decode cX7_suspects 13 = .ok (.istore_n 2, 1) := by decide +kernel
theorem dX7_suspects_14 : decode cX7_suspects 14 = .ok (.iconst 0, 1) := by decide +kernel
theorem dX7_suspects_15 : decode cX7_suspects 15 = .ok (.istore_n 3, 1) := by decide +kernel
theorem dX7_suspects_16 : decode cX7_suspects 16 = .ok (.iload_n 3, 1) := by decide +kernel
theorem dX7_suspects_17 : decode cX7_suspects 17 = .ok (.iload_n 1, 1) := by decide +kernel
theorem dX7_suspects_18 : decode cX7_suspects 18 = .ok (.ifCond .ne 12, 3) := by decide +kernel
theorem dX7_suspects_21 : decode cX7_suspects 21 = .ok (.aload_n 0, 1) := by decide +kernel
theorem dX7_suspects_22 : decode cX7_suspects 22 = .ok (.getfield 7, 3) := by decide +kernel
theorem dX7_suspects_25 : decode cX7_suspects 25 = .ok (.iconst 1, 1) := by decide +kernel
theorem dX7_suspects_26 : decode cX7_suspects 26 = .ok (.iaload, 1) := by decide +kernel
theorem dX7_suspects_27 : decode cX7_suspects 27 = .ok (.goto 9, 3) := by decide +kernel
theorem dX7_suspects_30 : decode cX7_suspects 30 = .ok (.aload_n 0, 1) := by decide +kernel
theorem dX7_suspects_31 : decode cX7_suspects 31 = .ok (.getfield 7, 3) := by decide +kernel
theorem dX7_suspects_34 : decode cX7_suspects 34 = .ok (.iconst 3, 1) := by decide +kernel
theorem dX7_suspects_35 : decode cX7_suspects 35 = .ok (.iaload, 1) := by decide +kernel
theorem dX7_suspects_36 : decode cX7_suspects 36 = .ok (.if_icmp .ge 28, 3) := by decide +kernel
theorem dX7_suspects_39 : decode cX7_suspects 39 = .ok (.iload_n 2, 1) := by decide +kernel
theorem dX7_suspects_40 : decode cX7_suspects 40 = .ok (.aload_n 0, 1) := by decide +kernel
theorem dX7_suspects_41 : decode cX7_suspects 41 = .ok (.iload_n 1, 1) := by decide +kernel
theorem dX7_suspects_42 : decode cX7_suspects 42 = .ok (.iload_n 3, 1) := by decide +kernel
theorem dX7_suspects_43 : decode cX7_suspects 43 = .ok (.invokevirtual 134, 3) := by decide +kernel
theorem dX7_suspects_46 : decode cX7_suspects 46 = .ok (.ifCond .eq 9, 3) := by decide +kernel
theorem dX7_suspects_49 : decode cX7_suspects 49 = .ok (.iconst 1, 1) := by decide +kernel
theorem dX7_suspects_50 : decode cX7_suspects 50 = .ok (.iload_n 3, 1) := by decide +kernel
theorem dX7_suspects_51 : decode cX7_suspects 51 = .ok (.ishl, 1) := by decide +kernel
theorem dX7_suspects_52 : decode cX7_suspects 52 = .ok (.goto 4, 3) := by decide +kernel
theorem dX7_suspects_55 : decode cX7_suspects 55 = .ok (.iconst 0, 1) := by decide +kernel
theorem dX7_suspects_56 : decode cX7_suspects 56 = .ok (.ior, 1) := by decide +kernel
theorem dX7_suspects_57 : decode cX7_suspects 57 = .ok (.istore_n 2, 1) := by decide +kernel
theorem dX7_suspects_58 : decode cX7_suspects 58 = .ok (.iinc 3 1, 3) := by decide +kernel
theorem dX7_suspects_61 : decode cX7_suspects 61 = .ok (.goto (-45), 3) := by decide +kernel
theorem dX7_suspects_64 : decode cX7_suspects 64 = .ok (.iload_n 2, 1) := by decide +kernel
theorem dX7_suspects_65 : decode cX7_suspects 65 = .ok (.ireturn, 1) := by decide +kernel
set_option maxRecDepth 20000 in
theorem ggX7_wrongWithout_X7_doesAll : GoodIn wsX7_wrongWithout wsX7_doesAll := goodIn_r _ [7, 2, 8, 9, 10, 6, 11, 12, 13, 14, 15, 16, 17, 18, 19, 20, 21, 22, 23, 24, 25, 26, 27, 28, 29, 30, 31, 32, 33, 34, 35, 36, 37, 38, 39, 40, 41, 42, 43, 44, 45, 46, 47, 48, 49, 50, 51, 52, 53, 54, 55, 56, 57, 58, 59, 60, 61, 62, 63, 64, 65, 78, 79, 80, 81, 82, 83, 84, 85, 86, 87, 88, 89, 90, 91, 92, 93] (by decide +kernel) (by decide +kernel)
set_option maxRecDepth 20000 in
theorem gX7_wrongWithout_X7_doesAll : GoodIn wsX7_wrongWithout (wsV RX7 114 RX7 yX7_doesAll wsX7_doesAll) := goodIn_app (goodIn_of _ (by decide +kernel)) ggX7_wrongWithout_X7_doesAll
set_option maxRecDepth 20000 in
theorem ggX7_wrongWithout_X7_wrong : GoodIn wsX7_wrongWithout wsX7_wrong := goodIn_r _ [69, 2, 70, 71, 72, 6, 73, 74, 75, 76, 77, 78, 79, 80, 81, 82, 83, 84, 85, 86, 87, 88, 89, 90, 91, 92, 93] (by decide +kernel) (by decide +kernel)
set_option maxRecDepth 20000 in
theorem gX7_wrongWithout_X7_wrong : GoodIn wsX7_wrongWithout (wsV RX7 125 RX7 yX7_wrong wsX7_wrong) := goodIn_app (goodIn_of _ (by decide +kernel)) ggX7_wrongWithout_X7_wrong
theorem dX7_wrongWithout_0 : decode cX7_wrongWithout 0 = .ok (.iconst 0, 1) := by decide +kernel
theorem dX7_wrongWithout_1 : decode cX7_wrongWithout 1 = .ok (.istore_n 2, 1) := by decide +kernel
theorem dX7_wrongWithout_2 : decode cX7_wrongWithout 2 = .ok (.iload_n 2, 1) := by decide +kernel
theorem dX7_wrongWithout_3 : decode cX7_wrongWithout 3 = .ok (.sipush 269, 3) := by decide +kernel
theorem dX7_wrongWithout_6 : decode cX7_wrongWithout 6 = .ok (.if_icmp .ge 21, 3) := by decide +kernel
theorem dX7_wrongWithout_9 : decode cX7_wrongWithout 9 = .ok (.aload_n 0, 1) := by decide +kernel
theorem dX7_wrongWithout_10 : decode cX7_wrongWithout 10 = .ok (.getfield 16, 3) := by decide +kernel
theorem dX7_wrongWithout_13 : decode cX7_wrongWithout 13 = .ok (.iload_n 2, 1) := by decide +kernel
theorem dX7_wrongWithout_14 : decode cX7_wrongWithout 14 = .ok (.aload_n 0, 1) := by decide +kernel
theorem dX7_wrongWithout_15 : decode cX7_wrongWithout 15 = .ok (.getfield 7, 3) := by decide +kernel
theorem dX7_wrongWithout_18 : decode cX7_wrongWithout 18 = .ok (.iload_n 2, 1) := by decide +kernel
theorem dX7_wrongWithout_19 : decode cX7_wrongWithout 19 = .ok (.iaload, 1) := by decide +kernel
theorem dX7_wrongWithout_20 : decode cX7_wrongWithout 20 = .ok (.iastore, 1) := by decide +kernel
theorem dX7_wrongWithout_21 : decode cX7_wrongWithout 21 = .ok (.iinc 2 1, 3) := by decide +kernel
theorem dX7_wrongWithout_24 : decode cX7_wrongWithout 24 = .ok (.goto (-22), 3) := by decide +kernel
theorem dX7_wrongWithout_27 : decode cX7_wrongWithout 27 = .ok (.aload_n 0, 1) := by decide +kernel
theorem dX7_wrongWithout_28 : decode cX7_wrongWithout 28 = .ok (.getfield 7, 3) := by decide +kernel
theorem dX7_wrongWithout_31 : decode cX7_wrongWithout 31 = .ok (.iconst 4, 1) := by decide +kernel
theorem dX7_wrongWithout_32 : decode cX7_wrongWithout 32 = .ok (.iload_n 1, 1) := by decide +kernel
theorem dX7_wrongWithout_33 : decode cX7_wrongWithout 33 = .ok (.iastore, 1) := by decide +kernel
theorem dX7_wrongWithout_34 : decode cX7_wrongWithout 34 = .ok (.aload_n 0, 1) := by decide +kernel
theorem dX7_wrongWithout_35 : decode cX7_wrongWithout 35 = .ok (.invokevirtual 114, 3) := by decide +kernel
theorem dX7_wrongWithout_38 : decode cX7_wrongWithout 38 = .ok (.istore_n 2, 1) := by decide +kernel
theorem dX7_wrongWithout_39 : decode cX7_wrongWithout 39 = .ok (.iload_n 2, 1) := by decide +kernel
theorem dX7_wrongWithout_40 : decode cX7_wrongWithout 40 = .ok (.ifCond .le 10, 3) := by decide +kernel
theorem dX7_wrongWithout_43 : decode cX7_wrongWithout 43 = .ok (.aload_n 0, 1) := by decide +kernel
theorem dX7_wrongWithout_44 : decode cX7_wrongWithout 44 = .ok (.invokevirtual 125, 3) := by decide +kernel
theorem dX7_wrongWithout_47 : decode cX7_wrongWithout 47 = .ok (.goto 4, 3) := by decide +kernel
theorem dX7_wrongWithout_50 : decode cX7_wrongWithout 50 = .ok (.iconst 0, 1) := by decide +kernel
theorem dX7_wrongWithout_51 : decode cX7_wrongWithout 51 = .ok (.istore_n 3, 1) := by decide +kernel
theorem dX7_wrongWithout_52 : decode cX7_wrongWithout 52 = .ok (.iconst 0, 1) := by decide +kernel
theorem dX7_wrongWithout_53 : decode cX7_wrongWithout 53 = .ok (.istore 4, 2) := by decide +kernel
theorem dX7_wrongWithout_55 : decode cX7_wrongWithout 55 = .ok (.iload 4, 2) := by decide +kernel
theorem dX7_wrongWithout_57 : decode cX7_wrongWithout 57 = .ok (.sipush 269, 3) := by decide +kernel
theorem dX7_wrongWithout_60 : decode cX7_wrongWithout 60 = .ok (.if_icmp .ge 23, 3) := by decide +kernel
theorem dX7_wrongWithout_63 : decode cX7_wrongWithout 63 = .ok (.aload_n 0, 1) := by decide +kernel
theorem dX7_wrongWithout_64 : decode cX7_wrongWithout 64 = .ok (.getfield 7, 3) := by decide +kernel
theorem dX7_wrongWithout_67 : decode cX7_wrongWithout 67 = .ok (.iload 4, 2) := by decide +kernel
theorem dX7_wrongWithout_69 : decode cX7_wrongWithout 69 = .ok (.aload_n 0, 1) := by decide +kernel
theorem dX7_wrongWithout_70 : decode cX7_wrongWithout 70 = .ok (.getfield 16, 3) := by decide +kernel
theorem dX7_wrongWithout_73 : decode cX7_wrongWithout 73 = .ok (.iload 4, 2) := by decide +kernel
theorem dX7_wrongWithout_75 : decode cX7_wrongWithout 75 = .ok (.iaload, 1) := by decide +kernel
theorem dX7_wrongWithout_76 : decode cX7_wrongWithout 76 = .ok (.iastore, 1) := by decide +kernel
theorem dX7_wrongWithout_77 : decode cX7_wrongWithout 77 = .ok (.iinc 4 1, 3) := by decide +kernel
theorem dX7_wrongWithout_80 : decode cX7_wrongWithout 80 = .ok (.goto (-25), 3) := by decide +kernel
theorem dX7_wrongWithout_83 : decode cX7_wrongWithout 83 = .ok (.iload_n 3, 1) := by decide +kernel
theorem dX7_wrongWithout_84 : decode cX7_wrongWithout 84 = .ok (.ireturn, 1) := by decide +kernel
set_option maxRecDepth 20000 in
theorem ggX7_wouldBeWrong_X7_in : GoodIn wsX7_wouldBeWrong wsX7_in := goodIn_r _ [6] (by decide +kernel) (by decide +kernel)
set_option maxRecDepth 20000 in
theorem gX7_wouldBeWrong_X7_in : GoodIn wsX7_wouldBeWrong (va_wsS RX7 33 yX7_in wsX7_in) := goodIn_app (goodIn_of _ (by decide +kernel)) ggX7_wouldBeWrong_X7_in
set_option maxRecDepth 20000 in
theorem ggX7_wouldBeWrong_X7_wrongWithout : GoodIn wsX7_wouldBeWrong wsX7_wrongWithout := goodIn_r _ [10, 11, 1, 12, 13, 14, 5, 15, 16, 17, 18, 19, 20, 21, 22, 23, 24, 25, 26, 27, 28, 29, 30, 31, 32, 33, 34, 35, 36, 37, 38, 39, 40, 41, 42, 43, 44, 45, 46, 47, 48, 49, 50, 51, 52, 53, 54, 55, 3, 4, 6, 56, 57, 58, 59, 60, 61, 62, 63, 64, 65, 66, 67, 68, 69, 70, 71, 72, 73, 74, 75, 76, 77, 78, 79, 80, 81, 82, 83, 84, 85, 86, 87, 88, 89, 90, 91, 92, 93, 94, 95, 96, 97, 98] (by decide +kernel) (by decide +kernel)
set_option maxRecDepth 20000 in
theorem gX7_wouldBeWrong_X7_wrongWithout : GoodIn wsX7_wouldBeWrong (wsV RX7 137 RX7 yX7_wrongWithout wsX7_wrongWithout) := goodIn_app (goodIn_of _ (by decide +kernel)) ggX7_wouldBeWrong_X7_wrongWithout
theorem dX7_wouldBeWrong_0 : decode cX7_wouldBeWrong 0 = .ok (.iload_n 1, 1) := by decide +kernel
theorem dX7_wouldBeWrong_1 : decode cX7_wouldBeWrong 1 = .ok (.iconst 0, 1) := by decide +kernel
theorem dX7_wouldBeWrong_2 : decode cX7_wouldBeWrong 2 = .ok (.aload_n 0, 1) := by decide +kernel
theorem dX7_wouldBeWrong_3 : decode cX7_wouldBeWrong 3 = .ok (.getfield 7, 3) := by decide +kernel
theorem dX7_wouldBeWrong_6 : decode cX7_wouldBeWrong 6 = .ok (.iconst 0, 1) := by decide +kernel
theorem dX7_wouldBeWrong_7 : decode cX7_wouldBeWrong 7 = .ok (.iaload, 1) := by decide +kernel
theorem dX7_wouldBeWrong_8 : decode cX7_wouldBeWrong 8 = .ok (.invokestatic 33, 3) := by decide +kernel
theorem dX7_wouldBeWrong_11 : decode cX7_wouldBeWrong 11 = .ok (.ifCond .eq 11, 3) := by decide +kernel
theorem dX7_wouldBeWrong_14 : decode cX7_wouldBeWrong 14 = .ok (.aload_n 0, 1) := by decide +kernel
theorem dX7_wouldBeWrong_15 : decode cX7_wouldBeWrong 15 = .ok (.iload_n 1, 1) := by decide +kernel
theorem dX7_wouldBeWrong_16 : decode cX7_wouldBeWrong 16 = .ok (.invokevirtual 137, 3) := by decide +kernel
theorem dX7_wouldBeWrong_19 : decode cX7_wouldBeWrong 19 = .ok (.goto 5, 3) := by decide +kernel
theorem dX7_wouldBeWrong_22 : decode cX7_wouldBeWrong 22 = .ok (.ldc 37, 2) := by decide +kernel
theorem dX7_wouldBeWrong_24 : decode cX7_wouldBeWrong 24 = .ok (.ireturn, 1) := by decide +kernel
set_option maxRecDepth 20000 in
theorem ggX7_best_X7_wrongWithout : GoodIn wsX7_best wsX7_wrongWithout := goodIn_r _ [6, 7, 1, 8, 9, 10, 5, 11, 12, 13, 14, 15, 16, 17, 18, 19, 20, 21, 22, 23, 24, 25, 26, 27, 28, 29, 30, 31, 32, 33, 34, 35, 36, 37, 38, 39, 40, 41, 42, 43, 44, 45, 46, 47, 48, 49, 50, 51, 52, 53, 54, 55, 56, 57, 58, 59, 60, 61, 62, 63, 64, 65, 66, 67, 68, 69, 70, 71, 72, 73, 74, 75, 76, 77, 78, 79, 80, 81, 82, 83, 84, 85, 86, 87, 88, 89, 90, 91, 92, 93, 94, 95, 96, 97] (by decide +kernel) (by decide +kernel)
set_option maxRecDepth 20000 in
theorem gX7_best_X7_wrongWithout : GoodIn wsX7_best (wsV RX7 137 RX7 yX7_wrongWithout wsX7_wrongWithout) := goodIn_app (goodIn_of _ (by decide +kernel)) ggX7_best_X7_wrongWithout
theorem dX7_best_0 : decode cX7_best 0 = .ok (.iconst 0, 1) := by decide +kernel
theorem dX7_best_1 : decode cX7_best 1 = .ok (.istore_n 1, 1) := by decide +kernel
theorem dX7_best_2 : decode cX7_best 2 = .ok (.aload_n 0, 1) := by decide +kernel
theorem dX7_best_3 : decode cX7_best 3 = .ok (.iconst 0, 1) := by decide +kernel
theorem dX7_best_4 : decode cX7_best 4 = .ok (.invokevirtual 137, 3) := by decide +kernel
theorem dX7_best_7 : decode cX7_best 7 = .ok (.istore_n 2, 1) := by decide +kernel
theorem dX7_best_8 : decode cX7_best 8 = .ok (.iconst 1, 1) := by decide +kernel
theorem dX7_best_9 : decode cX7_best 9 = .ok (.istore_n 3, 1) := by decide +kernel
theorem dX7_best_10 : decode cX7_best 10 = .ok (.iload_n 3, 1) := by decide +kernel
theorem dX7_best_11 : decode cX7_best 11 = .ok (.aload_n 0, 1) := by decide +kernel
theorem dX7_best_12 : decode cX7_best 12 = .ok (.getfield 7, 3) := by decide +kernel
theorem dX7_best_15 : decode cX7_best 15 = .ok (.iconst 0, 1) := by decide +kernel
theorem dX7_best_16 : decode cX7_best 16 = .ok (.iaload, 1) := by decide +kernel
theorem dX7_best_17 : decode cX7_best 17 = .ok (.if_icmp .gt 27, 3) := by decide +kernel
theorem dX7_best_20 : decode cX7_best 20 = .ok (.aload_n 0, 1) := by decide +kernel
theorem dX7_best_21 : decode cX7_best 21 = .ok (.iload_n 3, 1) := by decide +kernel
theorem dX7_best_22 : decode cX7_best 22 = .ok (.invokevirtual 137, 3) := by decide +kernel
theorem dX7_best_25 : decode cX7_best 25 = .ok (.istore 4, 2) := by decide +kernel
theorem dX7_best_27 : decode cX7_best 27 = .ok (.iload 4, 2) := by decide +kernel
theorem dX7_best_29 : decode cX7_best 29 = .ok (.iload_n 2, 1) := by decide +kernel
theorem dX7_best_30 : decode cX7_best 30 = .ok (.if_icmp .gt 8, 3) := by decide +kernel
theorem dX7_best_33 : decode cX7_best 33 = .ok (.iload_n 3, 1) := by decide +kernel
theorem dX7_best_34 : decode cX7_best 34 = .ok (.istore_n 1, 1) := by decide +kernel
theorem dX7_best_35 : decode cX7_best 35 = .ok (.iload 4, 2) := by decide +kernel
theorem dX7_best_37 : decode cX7_best 37 = .ok (.istore_n 2, 1) := by decide +kernel
theorem dX7_best_38 : decode cX7_best 38 = .ok (.iinc 3 1, 3) := by decide +kernel
theorem dX7_best_41 : decode cX7_best 41 = .ok (.goto (-31), 3) := by decide +kernel
theorem dX7_best_44 : decode cX7_best 44 = .ok (.iload_n 1, 1) := by decide +kernel
theorem dX7_best_45 : decode cX7_best 45 = .ok (.ireturn, 1) := by decide +kernel
theorem dX7_undo_0 : decode cX7_undo 0 = .ok (.aload_n 0, 1) := by decide +kernel
theorem dX7_undo_1 : decode cX7_undo 1 = .ok (.getfield 25, 3) := by decide +kernel
theorem dX7_undo_4 : decode cX7_undo 4 = .ok (.ifCond .ne 6, 3) := by decide +kernel
theorem dX7_undo_7 : decode cX7_undo 7 = .ok (.ldc 58, 2) := by decide +kernel
theorem dX7_undo_9 : decode cX7_undo 9 = .ok (.ireturn, 1) := by decide +kernel
theorem dX7_undo_10 : decode cX7_undo 10 = .ok (.aload_n 0, 1) := by decide +kernel
theorem dX7_undo_11 : decode cX7_undo 11 = .ok (.dup, 1) := by decide +kernel
theorem dX7_undo_12 : decode cX7_undo 12 = .ok (.getfield 25, 3) := by decide +kernel
theorem dX7_undo_15 : decode cX7_undo 15 = .ok (.iconst 1, 1) := by decide +kernel
theorem dX7_undo_16 : decode cX7_undo 16 = .ok (.isub, 1) := by decide +kernel
theorem dX7_undo_17 : decode cX7_undo 17 = .ok (.putfield 25, 3) := by decide +kernel
theorem dX7_undo_20 : decode cX7_undo 20 = .ok (.iconst 0, 1) := by decide +kernel
theorem dX7_undo_21 : decode cX7_undo 21 = .ok (.istore_n 1, 1) := by decide +kernel
theorem dX7_undo_22 : decode cX7_undo 22 = .ok (.iload_n 1, 1) := by decide +kernel
theorem dX7_undo_23 : decode cX7_undo 23 = .ok (.sipush 269, 3) := by decide +kernel
theorem dX7_undo_26 : decode cX7_undo 26 = .ok (.if_icmp .ge 30, 3) := by decide +kernel
theorem dX7_undo_29 : decode cX7_undo 29 = .ok (.aload_n 0, 1) := by decide +kernel
theorem dX7_undo_30 : decode cX7_undo 30 = .ok (.getfield 7, 3) := by decide +kernel
theorem dX7_undo_33 : decode cX7_undo 33 = .ok (.iload_n 1, 1) := by decide +kernel
theorem dX7_undo_34 : decode cX7_undo 34 = .ok (.aload_n 0, 1) := by decide +kernel
theorem dX7_undo_35 : decode cX7_undo 35 = .ok (.getfield 13, 3) := by decide +kernel
theorem dX7_undo_38 : decode cX7_undo 38 = .ok (.sipush 269, 3) := by decide +kernel
theorem dX7_undo_41 : decode cX7_undo 41 = .ok (.aload_n 0, 1) := by decide +kernel
theorem dX7_undo_42 : decode cX7_undo 42 = .ok (.getfield 25, 3) := by decide +kernel
theorem dX7_undo_45 : decode cX7_undo 45 = .ok (.imul, 1) := by decide +kernel
theorem dX7_undo_46 : decode cX7_undo 46 = .ok (.iload_n 1, 1) := by decide +kernel
theorem dX7_undo_47 : decode cX7_undo 47 = .ok (.iadd, 1) := by decide +kernel
theorem dX7_undo_48 : decode cX7_undo 48 = .ok (.iaload, 1) := by decide +kernel
theorem dX7_undo_49 : decode cX7_undo 49 = .ok (.iastore, 1) := by decide +kernel
theorem dX7_undo_50 : decode cX7_undo 50 = .ok (.iinc 1 1, 3) := by decide +kernel
theorem dX7_undo_53 : decode cX7_undo 53 = .ok (.goto (-31), 3) := by decide +kernel
theorem dX7_undo_56 : decode cX7_undo 56 = .ok (.aload_n 0, 1) := by decide +kernel
theorem dX7_undo_57 : decode cX7_undo 57 = .ok (.getfield 25, 3) := by decide +kernel
theorem dX7_undo_60 : decode cX7_undo 60 = .ok (.ireturn, 1) := by decide +kernel
set_option maxRecDepth 20000 in
theorem ggX7_type_X7_in : GoodIn wsX7_type wsX7_in := goodIn_r _ [8] (by decide +kernel) (by decide +kernel)
set_option maxRecDepth 20000 in
theorem gX7_type_X7_in : GoodIn wsX7_type (va_wsS RX7 33 yX7_in wsX7_in) := goodIn_app (goodIn_of _ (by decide +kernel)) ggX7_type_X7_in
theorem dX7_type_0 : decode cX7_type 0 = .ok (.iload_n 1, 1) := by decide +kernel
theorem dX7_type_1 : decode cX7_type 1 = .ok (.bipush 32, 2) := by decide +kernel
theorem dX7_type_3 : decode cX7_type 3 = .ok (.bipush 126, 2) := by decide +kernel
theorem dX7_type_5 : decode cX7_type 5 = .ok (.invokestatic 33, 3) := by decide +kernel
theorem dX7_type_8 : decode cX7_type 8 = .ok (.ifCond .ne 6, 3) := by decide +kernel
theorem dX7_type_11 : decode cX7_type 11 = .ok (.ldc 37, 2) := by decide +kernel
theorem dX7_type_13 : decode cX7_type 13 = .ok (.ireturn, 1) := by decide +kernel
theorem dX7_type_14 : decode cX7_type 14 = .ok (.aload_n 0, 1) := by decide +kernel
theorem dX7_type_15 : decode cX7_type 15 = .ok (.getfield 131, 3) := by decide +kernel
theorem dX7_type_18 : decode cX7_type 18 = .ok (.bipush 80, 2) := by decide +kernel
theorem dX7_type_20 : decode cX7_type 20 = .ok (.if_icmp .ne 6, 3) := by decide +kernel
theorem dX7_type_23 : decode cX7_type 23 = .ok (.ldc 140, 2) := by decide +kernel
theorem dX7_type_25 : decode cX7_type 25 = .ok (.ireturn, 1) := by decide +kernel
theorem dX7_type_26 : decode cX7_type 26 = .ok (.aload_n 0, 1) := by decide +kernel
theorem dX7_type_27 : decode cX7_type 27 = .ok (.getfield 19, 3) := by decide +kernel
theorem dX7_type_30 : decode cX7_type 30 = .ok (.aload_n 0, 1) := by decide +kernel
theorem dX7_type_31 : decode cX7_type 31 = .ok (.getfield 131, 3) := by decide +kernel
theorem dX7_type_34 : decode cX7_type 34 = .ok (.iload_n 1, 1) := by decide +kernel
theorem dX7_type_35 : decode cX7_type 35 = .ok (.iastore, 1) := by decide +kernel
theorem dX7_type_36 : decode cX7_type 36 = .ok (.aload_n 0, 1) := by decide +kernel
theorem dX7_type_37 : decode cX7_type 37 = .ok (.dup, 1) := by decide +kernel
theorem dX7_type_38 : decode cX7_type 38 = .ok (.getfield 131, 3) := by decide +kernel
theorem dX7_type_41 : decode cX7_type 41 = .ok (.iconst 1, 1) := by decide +kernel
theorem dX7_type_42 : decode cX7_type 42 = .ok (.iadd, 1) := by decide +kernel
theorem dX7_type_43 : decode cX7_type 43 = .ok (.putfield 131, 3) := by decide +kernel
theorem dX7_type_46 : decode cX7_type 46 = .ok (.aload_n 0, 1) := by decide +kernel
theorem dX7_type_47 : decode cX7_type 47 = .ok (.getfield 131, 3) := by decide +kernel
theorem dX7_type_50 : decode cX7_type 50 = .ok (.ireturn, 1) := by decide +kernel
theorem dX7_clearText_0 : decode cX7_clearText 0 = .ok (.aload_n 0, 1) := by decide +kernel
theorem dX7_clearText_1 : decode cX7_clearText 1 = .ok (.getfield 131, 3) := by decide +kernel
theorem dX7_clearText_4 : decode cX7_clearText 4 = .ok (.istore_n 1, 1) := by decide +kernel
theorem dX7_clearText_5 : decode cX7_clearText 5 = .ok (.aload_n 0, 1) := by decide +kernel
theorem dX7_clearText_6 : decode cX7_clearText 6 = .ok (.iconst 0, 1) := by decide +kernel
theorem dX7_clearText_7 : decode cX7_clearText 7 = .ok (.putfield 131, 3) := by decide +kernel
theorem dX7_clearText_10 : decode cX7_clearText 10 = .ok (.iload_n 1, 1) := by decide +kernel
theorem dX7_clearText_11 : decode cX7_clearText 11 = .ok (.ireturn, 1) := by decide +kernel
set_option maxRecDepth 20000 in
theorem ggX7_isDigit_X7_in : GoodIn wsX7_isDigit wsX7_in := goodIn_r _ [7] (by decide +kernel) (by decide +kernel)
set_option maxRecDepth 20000 in
theorem gX7_isDigit_X7_in : GoodIn wsX7_isDigit (va_wsS RX7 33 yX7_in wsX7_in) := goodIn_app (goodIn_of _ (by decide +kernel)) ggX7_isDigit_X7_in
theorem dX7_isDigit_0 : decode cX7_isDigit 0 = .ok (.aload_n 0, 1) := by decide +kernel
theorem dX7_isDigit_1 : decode cX7_isDigit 1 = .ok (.getfield 141, 3) := by decide +kernel
theorem dX7_isDigit_4 : decode cX7_isDigit 4 = .ok (.aload_n 0, 1) := by decide +kernel
theorem dX7_isDigit_5 : decode cX7_isDigit 5 = .ok (.getfield 131, 3) := by decide +kernel
theorem dX7_isDigit_8 : decode cX7_isDigit 8 = .ok (.if_icmp .ge 26, 3) := by decide +kernel
theorem dX7_isDigit_11 : decode cX7_isDigit 11 = .ok (.aload_n 0, 1) := by decide +kernel
theorem dX7_isDigit_12 : decode cX7_isDigit 12 = .ok (.getfield 19, 3) := by decide +kernel
theorem dX7_isDigit_15 : decode cX7_isDigit 15 = .ok (.aload_n 0, 1) := by decide +kernel
theorem dX7_isDigit_16 : decode cX7_isDigit 16 = .ok (.getfield 141, 3) := by decide +kernel
theorem dX7_isDigit_19 : decode cX7_isDigit 19 = .ok (.iaload, 1) := by decide +kernel
theorem dX7_isDigit_20 : decode cX7_isDigit 20 = .ok (.bipush 48, 2) := by decide +kernel
theorem dX7_isDigit_22 : decode cX7_isDigit 22 = .ok (.bipush 57, 2) := by decide +kernel
theorem dX7_isDigit_24 : decode cX7_isDigit 24 = .ok (.invokestatic 33, 3) := by decide +kernel
theorem dX7_isDigit_27 : decode cX7_isDigit 27 = .ok (.ifCond .eq 7, 3) := by decide +kernel
theorem dX7_isDigit_30 : decode cX7_isDigit 30 = .ok (.iconst 1, 1) := by decide +kernel
theorem dX7_isDigit_31 : decode cX7_isDigit 31 = .ok (.goto 4, 3) := by decide +kernel
theorem dX7_isDigit_34 : decode cX7_isDigit 34 = .ok (.iconst 0, 1) := by decide +kernel
theorem dX7_isDigit_35 : decode cX7_isDigit 35 = .ok (.ireturn, 1) := by decide +kernel
set_option maxRecDepth 20000 in
theorem ggX7_number_X7_isDigit : GoodIn wsX7_number wsX7_isDigit := goodIn_r _ [11, 1, 2, 3, 12, 13, 10, 14, 15, 16, 17, 18, 19, 20, 21, 22, 23, 24, 25, 26, 27, 28, 29, 30] (by decide +kernel) (by decide +kernel)
set_option maxRecDepth 20000 in
theorem gX7_number_X7_isDigit : GoodIn wsX7_number (wsV RX7 144 RX7 yX7_isDigit wsX7_isDigit) := goodIn_app (goodIn_of _ (by decide +kernel)) ggX7_number_X7_isDigit
theorem dX7_number_0 : decode cX7_number 0 = .ok (.aload_n 0, 1) := by decide +kernel
theorem dX7_number_1 : decode cX7_number 1 = .ok (.getfield 141, 3) := by decide +kernel
theorem dX7_number_4 : decode cX7_number 4 = .ok (.aload_n 0, 1) := by decide +kernel
theorem dX7_number_5 : decode cX7_number 5 = .ok (.getfield 131, 3) := by decide +kernel
theorem dX7_number_8 : decode cX7_number 8 = .ok (.if_icmp .ge 21, 3) := by decide +kernel
theorem dX7_number_11 : decode cX7_number 11 = .ok (.aload_n 0, 1) := by decide +kernel
theorem dX7_number_12 : decode cX7_number 12 = .ok (.getfield 19, 3) := by decide +kernel
theorem dX7_number_15 : decode cX7_number 15 = .ok (.aload_n 0, 1) := by decide +kernel
theorem dX7_number_16 : decode cX7_number 16 = .ok (.getfield 141, 3) := by decide +kernel
theorem dX7_number_19 : decode cX7_number 19 = .ok (.iaload, 1) := by decide +kernel
theorem dX7_number_20 : decode cX7_number 20 = .ok (.bipush 45, 2) := by decide +kernel
theorem dX7_number_22 : decode cX7_number 22 = .ok (.if_icmp .ne 7, 3) := by decide +kernel
theorem dX7_number_25 : decode cX7_number 25 = .ok (.iconst 1, 1) := by decide +kernel
theorem dX7_number_26 : decode cX7_number 26 = .ok (.goto 4, 3) := by decide +kernel
theorem dX7_number_29 : decode cX7_number 29 = .ok (.iconst 0, 1) := by decide +kernel
theorem dX7_number_30 : decode cX7_number 30 = .ok (.istore_n 1, 1) := by decide +kernel
theorem dX7_number_31 : decode cX7_number 31 = .ok (.aload_n 0, 1) := by decide +kernel
theorem dX7_number_32 : decode cX7_number 32 = .ok (.dup, 1) := by decide +kernel
theorem dX7_number_33 : decode cX7_number 33 = .ok (.getfield 141, 3) := by decide +kernel
theorem dX7_number_36 : decode cX7_number 36 = .ok (.iload_n 1, 1) := by decide +kernel
theorem dX7_number_37 : decode cX7_number 37 = .ok (.ifCond .eq 7, 3) := by decide +kernel
theorem dX7_number_40 : decode cX7_number 40 = .ok (.iconst 1, 1) := by decide +kernel
theorem dX7_number_41 : decode cX7_number 41 = .ok (.goto 4, 3) := by decide +kernel
theorem dX7_number_44 : decode cX7_number 44 = .ok (.iconst 0, 1) := by decide +kernel
theorem dX7_number_45 : decode cX7_number 45 = .ok (.iadd, 1) := by decide +kernel
theorem dX7_number_46 : decode cX7_number 46 = .ok (.putfield 141, 3) := by decide +kernel
theorem dX7_number_49 : decode cX7_number 49 = .ok (.aload_n 0, 1) := by decide +kernel
theorem dX7_number_50 : decode cX7_number 50 = .ok (.invokevirtual 144, 3) := by decide +kernel
theorem dX7_number_53 : decode cX7_number 53 = .ok (.ifCond .ne 5, 3) := by decide +kernel
theorem dX7_number_56 : decode cX7_number 56 = .ok (.iconst 0, 1) := by decide +kernel
theorem dX7_number_57 : decode cX7_number 57 = .ok (.ireturn, 1) := by decide +kernel
theorem dX7_number_58 : decode cX7_number 58 = .ok (.aload_n 0, 1) := by decide +kernel
theorem dX7_number_59 : decode cX7_number 59 = .ok (.getfield 19, 3) := by decide +kernel
theorem dX7_number_62 : decode cX7_number 62 = .ok (.aload_n 0, 1) := by decide +kernel
theorem dX7_number_63 : decode cX7_number 63 = .ok (.getfield 141, 3) := by decide +kernel
theorem dX7_number_66 : decode cX7_number 66 = .ok (.iaload, 1) := by decide +kernel
theorem dX7_number_67 : decode cX7_number 67 = .ok (.bipush 48, 2) := by decide +kernel
theorem dX7_number_69 : decode cX7_number 69 = .ok (.isub, 1) := by decide +kernel
theorem dX7_number_70 : decode cX7_number 70 = .ok (.istore_n 2, 1) := by decide +kernel
theorem dX7_number_71 : decode cX7_number 71 = .ok (.aload_n 0, 1) := by decide +kernel
theorem dX7_number_72 : decode cX7_number 72 = .ok (.dup, 1) := by decide +kernel
theorem dX7_number_73 : decode cX7_number 73 = .ok (.getfield 141, 3) := by decide +kernel
theorem dX7_number_76 : decode cX7_number 76 = .ok (.iconst 1, 1) := by decide +kernel
theorem dX7_number_77 : decode cX7_number 77 = .ok (.iadd, 1) := by decide +kernel
theorem dX7_number_78 : decode cX7_number 78 = .ok (.putfield 141, 3) := by decide +kernel
theorem dX7_number_81 : decode cX7_number 81 = .ok (.aload_n 0, 1) := by decide +kernel
theorem dX7_number_82 : decode cX7_number 82 = .ok (.invokevirtual 144, 3) := by decide +kernel
theorem dX7_number_85 : decode cX7_number 85 = .ok (.ifCond .eq 31, 3) := by decide +kernel
theorem dX7_number_88 : decode cX7_number 88 = .ok (.bipush 10, 2) := by decide +kernel
theorem dX7_number_90 : decode cX7_number 90 = .ok (.iload_n 2, 1) := by decide +kernel
theorem dX7_number_91 : decode cX7_number 91 = .ok (.imul, 1) := by decide +kernel
theorem dX7_number_92 : decode cX7_number 92 = .ok (.aload_n 0, 1) := by decide +kernel
theorem dX7_number_93 : decode cX7_number 93 = .ok (.getfield 19, 3) := by decide +kernel
theorem dX7_number_96 : decode cX7_number 96 = .ok (.aload_n 0, 1) := by decide +kernel
theorem dX7_number_97 : decode cX7_number 97 = .ok (.getfield 141, 3) := by decide +kernel
theorem dX7_number_100 : decode cX7_number 100 = .ok (.iaload, 1) := by decide +kernel
theorem dX7_number_101 : decode cX7_number 101 = .ok (.iadd, 1) := by decide +kernel
theorem dX7_number_102 : decode cX7_number 102 = .ok (.bipush 48, 2) := by decide +kernel
theorem dX7_number_104 : decode cX7_number 104 = .ok (.isub, 1) := by decide +kernel
theorem dX7_number_105 : decode cX7_number 105 = .ok (.istore_n 2, 1) := by decide +kernel
theorem dX7_number_106 : decode cX7_number 106 = .ok (.aload_n 0, 1) := by decide +kernel
theorem dX7_number_107 : decode cX7_number 107 = .ok (.dup, 1) := by decide +kernel
theorem dX7_number_108 : decode cX7_number 108 = .ok (.getfield 141, 3) := by decide +kernel
theorem dX7_number_111 : decode cX7_number 111 = .ok (.iconst 1, 1) := by decide +kernel
theorem dX7_number_112 : decode cX7_number 112 = .ok (.iadd, 1) := by decide +kernel
theorem dX7_number_113 : decode cX7_number 113 = .ok (.putfield 141, 3) := by decide +kernel
theorem dX7_number_116 : decode cX7_number 116 = .ok (.aload_n 0, 1) := by decide +kernel
theorem dX7_number_117 : decode cX7_number 117 = .ok (.getfield 22, 3) := by decide +kernel
theorem dX7_number_120 : decode cX7_number 120 = .ok (.bipush 6, 2) := by decide +kernel
theorem dX7_number_122 : decode cX7_number 122 = .ok (.aload_n 0, 1) := by decide +kernel
theorem dX7_number_123 : decode cX7_number 123 = .ok (.getfield 147, 3) := by decide +kernel
theorem dX7_number_126 : decode cX7_number 126 = .ok (.imul, 1) := by decide +kernel
theorem dX7_number_127 : decode cX7_number 127 = .ok (.aload_n 0, 1) := by decide +kernel
theorem dX7_number_128 : decode cX7_number 128 = .ok (.getfield 150, 3) := by decide +kernel
theorem dX7_number_131 : decode cX7_number 131 = .ok (.iadd, 1) := by decide +kernel
theorem dX7_number_132 : decode cX7_number 132 = .ok (.iload_n 1, 1) := by decide +kernel
theorem dX7_number_133 : decode cX7_number 133 = .ok (.ifCond .eq 8, 3) := by decide +kernel
theorem dX7_number_136 : decode cX7_number 136 = .ok (.iload_n 2, 1) := by decide +kernel
theorem dX7_number_137 : decode cX7_number 137 = .ok (.ineg, 1) := by decide +kernel
theorem dX7_number_138 : decode cX7_number 138 = .ok (.goto 4, 3) := by decide +kernel
theorem dX7_number_141 : decode cX7_number 141 = .ok (.iload_n 2, 1) := by decide +kernel
theorem dX7_number_142 : decode cX7_number 142 = .ok (.iastore, 1) := by decide +kernel
theorem dX7_number_143 : decode cX7_number 143 = .ok (.aload_n 0, 1) := by decide +kernel
theorem dX7_number_144 : decode cX7_number 144 = .ok (.dup, 1) := by decide +kernel
theorem dX7_number_145 : decode cX7_number 145 = .ok (.getfield 150, 3) := by decide +kernel
theorem dX7_number_148 : decode cX7_number 148 = .ok (.iconst 1, 1) := by decide +kernel
theorem dX7_number_149 : decode cX7_number 149 = .ok (.iadd, 1) := by decide +kernel
theorem dX7_number_150 : decode cX7_number 150 = .ok (.putfield 150, 3) := by decide +kernel
theorem dX7_number_153 : decode cX7_number 153 = .ok (.iconst 1, 1) := by decide +kernel
theorem dX7_number_154 : decode cX7_number 154 = .ok (.ireturn, 1) := by decide +kernel
theorem dX7_fails_0 : decode cX7_fails 0 = .ok (.aload_n 0, 1) := by decide +kernel
theorem dX7_fails_1 : decode cX7_fails 1 = .ok (.iload_n 1, 1) := by decide +kernel
theorem dX7_fails_2 : decode cX7_fails 2 = .ok (.putfield 153, 3) := by decide +kernel
theorem dX7_fails_5 : decode cX7_fails 5 = .ok (.iconst 0, 1) := by decide +kernel
theorem dX7_fails_6 : decode cX7_fails 6 = .ok (.ireturn, 1) := by decide +kernel
set_option maxRecDepth 20000 in
theorem ggX7_rowEnds_X7_fails : GoodIn wsX7_rowEnds wsX7_fails := goodIn_r _ [8, 9, 10, 11, 12, 13, 14, 15, 16, 17, 18, 19, 20, 21, 22, 23, 24, 25] (by decide +kernel) (by decide +kernel)
set_option maxRecDepth 20000 in
theorem gX7_rowEnds_X7_fails : GoodIn wsX7_rowEnds (wsV RX7 159 RX7 yX7_fails wsX7_fails) := goodIn_app (goodIn_of _ (by decide +kernel)) ggX7_rowEnds_X7_fails
theorem dX7_rowEnds_0 : decode cX7_rowEnds 0 = .ok (.aload_n 0, 1) := by decide +kernel
theorem dX7_rowEnds_1 : decode cX7_rowEnds 1 = .ok (.getfield 147, 3) := by decide +kernel
theorem dX7_rowEnds_4 : decode cX7_rowEnds 4 = .ok (.ifCond .le 14, 3) := by decide +kernel
theorem dX7_rowEnds_7 : decode cX7_rowEnds 7 = .ok (.aload_n 0, 1) := by decide +kernel
theorem dX7_rowEnds_8 : decode cX7_rowEnds 8 = .ok (.getfield 150, 3) := by decide +kernel
theorem dX7_rowEnds_11 : decode cX7_rowEnds 11 = .ok (.aload_n 0, 1) := by decide +kernel
theorem dX7_rowEnds_12 : decode cX7_rowEnds 12 = .ok (.getfield 156, 3) := by decide +kernel
theorem dX7_rowEnds_15 : decode cX7_rowEnds 15 = .ok (.if_icmp .lt 15, 3) := by decide +kernel
theorem dX7_rowEnds_18 : decode cX7_rowEnds 18 = .ok (.aload_n 0, 1) := by decide +kernel
theorem dX7_rowEnds_19 : decode cX7_rowEnds 19 = .ok (.getfield 147, 3) := by decide +kernel
theorem dX7_rowEnds_22 : decode cX7_rowEnds 22 = .ok (.iconst 5, 1) := by decide +kernel
theorem dX7_rowEnds_23 : decode cX7_rowEnds 23 = .ok (.if_icmp .ne 13, 3) := by decide +kernel
theorem dX7_rowEnds_26 : decode cX7_rowEnds 26 = .ok (.iload_n 1, 1) := by decide +kernel
theorem dX7_rowEnds_27 : decode cX7_rowEnds 27 = .ok (.ifCond .ne 9, 3) := by decide +kernel
theorem dX7_rowEnds_30 : decode cX7_rowEnds 30 = .ok (.aload_n 0, 1) := by decide +kernel
theorem dX7_rowEnds_31 : decode cX7_rowEnds 31 = .ok (.iconst 2, 1) := by decide +kernel
theorem dX7_rowEnds_32 : decode cX7_rowEnds 32 = .ok (.invokevirtual 159, 3) := by decide +kernel
theorem dX7_rowEnds_35 : decode cX7_rowEnds 35 = .ok (.ireturn, 1) := by decide +kernel
theorem dX7_rowEnds_36 : decode cX7_rowEnds 36 = .ok (.aload_n 0, 1) := by decide +kernel
theorem dX7_rowEnds_37 : decode cX7_rowEnds 37 = .ok (.aload_n 0, 1) := by decide +kernel
theorem dX7_rowEnds_38 : decode cX7_rowEnds 38 = .ok (.getfield 150, 3) := by decide +kernel
theorem dX7_rowEnds_41 : decode cX7_rowEnds 41 = .ok (.putfield 156, 3) := by decide +kernel
theorem dX7_rowEnds_44 : decode cX7_rowEnds 44 = .ok (.aload_n 0, 1) := by decide +kernel
theorem dX7_rowEnds_45 : decode cX7_rowEnds 45 = .ok (.dup, 1) := by decide +kernel
theorem dX7_rowEnds_46 : decode cX7_rowEnds 46 = .ok (.getfield 147, 3) := by decide +kernel
theorem dX7_rowEnds_49 : decode cX7_rowEnds 49 = .ok (.iconst 1, 1) := by decide +kernel
theorem dX7_rowEnds_50 : decode cX7_rowEnds 50 = .ok (.iadd, 1) := by decide +kernel
theorem dX7_rowEnds_51 : decode cX7_rowEnds 51 = .ok (.putfield 147, 3) := by decide +kernel
theorem dX7_rowEnds_54 : decode cX7_rowEnds 54 = .ok (.aload_n 0, 1) := by decide +kernel
theorem dX7_rowEnds_55 : decode cX7_rowEnds 55 = .ok (.iconst 0, 1) := by decide +kernel
theorem dX7_rowEnds_56 : decode cX7_rowEnds 56 = .ok (.putfield 150, 3) := by decide +kernel
theorem dX7_rowEnds_59 : decode cX7_rowEnds 59 = .ok (.iconst 1, 1) := by decide +kernel
theorem dX7_rowEnds_60 : decode cX7_rowEnds 60 = .ok (.ireturn, 1) := by decide +kernel
set_option maxRecDepth 20000 in
theorem ggX7_isRight_X7_number : GoodIn wsX7_isRight wsX7_number := goodIn_r _ [11, 1, 5, 6, 12, 2, 4, 13, 14, 15, 10, 16, 17, 18, 19, 29, 30, 31, 32, 33, 34, 35, 36, 37, 38, 39, 40, 41, 42, 43, 44] (by decide +kernel) (by decide +kernel)
set_option maxRecDepth 20000 in
theorem gX7_isRight_X7_number : GoodIn wsX7_isRight (wsV RX7 163 RX7 yX7_number wsX7_number) := goodIn_app (goodIn_of _ (by decide +kernel)) ggX7_isRight_X7_number
set_option maxRecDepth 20000 in
theorem ggX7_isRight_X7_rowEnds : GoodIn wsX7_isRight wsX7_rowEnds := goodIn_r _ [23, 2, 4, 3, 24, 25, 26, 10, 27, 28, 29, 30, 31, 32, 33, 34, 35, 36, 37, 38, 39, 40, 41, 42, 43, 44] (by decide +kernel) (by decide +kernel)
set_option maxRecDepth 20000 in
theorem gX7_isRight_X7_rowEnds : GoodIn wsX7_isRight (wsV RX7 166 RX7 yX7_rowEnds wsX7_rowEnds) := goodIn_app (goodIn_of _ (by decide +kernel)) ggX7_isRight_X7_rowEnds
set_option maxRecDepth 20000 in
theorem ggX7_isRight_X7_fails : GoodIn wsX7_isRight wsX7_fails := goodIn_r _ [27, 28, 29, 30, 31, 32, 33, 34, 35, 36, 37, 38, 39, 40, 41, 42, 43, 44] (by decide +kernel) (by decide +kernel)
set_option maxRecDepth 20000 in
theorem gX7_isRight_X7_fails : GoodIn wsX7_isRight (wsV RX7 159 RX7 yX7_fails wsX7_fails) := goodIn_app (goodIn_of _ (by decide +kernel)) ggX7_isRight_X7_fails
theorem dX7_isRight_0 : decode cX7_isRight 0 = .ok (.aload_n 0, 1) := by decide +kernel
theorem dX7_isRight_1 : decode cX7_isRight 1 = .ok (.iconst 0, 1) := by decide +kernel
theorem dX7_isRight_2 : decode cX7_isRight 2 = .ok (.putfield 141, 3) := by decide +kernel
theorem dX7_isRight_5 : decode cX7_isRight 5 = .ok (.aload_n 0, 1) := by decide +kernel
theorem dX7_isRight_6 : decode cX7_isRight 6 = .ok (.iconst 0, 1) := by decide +kernel
theorem dX7_isRight_7 : decode cX7_isRight 7 = .ok (.putfield 147, 3) := by decide +kernel
theorem dX7_isRight_10 : decode cX7_isRight 10 = .ok (.aload_n 0, 1) := by decide +kernel
theorem dX7_isRight_11 : decode cX7_isRight 11 = .ok (.bipush 6, 2) := by decide +kernel
theorem dX7_isRight_13 : decode cX7_isRight 13 = .ok (.putfield 156, 3) := by decide +kernel
theorem dX7_isRight_16 : decode cX7_isRight 16 = .ok (.aload_n 0, 1) := by decide +kernel
theorem dX7_isRight_17 : decode cX7_isRight 17 = .ok (.iconst 0, 1) := by decide +kernel
theorem dX7_isRight_18 : decode cX7_isRight 18 = .ok (.putfield 150, 3) := by decide +kernel
theorem dX7_isRight_21 : decode cX7_isRight 21 = .ok (.aload_n 0, 1) := by decide +kernel
theorem dX7_isRight_22 : decode cX7_isRight 22 = .ok (.invokevirtual 163, 3) := by decide +kernel
theorem dX7_isRight_25 : decode cX7_isRight 25 = .ok (.ifCond .eq 113, 3) := by decide +kernel
theorem dX7_isRight_28 : decode cX7_isRight 28 = .ok (.aload_n 0, 1) := by decide +kernel
theorem dX7_isRight_29 : decode cX7_isRight 29 = .ok (.getfield 141, 3) := by decide +kernel
theorem dX7_isRight_32 : decode cX7_isRight 32 = .ok (.aload_n 0, 1) := by decide +kernel
theorem dX7_isRight_33 : decode cX7_isRight 33 = .ok (.getfield 131, 3) := by decide +kernel
theorem dX7_isRight_36 : decode cX7_isRight 36 = .ok (.if_icmp .ne 9, 3) := by decide +kernel
theorem dX7_isRight_39 : decode cX7_isRight 39 = .ok (.aload_n 0, 1) := by decide +kernel
theorem dX7_isRight_40 : decode cX7_isRight 40 = .ok (.iconst 1, 1) := by decide +kernel
theorem dX7_isRight_41 : decode cX7_isRight 41 = .ok (.invokevirtual 166, 3) := by decide +kernel
theorem dX7_isRight_44 : decode cX7_isRight 44 = .ok (.ireturn, 1) := by decide +kernel
theorem dX7_isRight_45 : decode cX7_isRight 45 = .ok (.aload_n 0, 1) := by decide +kernel
theorem dX7_isRight_46 : decode cX7_isRight 46 = .ok (.getfield 19, 3) := by decide +kernel
theorem dX7_isRight_49 : decode cX7_isRight 49 = .ok (.aload_n 0, 1) := by decide +kernel
theorem dX7_isRight_50 : decode cX7_isRight 50 = .ok (.getfield 141, 3) := by decide +kernel
theorem dX7_isRight_53 : decode cX7_isRight 53 = .ok (.iaload, 1) := by decide +kernel
theorem dX7_isRight_54 : decode cX7_isRight 54 = .ok (.bipush 44, 2) := by decide +kernel
theorem dX7_isRight_56 : decode cX7_isRight 56 = .ok (.if_icmp .ne 7, 3) := by decide +kernel
theorem dX7_isRight_59 : decode cX7_isRight 59 = .ok (.iconst 1, 1) := by decide +kernel
theorem dX7_isRight_60 : decode cX7_isRight 60 = .ok (.goto 4, 3) := by decide +kernel
theorem dX7_isRight_63 : decode cX7_isRight 63 = .ok (.iconst 0, 1) := by decide +kernel
theorem dX7_isRight_64 : decode cX7_isRight 64 = .ok (.istore_n 1, 1) := by decide +kernel
theorem dX7_isRight_65 : decode cX7_isRight 65 = .ok (.iload_n 1, 1) := by decide +kernel
theorem dX7_isRight_66 : decode cX7_isRight 66 = .ok (.ifCond .ne 23, 3) := by decide +kernel
theorem dX7_isRight_69 : decode cX7_isRight 69 = .ok (.aload_n 0, 1) := by decide +kernel
theorem dX7_isRight_70 : decode cX7_isRight 70 = .ok (.getfield 19, 3) := by decide +kernel
theorem dX7_isRight_73 : decode cX7_isRight 73 = .ok (.aload_n 0, 1) := by decide +kernel
theorem dX7_isRight_74 : decode cX7_isRight 74 = .ok (.getfield 141, 3) := by decide +kernel
theorem dX7_isRight_77 : decode cX7_isRight 77 = .ok (.iaload, 1) := by decide +kernel
theorem dX7_isRight_78 : decode cX7_isRight 78 = .ok (.bipush 59, 2) := by decide +kernel
theorem dX7_isRight_80 : decode cX7_isRight 80 = .ok (.if_icmp .eq 9, 3) := by decide +kernel
theorem dX7_isRight_83 : decode cX7_isRight 83 = .ok (.aload_n 0, 1) := by decide +kernel
theorem dX7_isRight_84 : decode cX7_isRight 84 = .ok (.iconst 1, 1) := by decide +kernel
theorem dX7_isRight_85 : decode cX7_isRight 85 = .ok (.invokevirtual 159, 3) := by decide +kernel
theorem dX7_isRight_88 : decode cX7_isRight 88 = .ok (.ireturn, 1) := by decide +kernel
theorem dX7_isRight_89 : decode cX7_isRight 89 = .ok (.iload_n 1, 1) := by decide +kernel
theorem dX7_isRight_90 : decode cX7_isRight 90 = .ok (.ifCond .eq 25, 3) := by decide +kernel
theorem dX7_isRight_93 : decode cX7_isRight 93 = .ok (.aload_n 0, 1) := by decide +kernel
theorem dX7_isRight_94 : decode cX7_isRight 94 = .ok (.getfield 150, 3) := by decide +kernel
theorem dX7_isRight_97 : decode cX7_isRight 97 = .ok (.aload_n 0, 1) := by decide +kernel
theorem dX7_isRight_98 : decode cX7_isRight 98 = .ok (.getfield 156, 3) := by decide +kernel
theorem dX7_isRight_101 : decode cX7_isRight 101 = .ok (.if_icmp .ne 24, 3) := by decide +kernel
theorem dX7_isRight_104 : decode cX7_isRight 104 = .ok (.aload_n 0, 1) := by decide +kernel
theorem dX7_isRight_105 : decode cX7_isRight 105 = .ok (.iconst 2, 1) := by decide +kernel
theorem dX7_isRight_106 : decode cX7_isRight 106 = .ok (.invokevirtual 159, 3) := by decide +kernel
theorem dX7_isRight_109 : decode cX7_isRight 109 = .ok (.ifCond .ne 16, 3) := by decide +kernel
theorem dX7_isRight_112 : decode cX7_isRight 112 = .ok (.goto 11, 3) := by decide +kernel
theorem dX7_isRight_115 : decode cX7_isRight 115 = .ok (.aload_n 0, 1) := by decide +kernel
theorem dX7_isRight_116 : decode cX7_isRight 116 = .ok (.iconst 0, 1) := by decide +kernel
theorem dX7_isRight_117 : decode cX7_isRight 117 = .ok (.invokevirtual 166, 3) := by decide +kernel
theorem dX7_isRight_120 : decode cX7_isRight 120 = .ok (.ifCond .ne 5, 3) := by decide +kernel
theorem dX7_isRight_123 : decode cX7_isRight 123 = .ok (.iconst 0, 1) := by decide +kernel
theorem dX7_isRight_124 : decode cX7_isRight 124 = .ok (.ireturn, 1) := by decide +kernel
theorem dX7_isRight_125 : decode cX7_isRight 125 = .ok (.aload_n 0, 1) := by decide +kernel
theorem dX7_isRight_126 : decode cX7_isRight 126 = .ok (.dup, 1) := by decide +kernel
theorem dX7_isRight_127 : decode cX7_isRight 127 = .ok (.getfield 141, 3) := by decide +kernel
theorem dX7_isRight_130 : decode cX7_isRight 130 = .ok (.iconst 1, 1) := by decide +kernel
theorem dX7_isRight_131 : decode cX7_isRight 131 = .ok (.iadd, 1) := by decide +kernel
theorem dX7_isRight_132 : decode cX7_isRight 132 = .ok (.putfield 141, 3) := by decide +kernel
theorem dX7_isRight_135 : decode cX7_isRight 135 = .ok (.goto (-114), 3) := by decide +kernel
theorem dX7_isRight_138 : decode cX7_isRight 138 = .ok (.aload_n 0, 1) := by decide +kernel
theorem dX7_isRight_139 : decode cX7_isRight 139 = .ok (.iconst 1, 1) := by decide +kernel
theorem dX7_isRight_140 : decode cX7_isRight 140 = .ok (.invokevirtual 159, 3) := by decide +kernel
theorem dX7_isRight_143 : decode cX7_isRight 143 = .ok (.ireturn, 1) := by decide +kernel
set_option maxRecDepth 20000 in
theorem ggX7_textFault_X7_in : GoodIn wsX7_textFault wsX7_in := goodIn_r _ [8] (by decide +kernel) (by decide +kernel)
set_option maxRecDepth 20000 in
theorem gX7_textFault_X7_in : GoodIn wsX7_textFault (va_wsS RX7 33 yX7_in wsX7_in) := goodIn_app (goodIn_of _ (by decide +kernel)) ggX7_textFault_X7_in
set_option maxRecDepth 20000 in
theorem ggX7_textFault_X7_isRight : GoodIn wsX7_textFault wsX7_isRight := goodIn_r _ [12, 3, 13, 14, 15, 16, 17, 18, 19, 20, 7, 21, 22, 23, 24, 25, 26, 5, 6, 8, 27, 28, 29, 30, 31, 32, 33, 34, 4, 35, 36, 37, 38, 39, 40, 41, 42, 43, 44, 45, 46, 47, 48, 49, 50] (by decide +kernel) (by decide +kernel)
set_option maxRecDepth 20000 in
theorem gX7_textFault_X7_isRight : GoodIn wsX7_textFault (wsV RX7 170 RX7 yX7_isRight wsX7_isRight) := goodIn_app (goodIn_of _ (by decide +kernel)) ggX7_textFault_X7_isRight
theorem dX7_textFault_0 : decode cX7_textFault 0 = .ok (.iload_n 1, 1) := by decide +kernel
theorem dX7_textFault_1 : decode cX7_textFault 1 = .ok (.iconst 0, 1) := by decide +kernel
theorem dX7_textFault_2 : decode cX7_textFault 2 = .ok (.iconst 1, 1) := by decide +kernel
theorem dX7_textFault_3 : decode cX7_textFault 3 = .ok (.invokestatic 33, 3) := by decide +kernel
theorem dX7_textFault_6 : decode cX7_textFault 6 = .ok (.ifCond .ne 6, 3) := by decide +kernel
theorem dX7_textFault_9 : decode cX7_textFault 9 = .ok (.ldc 37, 2) := by decide +kernel
theorem dX7_textFault_11 : decode cX7_textFault 11 = .ok (.ireturn, 1) := by decide +kernel
theorem dX7_textFault_12 : decode cX7_textFault 12 = .ok (.aload_n 0, 1) := by decide +kernel
theorem dX7_textFault_13 : decode cX7_textFault 13 = .ok (.invokevirtual 170, 3) := by decide +kernel
theorem dX7_textFault_16 : decode cX7_textFault 16 = .ok (.ifCond .eq 8, 3) := by decide +kernel
theorem dX7_textFault_19 : decode cX7_textFault 19 = .ok (.ldc 117, 2) := by decide +kernel
theorem dX7_textFault_21 : decode cX7_textFault 21 = .ok (.goto 18, 3) := by decide +kernel
theorem dX7_textFault_24 : decode cX7_textFault 24 = .ok (.iload_n 1, 1) := by decide +kernel
theorem dX7_textFault_25 : decode cX7_textFault 25 = .ok (.ifCond .ne 10, 3) := by decide +kernel
theorem dX7_textFault_28 : decode cX7_textFault 28 = .ok (.aload_n 0, 1) := by decide +kernel
theorem dX7_textFault_29 : decode cX7_textFault 29 = .ok (.getfield 141, 3) := by decide +kernel
theorem dX7_textFault_32 : decode cX7_textFault 32 = .ok (.goto 7, 3) := by decide +kernel
theorem dX7_textFault_35 : decode cX7_textFault 35 = .ok (.aload_n 0, 1) := by decide +kernel
theorem dX7_textFault_36 : decode cX7_textFault 36 = .ok (.getfield 153, 3) := by decide +kernel
theorem dX7_textFault_39 : decode cX7_textFault 39 = .ok (.ireturn, 1) := by decide +kernel
set_option maxRecDepth 20000 in
theorem ggX7_read_X7_in : GoodIn wsX7_read wsX7_in := goodIn_r _ [10] (by decide +kernel) (by decide +kernel)
set_option maxRecDepth 20000 in
theorem gX7_read_X7_in : GoodIn wsX7_read (va_wsS RX7 33 yX7_in wsX7_in) := goodIn_app (goodIn_of _ (by decide +kernel)) ggX7_read_X7_in
set_option maxRecDepth 20000 in
theorem ggX7_read_X7_isRight : GoodIn wsX7_read wsX7_isRight := goodIn_r _ [14, 15, 5, 4, 16, 17, 18, 19, 20, 21, 9, 22, 6, 23, 24, 25, 26, 7, 8, 10, 27, 28, 29, 30, 31, 32, 33, 34, 35, 46, 47, 48, 49, 50, 51, 52, 53, 54, 55, 56, 57, 58, 59, 60, 61] (by decide +kernel) (by decide +kernel)
set_option maxRecDepth 20000 in
theorem gX7_read_X7_isRight : GoodIn wsX7_read (wsV RX7 170 RX7 yX7_isRight wsX7_isRight) := goodIn_app (goodIn_of _ (by decide +kernel)) ggX7_read_X7_isRight
set_option maxRecDepth 20000 in
theorem ggX7_read_X7_changes : GoodIn wsX7_read wsX7_changes := goodIn_r _ [39, 40, 41, 2, 46, 47, 48, 49, 50, 51, 52, 53, 54, 55, 56, 57, 58, 59, 60, 61] (by decide +kernel) (by decide +kernel)
set_option maxRecDepth 20000 in
theorem gX7_read_X7_changes : GoodIn wsX7_read (wsV RX7 38 RX7 yX7_changes wsX7_changes) := goodIn_app (goodIn_of _ (by decide +kernel)) ggX7_read_X7_changes
set_option maxRecDepth 20000 in
theorem ggX7_read_X7_clears : GoodIn wsX7_read wsX7_clears := goodIn_r _ [45, 2, 46, 47, 48, 49, 50, 51, 52, 53, 54, 55, 56, 57, 58, 59, 60, 61] (by decide +kernel) (by decide +kernel)
set_option maxRecDepth 20000 in
theorem gX7_read_X7_clears : GoodIn wsX7_read (wsV RX7 41 RX7 yX7_clears wsX7_clears) := goodIn_app (goodIn_of _ (by decide +kernel)) ggX7_read_X7_clears
theorem dX7_read_0 : decode cX7_read 0 = .ok (.iload_n 1, 1) := by decide +kernel
theorem dX7_read_1 : decode cX7_read 1 = .ok (.iconst 0, 1) := by decide +kernel
theorem dX7_read_2 : decode cX7_read 2 = .ok (.iconst 1, 1) := by decide +kernel
theorem dX7_read_3 : decode cX7_read 3 = .ok (.invokestatic 33, 3) := by decide +kernel
theorem dX7_read_6 : decode cX7_read 6 = .ok (.ifCond .ne 6, 3) := by decide +kernel
theorem dX7_read_9 : decode cX7_read 9 = .ok (.ldc 37, 2) := by decide +kernel
theorem dX7_read_11 : decode cX7_read 11 = .ok (.ireturn, 1) := by decide +kernel
theorem dX7_read_12 : decode cX7_read 12 = .ok (.aload_n 0, 1) := by decide +kernel
theorem dX7_read_13 : decode cX7_read 13 = .ok (.getfield 7, 3) := by decide +kernel
theorem dX7_read_16 : decode cX7_read 16 = .ok (.iconst 5, 1) := by decide +kernel
theorem dX7_read_17 : decode cX7_read 17 = .ok (.iaload, 1) := by decide +kernel
theorem dX7_read_18 : decode cX7_read 18 = .ok (.iconst 1, 1) := by decide +kernel
theorem dX7_read_19 : decode cX7_read 19 = .ok (.if_icmp .eq 10, 3) := by decide +kernel
theorem dX7_read_22 : decode cX7_read 22 = .ok (.aload_n 0, 1) := by decide +kernel
theorem dX7_read_23 : decode cX7_read 23 = .ok (.invokevirtual 170, 3) := by decide +kernel
theorem dX7_read_26 : decode cX7_read 26 = .ok (.ifCond .ne 6, 3) := by decide +kernel
theorem dX7_read_29 : decode cX7_read 29 = .ok (.ldc 58, 2) := by decide +kernel
theorem dX7_read_31 : decode cX7_read 31 = .ok (.ireturn, 1) := by decide +kernel
theorem dX7_read_32 : decode cX7_read 32 = .ok (.aload_n 0, 1) := by decide +kernel
theorem dX7_read_33 : decode cX7_read 33 = .ok (.invokevirtual 38, 3) := by decide +kernel
theorem dX7_read_36 : decode cX7_read 36 = .ok (.iload_n 1, 1) := by decide +kernel
theorem dX7_read_37 : decode cX7_read 37 = .ok (.ifCond .ne 10, 3) := by decide +kernel
theorem dX7_read_40 : decode cX7_read 40 = .ok (.aload_n 0, 1) := by decide +kernel
theorem dX7_read_41 : decode cX7_read 41 = .ok (.getfield 156, 3) := by decide +kernel
theorem dX7_read_44 : decode cX7_read 44 = .ok (.goto 7, 3) := by decide +kernel
theorem dX7_read_47 : decode cX7_read 47 = .ok (.aload_n 0, 1) := by decide +kernel
theorem dX7_read_48 : decode cX7_read 48 = .ok (.getfield 147, 3) := by decide +kernel
theorem dX7_read_51 : decode cX7_read 51 = .ok (.istore_n 2, 1) := by decide +kernel
theorem dX7_read_52 : decode cX7_read 52 = .ok (.iload_n 2, 1) := by decide +kernel
theorem dX7_read_53 : decode cX7_read 53 = .ok (.aload_n 0, 1) := by decide +kernel
theorem dX7_read_54 : decode cX7_read 54 = .ok (.getfield 7, 3) := by decide +kernel
theorem dX7_read_57 : decode cX7_read 57 = .ok (.iconst 2, 1) := by decide +kernel
theorem dX7_read_58 : decode cX7_read 58 = .ok (.iaload, 1) := by decide +kernel
theorem dX7_read_59 : decode cX7_read 59 = .ok (.if_icmp .eq 16, 3) := by decide +kernel
theorem dX7_read_62 : decode cX7_read 62 = .ok (.aload_n 0, 1) := by decide +kernel
theorem dX7_read_63 : decode cX7_read 63 = .ok (.bipush 45, 2) := by decide +kernel
theorem dX7_read_65 : decode cX7_read 65 = .ok (.bipush 36, 2) := by decide +kernel
theorem dX7_read_67 : decode cX7_read 67 = .ok (.iload_n 1, 1) := by decide +kernel
theorem dX7_read_68 : decode cX7_read 68 = .ok (.imul, 1) := by decide +kernel
theorem dX7_read_69 : decode cX7_read 69 = .ok (.isub, 1) := by decide +kernel
theorem dX7_read_70 : decode cX7_read 70 = .ok (.bipush 36, 2) := by decide +kernel
theorem dX7_read_72 : decode cX7_read 72 = .ok (.invokevirtual 41, 3) := by decide +kernel
theorem dX7_read_75 : decode cX7_read 75 = .ok (.aload_n 0, 1) := by decide +kernel
theorem dX7_read_76 : decode cX7_read 76 = .ok (.getfield 7, 3) := by decide +kernel
theorem dX7_read_79 : decode cX7_read 79 = .ok (.iconst 2, 1) := by decide +kernel
theorem dX7_read_80 : decode cX7_read 80 = .ok (.iload_n 2, 1) := by decide +kernel
theorem dX7_read_81 : decode cX7_read 81 = .ok (.iastore, 1) := by decide +kernel
theorem dX7_read_82 : decode cX7_read 82 = .ok (.aload_n 0, 1) := by decide +kernel
theorem dX7_read_83 : decode cX7_read 83 = .ok (.getfield 7, 3) := by decide +kernel
theorem dX7_read_86 : decode cX7_read 86 = .ok (.iload_n 1, 1) := by decide +kernel
theorem dX7_read_87 : decode cX7_read 87 = .ok (.ifCond .ne 7, 3) := by decide +kernel
theorem dX7_read_90 : decode cX7_read 90 = .ok (.iconst 1, 1) := by decide +kernel
theorem dX7_read_91 : decode cX7_read 91 = .ok (.goto 4, 3) := by decide +kernel
theorem dX7_read_94 : decode cX7_read 94 = .ok (.iconst 3, 1) := by decide +kernel
theorem dX7_read_95 : decode cX7_read 95 = .ok (.iload_n 1, 1) := by decide +kernel
theorem dX7_read_96 : decode cX7_read 96 = .ok (.ifCond .ne 10, 3) := by decide +kernel
theorem dX7_read_99 : decode cX7_read 99 = .ok (.aload_n 0, 1) := by decide +kernel
theorem dX7_read_100 : decode cX7_read 100 = .ok (.getfield 147, 3) := by decide +kernel
theorem dX7_read_103 : decode cX7_read 103 = .ok (.goto 7, 3) := by decide +kernel
theorem dX7_read_106 : decode cX7_read 106 = .ok (.aload_n 0, 1) := by decide +kernel
theorem dX7_read_107 : decode cX7_read 107 = .ok (.getfield 156, 3) := by decide +kernel
theorem dX7_read_110 : decode cX7_read 110 = .ok (.iastore, 1) := by decide +kernel
theorem dX7_read_111 : decode cX7_read 111 = .ok (.aload_n 0, 1) := by decide +kernel
theorem dX7_read_112 : decode cX7_read 112 = .ok (.bipush 9, 2) := by decide +kernel
theorem dX7_read_114 : decode cX7_read 114 = .ok (.bipush 36, 2) := by decide +kernel
theorem dX7_read_116 : decode cX7_read 116 = .ok (.iload_n 1, 1) := by decide +kernel
theorem dX7_read_117 : decode cX7_read 117 = .ok (.imul, 1) := by decide +kernel
theorem dX7_read_118 : decode cX7_read 118 = .ok (.iadd, 1) := by decide +kernel
theorem dX7_read_119 : decode cX7_read 119 = .ok (.bipush 36, 2) := by decide +kernel
theorem dX7_read_121 : decode cX7_read 121 = .ok (.invokevirtual 41, 3) := by decide +kernel
theorem dX7_read_124 : decode cX7_read 124 = .ok (.iconst 0, 1) := by decide +kernel
theorem dX7_read_125 : decode cX7_read 125 = .ok (.istore_n 3, 1) := by decide +kernel
theorem dX7_read_126 : decode cX7_read 126 = .ok (.iload_n 3, 1) := by decide +kernel
theorem dX7_read_127 : decode cX7_read 127 = .ok (.aload_n 0, 1) := by decide +kernel
theorem dX7_read_128 : decode cX7_read 128 = .ok (.getfield 147, 3) := by decide +kernel
theorem dX7_read_131 : decode cX7_read 131 = .ok (.if_icmp .ge 59, 3) := by decide +kernel
theorem dX7_read_134 : decode cX7_read 134 = .ok (.iconst 0, 1) := by decide +kernel
theorem dX7_read_135 : decode cX7_read 135 = .ok (.istore 4, 2) := by decide +kernel
theorem dX7_read_137 : decode cX7_read 137 = .ok (.iload 4, 2) := by decide +kernel
theorem dX7_read_139 : decode cX7_read 139 = .ok (.aload_n 0, 1) := by decide +kernel
theorem dX7_read_140 : decode cX7_read 140 = .ok (.getfield 156, 3) := by decide +kernel
theorem dX7_read_143 : decode cX7_read 143 = .ok (.if_icmp .ge 41, 3) := by decide +kernel
theorem dX7_read_146 : decode cX7_read 146 = .ok (.aload_n 0, 1) := by decide +kernel
theorem dX7_read_147 : decode cX7_read 147 = .ok (.getfield 7, 3) := by decide +kernel
theorem dX7_read_150 : decode cX7_read 150 = .ok (.bipush 9, 2) := by decide +kernel
theorem dX7_read_152 : decode cX7_read 152 = .ok (.bipush 36, 2) := by decide +kernel
theorem dX7_read_154 : decode cX7_read 154 = .ok (.iload_n 1, 1) := by decide +kernel
theorem dX7_read_155 : decode cX7_read 155 = .ok (.imul, 1) := by decide +kernel
theorem dX7_read_156 : decode cX7_read 156 = .ok (.iadd, 1) := by decide +kernel
theorem dX7_read_157 : decode cX7_read 157 = .ok (.bipush 6, 2) := by decide +kernel
theorem dX7_read_159 : decode cX7_read 159 = .ok (.iload_n 3, 1) := by decide +kernel
theorem dX7_read_160 : decode cX7_read 160 = .ok (.imul, 1) := by decide +kernel
theorem dX7_read_161 : decode cX7_read 161 = .ok (.iadd, 1) := by decide +kernel
theorem dX7_read_162 : decode cX7_read 162 = .ok (.iload 4, 2) := by decide +kernel
theorem dX7_read_164 : decode cX7_read 164 = .ok (.iadd, 1) := by decide +kernel
theorem dX7_read_165 : decode cX7_read 165 = .ok (.aload_n 0, 1) := by decide +kernel
theorem dX7_read_166 : decode cX7_read 166 = .ok (.getfield 22, 3) := by decide +kernel
theorem dX7_read_169 : decode cX7_read 169 = .ok (.bipush 6, 2) := by decide +kernel
theorem dX7_read_171 : decode cX7_read 171 = .ok (.iload_n 3, 1) := by decide +kernel
theorem dX7_read_172 : decode cX7_read 172 = .ok (.imul, 1) := by decide +kernel
theorem dX7_read_173 : decode cX7_read 173 = .ok (.iload 4, 2) := by decide +kernel
theorem dX7_read_175 : decode cX7_read 175 = .ok (.iadd, 1) := by decide +kernel
theorem dX7_read_176 : decode cX7_read 176 = .ok (.iaload, 1) := by decide +kernel
theorem dX7_read_177 : decode cX7_read 177 = .ok (.iastore, 1) := by decide +kernel
theorem dX7_read_178 : decode cX7_read 178 = .ok (.iinc 4 1, 3) := by decide +kernel
theorem dX7_read_181 : decode cX7_read 181 = .ok (.goto (-44), 3) := by decide +kernel
theorem dX7_read_184 : decode cX7_read 184 = .ok (.iinc 3 1, 3) := by decide +kernel
theorem dX7_read_187 : decode cX7_read 187 = .ok (.goto (-61), 3) := by decide +kernel
theorem dX7_read_190 : decode cX7_read 190 = .ok (.aload_n 0, 1) := by decide +kernel
theorem dX7_read_191 : decode cX7_read 191 = .ok (.bipush 117, 2) := by decide +kernel
theorem dX7_read_193 : decode cX7_read 193 = .ok (.bipush 36, 2) := by decide +kernel
theorem dX7_read_195 : decode cX7_read 195 = .ok (.invokevirtual 41, 3) := by decide +kernel
theorem dX7_read_198 : decode cX7_read 198 = .ok (.aload_n 0, 1) := by decide +kernel
theorem dX7_read_199 : decode cX7_read 199 = .ok (.getfield 147, 3) := by decide +kernel
theorem dX7_read_202 : decode cX7_read 202 = .ok (.aload_n 0, 1) := by decide +kernel
theorem dX7_read_203 : decode cX7_read 203 = .ok (.getfield 156, 3) := by decide +kernel
theorem dX7_read_206 : decode cX7_read 206 = .ok (.imul, 1) := by decide +kernel
theorem dX7_read_207 : decode cX7_read 207 = .ok (.ireturn, 1) := by decide +kernel
