theorem dJ9_min_7cf53_0 : decode cJ9_min_7cf53 0 = .ok (.iload_n 0, 1) := by decide +kernel
theorem dJ9_min_7cf53_1 : decode cJ9_min_7cf53 1 = .ok (.iload_n 1, 1) := by decide +kernel
theorem dJ9_min_7cf53_2 : decode cJ9_min_7cf53 2 = .ok (.if_icmp .gt 7, 3) := by decide +kernel
theorem dJ9_min_7cf53_5 : decode cJ9_min_7cf53 5 = .ok (.iload_n 0, 1) := by decide +kernel
theorem dJ9_min_7cf53_6 : decode cJ9_min_7cf53 6 = .ok (.goto 4, 3) := by decide +kernel
theorem dJ9_min_7cf53_9 : decode cJ9_min_7cf53 9 = .ok (.iload_n 1, 1) := by decide +kernel
theorem dJ9_min_7cf53_10 : decode cJ9_min_7cf53 10 = .ok (.ireturn, 1) := by decide +kernel
theorem dJ7_fill_53178_0 : decode cJ7_fill_53178 0 = .ok (.iconst 0, 1) := by decide +kernel
theorem dJ7_fill_53178_1 : decode cJ7_fill_53178 1 = .ok (.istore_n 2, 1) := by decide +kernel
theorem dJ7_fill_53178_2 : decode cJ7_fill_53178 2 = .ok (.aload_n 0, 1) := by decide +kernel
theorem dJ7_fill_53178_3 : decode cJ7_fill_53178 3 = .ok (.arraylength, 1) := by decide +kernel
theorem dJ7_fill_53178_4 : decode cJ7_fill_53178 4 = .ok (.istore_n 3, 1) := by decide +kernel
theorem dJ7_fill_53178_5 : decode cJ7_fill_53178 5 = .ok (.iload_n 2, 1) := by decide +kernel
theorem dJ7_fill_53178_6 : decode cJ7_fill_53178 6 = .ok (.iload_n 3, 1) := by decide +kernel
theorem dJ7_fill_53178_7 : decode cJ7_fill_53178 7 = .ok (.if_icmp .ge 13, 3) := by decide +kernel
theorem dJ7_fill_53178_10 : decode cJ7_fill_53178 10 = .ok (.aload_n 0, 1) := by decide +kernel
theorem dJ7_fill_53178_11 : decode cJ7_fill_53178 11 = .ok (.iload_n 2, 1) := by decide +kernel
theorem dJ7_fill_53178_12 : decode cJ7_fill_53178 12 = .ok (.iload_n 1, 1) := by decide +kernel
theorem dJ7_fill_53178_13 : decode cJ7_fill_53178 13 = .ok (.iastore, 1) := by decide +kernel
theorem dJ7_fill_53178_14 : decode cJ7_fill_53178 14 = .ok (.iinc 2 1, 3) := by decide +kernel
theorem dJ7_fill_53178_17 : decode cJ7_fill_53178 17 = .ok (.goto (-12), 3) := by decide +kernel
theorem dJ7_fill_53178_20 : decode cJ7_fill_53178 20 = .ok (.return_, 1) := by decide +kernel
set_option maxRecDepth 20000 in
theorem ggX0_init_X3_init : GoodIn wsX0_init wsX3_init := goodIn_r _ [10, 11, 2, 3, 12, 13, 14, 15, 16, 17, 18, 19, 20, 21, 22, 23, 24, 25, 26, 27, 28, 29, 30, 31, 32, 33, 34, 35, 36, 37, 38, 39, 40, 41, 42, 43, 44, 45, 46, 47, 48, 7, 49, 50, 51, 52, 53, 54, 55, 56, 57, 58, 59, 60, 61, 62, 63, 71, 72, 73, 66, 67, 68, 69, 70, 74, 75, 76, 77, 78, 79, 80, 81, 82, 83, 84, 85, 86, 87] (by decide +kernel) (by decide +kernel)
set_option maxRecDepth 20000 in
theorem gX0_init_X3_init : GoodIn wsX0_init (wsX3_init) := ggX0_init_X3_init
theorem dX0_init_0 : decode cX0_init 0 = .ok (.aload_n 0, 1) := by decide +kernel
theorem dX0_init_1 : decode cX0_init 1 = .ok (.invokespecial 3, 3) := by decide +kernel
theorem dX0_init_4 : decode cX0_init 4 = .ok (.aload_n 0, 1) := by decide +kernel
theorem dX0_init_5 : decode cX0_init 5 = .ok (.iconst 4, 1) := by decide +kernel
theorem dX0_init_6 : decode cX0_init 6 = .ok (.anewarray 9, 3) := by decide +kernel
theorem dX0_init_9 : decode cX0_init 9 = .ok (.putfield 11, 3) := by decide +kernel
theorem dX0_init_12 : decode cX0_init 12 = .ok (.iconst 0, 1) := by decide +kernel
theorem dX0_init_13 : decode cX0_init 13 = .ok (.istore_n 1, 1) := by decide +kernel
theorem dX0_init_14 : decode cX0_init 14 = .ok (.iload_n 1, 1) := by decide +kernel
theorem dX0_init_15 : decode cX0_init 15 = .ok (.aload_n 0, 1) := by decide +kernel
theorem dX0_init_16 : decode cX0_init 16 = .ok (.getfield 11, 3) := by decide +kernel
theorem dX0_init_19 : decode cX0_init 19 = .ok (.arraylength, 1) := by decide +kernel
theorem dX0_init_20 : decode cX0_init 20 = .ok (.if_icmp .ge 22, 3) := by decide +kernel
theorem dX0_init_23 : decode cX0_init 23 = .ok (.aload_n 0, 1) := by decide +kernel
theorem dX0_init_24 : decode cX0_init 24 = .ok (.getfield 11, 3) := by decide +kernel
theorem dX0_init_27 : decode cX0_init 27 = .ok (.iload_n 1, 1) := by decide +kernel
theorem dX0_init_28 : decode cX0_init 28 = .ok (.new 9, 3) := by decide +kernel
theorem dX0_init_31 : decode cX0_init 31 = .ok (.dup, 1) := by decide +kernel
theorem dX0_init_32 : decode cX0_init 32 = .ok (.invokespecial 17, 3) := by decide +kernel
theorem dX0_init_35 : decode cX0_init 35 = .ok (.aastore, 1) := by decide +kernel
theorem dX0_init_36 : decode cX0_init 36 = .ok (.iinc 1 1, 3) := by decide +kernel
theorem dX0_init_39 : decode cX0_init 39 = .ok (.goto (-25), 3) := by decide +kernel
theorem dX0_init_42 : decode cX0_init 42 = .ok (.return_, 1) := by decide +kernel
set_option maxRecDepth 20000 in
theorem ggX0_remember_X0_dropOldest : GoodIn wsX0_remember wsX0_dropOldest := goodIn_r _ [7, 2, 1, 56, 57] (by decide +kernel) (by decide +kernel)
set_option maxRecDepth 20000 in
theorem gX0_remember_X0_dropOldest : GoodIn wsX0_remember (wsV RX0 22 RX0 yX0_dropOldest wsX0_dropOldest) := goodIn_app (goodIn_of _ (by decide +kernel)) ggX0_remember_X0_dropOldest
set_option maxRecDepth 20000 in
theorem ggX0_remember_X3_copyFrom : GoodIn wsX0_remember wsX3_copyFrom := goodIn_r _ [12, 13, 14, 15, 16, 17, 18, 19, 20, 21, 22, 23, 24, 25, 26, 27, 28, 29, 30, 31, 32, 33, 34, 35, 36, 37, 38, 39, 40, 41, 42, 43, 44, 45, 46, 47, 48, 49, 50, 51, 52, 53, 54, 55, 58, 59, 60, 61, 62, 63, 64, 65, 66, 67, 68, 69, 70, 71, 72, 73, 74, 75, 76, 77, 78, 79] (by decide +kernel) (by decide +kernel)
set_option maxRecDepth 20000 in
theorem gX0_remember_X3_copyFrom : GoodIn wsX0_remember (wsV RX0 25 RX3 yX3_copyFrom wsX3_copyFrom) := goodIn_app (goodIn_of _ (by decide +kernel)) ggX0_remember_X3_copyFrom
theorem dX0_remember_0 : decode cX0_remember 0 = .ok (.aload_n 0, 1) := by decide +kernel
theorem dX0_remember_1 : decode cX0_remember 1 = .ok (.getfield 18, 3) := by decide +kernel
theorem dX0_remember_4 : decode cX0_remember 4 = .ok (.iconst 4, 1) := by decide +kernel
theorem dX0_remember_5 : decode cX0_remember 5 = .ok (.if_icmp .lt 7, 3) := by decide +kernel
theorem dX0_remember_8 : decode cX0_remember 8 = .ok (.aload_n 0, 1) := by decide +kernel
theorem dX0_remember_9 : decode cX0_remember 9 = .ok (.invokevirtual 22, 3) := by decide +kernel
theorem dX0_remember_12 : decode cX0_remember 12 = .ok (.aload_n 0, 1) := by decide +kernel
theorem dX0_remember_13 : decode cX0_remember 13 = .ok (.getfield 18, 3) := by decide +kernel
theorem dX0_remember_16 : decode cX0_remember 16 = .ok (.ifCond .lt 38, 3) := by decide +kernel
theorem dX0_remember_19 : decode cX0_remember 19 = .ok (.aload_n 0, 1) := by decide +kernel
theorem dX0_remember_20 : decode cX0_remember 20 = .ok (.getfield 18, 3) := by decide +kernel
theorem dX0_remember_23 : decode cX0_remember 23 = .ok (.aload_n 0, 1) := by decide +kernel
theorem dX0_remember_24 : decode cX0_remember 24 = .ok (.getfield 11, 3) := by decide +kernel
theorem dX0_remember_27 : decode cX0_remember 27 = .ok (.arraylength, 1) := by decide +kernel
theorem dX0_remember_28 : decode cX0_remember 28 = .ok (.if_icmp .ge 26, 3) := by decide +kernel
theorem dX0_remember_31 : decode cX0_remember 31 = .ok (.aload_n 0, 1) := by decide +kernel
theorem dX0_remember_32 : decode cX0_remember 32 = .ok (.getfield 11, 3) := by decide +kernel
theorem dX0_remember_35 : decode cX0_remember 35 = .ok (.aload_n 0, 1) := by decide +kernel
theorem dX0_remember_36 : decode cX0_remember 36 = .ok (.getfield 18, 3) := by decide +kernel
theorem dX0_remember_39 : decode cX0_remember 39 = .ok (.aaload, 1) := by decide +kernel
theorem dX0_remember_40 : decode cX0_remember 40 = .ok (.aload_n 1, 1) := by decide +kernel
theorem dX0_remember_41 : decode cX0_remember 41 = .ok (.invokevirtual 25, 3) := by decide +kernel
theorem dX0_remember_44 : decode cX0_remember 44 = .ok (.aload_n 0, 1) := by decide +kernel
theorem dX0_remember_45 : decode cX0_remember 45 = .ok (.dup, 1) := by decide +kernel
theorem dX0_remember_46 : decode cX0_remember 46 = .ok (.getfield 18, 3) := by decide +kernel
theorem dX0_remember_49 : decode cX0_remember 49 = .ok (.iconst 1, 1) := by decide +kernel
theorem dX0_remember_50 : decode cX0_remember 50 = .ok (.iadd, 1) := by decide +kernel
theorem dX0_remember_51 : decode cX0_remember 51 = .ok (.putfield 18, 3) := by decide +kernel
theorem dX0_remember_54 : decode cX0_remember 54 = .ok (.return_, 1) := by decide +kernel
theorem dX0_dropOldest_0 : decode cX0_dropOldest 0 = .ok (.aload_n 0, 1) := by decide +kernel
theorem dX0_dropOldest_1 : decode cX0_dropOldest 1 = .ok (.getfield 11, 3) := by decide +kernel
theorem dX0_dropOldest_4 : decode cX0_dropOldest 4 = .ok (.iconst 0, 1) := by decide +kernel
theorem dX0_dropOldest_5 : decode cX0_dropOldest 5 = .ok (.aaload, 1) := by decide +kernel
theorem dX0_dropOldest_6 : decode cX0_dropOldest 6 = .ok (.astore_n 1, 1) := by decide +kernel
theorem dX0_dropOldest_7 : decode cX0_dropOldest 7 = .ok (.iconst 1, 1) := by decide +kernel
theorem dX0_dropOldest_8 : decode cX0_dropOldest 8 = .ok (.istore_n 2, 1) := by decide +kernel
theorem dX0_dropOldest_9 : decode cX0_dropOldest 9 = .ok (.iload_n 2, 1) := by decide +kernel
theorem dX0_dropOldest_10 : decode cX0_dropOldest 10 = .ok (.aload_n 0, 1) := by decide +kernel
theorem dX0_dropOldest_11 : decode cX0_dropOldest 11 = .ok (.getfield 11, 3) := by decide +kernel
theorem dX0_dropOldest_14 : decode cX0_dropOldest 14 = .ok (.arraylength, 1) := by decide +kernel
theorem dX0_dropOldest_15 : decode cX0_dropOldest 15 = .ok (.if_icmp .ge 23, 3) := by decide +kernel
theorem dX0_dropOldest_18 : decode cX0_dropOldest 18 = .ok (.aload_n 0, 1) := by decide +kernel
theorem dX0_dropOldest_19 : decode cX0_dropOldest 19 = .ok (.getfield 11, 3) := by decide +kernel
theorem dX0_dropOldest_22 : decode cX0_dropOldest 22 = .ok (.iload_n 2, 1) := by decide +kernel
theorem dX0_dropOldest_23 : decode cX0_dropOldest 23 = .ok (.iconst 1, 1) := by decide +kernel
theorem dX0_dropOldest_24 : decode cX0_dropOldest 24 = .ok (.isub, 1) := by decide +kernel
theorem dX0_dropOldest_25 : decode cX0_dropOldest 25 = .ok (.aload_n 0, 1) := by decide +kernel
theorem dX0_dropOldest_26 : decode cX0_dropOldest 26 = .ok (.getfield 11, 3) := by decide +kernel
theorem dX0_dropOldest_29 : decode cX0_dropOldest 29 = .ok (.iload_n 2, 1) := by decide +kernel
theorem dX0_dropOldest_30 : decode cX0_dropOldest 30 = .ok (.aaload, 1) := by decide +kernel
theorem dX0_dropOldest_31 : decode cX0_dropOldest 31 = .ok (.aastore, 1) := by decide +kernel
theorem dX0_dropOldest_32 : decode cX0_dropOldest 32 = .ok (.iinc 2 1, 3) := by decide +kernel
theorem dX0_dropOldest_35 : decode cX0_dropOldest 35 = .ok (.goto (-26), 3) := by decide +kernel
theorem dX0_dropOldest_38 : decode cX0_dropOldest 38 = .ok (.aload_n 0, 1) := by decide +kernel
theorem dX0_dropOldest_39 : decode cX0_dropOldest 39 = .ok (.getfield 11, 3) := by decide +kernel
theorem dX0_dropOldest_42 : decode cX0_dropOldest 42 = .ok (.aload_n 0, 1) := by decide +kernel
theorem dX0_dropOldest_43 : decode cX0_dropOldest 43 = .ok (.getfield 11, 3) := by decide +kernel
theorem dX0_dropOldest_46 : decode cX0_dropOldest 46 = .ok (.arraylength, 1) := by decide +kernel
theorem dX0_dropOldest_47 : decode cX0_dropOldest 47 = .ok (.iconst 1, 1) := by decide +kernel
theorem dX0_dropOldest_48 : decode cX0_dropOldest 48 = .ok (.isub, 1) := by decide +kernel
theorem dX0_dropOldest_49 : decode cX0_dropOldest 49 = .ok (.aload_n 1, 1) := by decide +kernel
theorem dX0_dropOldest_50 : decode cX0_dropOldest 50 = .ok (.aastore, 1) := by decide +kernel
theorem dX0_dropOldest_51 : decode cX0_dropOldest 51 = .ok (.aload_n 0, 1) := by decide +kernel
theorem dX0_dropOldest_52 : decode cX0_dropOldest 52 = .ok (.dup, 1) := by decide +kernel
theorem dX0_dropOldest_53 : decode cX0_dropOldest 53 = .ok (.getfield 18, 3) := by decide +kernel
theorem dX0_dropOldest_56 : decode cX0_dropOldest 56 = .ok (.iconst 1, 1) := by decide +kernel
theorem dX0_dropOldest_57 : decode cX0_dropOldest 57 = .ok (.isub, 1) := by decide +kernel
theorem dX0_dropOldest_58 : decode cX0_dropOldest 58 = .ok (.putfield 18, 3) := by decide +kernel
theorem dX0_dropOldest_61 : decode cX0_dropOldest 61 = .ok (.return_, 1) := by decide +kernel
theorem dX1_init_0 : decode cX1_init 0 = .ok (.aload_n 0, 1) := by decide +kernel
theorem dX1_init_1 : decode cX1_init 1 = .ok (.invokespecial 3, 3) := by decide +kernel
theorem dX1_init_4 : decode cX1_init 4 = .ok (.aload_n 0, 1) := by decide +kernel
theorem dX1_init_5 : decode cX1_init 5 = .ok (.iconst 2, 1) := by decide +kernel
theorem dX1_init_6 : decode cX1_init 6 = .ok (.putfield 9, 3) := by decide +kernel
theorem dX1_init_9 : decode cX1_init 9 = .ok (.aload_n 0, 1) := by decide +kernel
theorem dX1_init_10 : decode cX1_init 10 = .ok (.iconst 2, 1) := by decide +kernel
theorem dX1_init_11 : decode cX1_init 11 = .ok (.putfield 15, 3) := by decide +kernel
theorem dX1_init_14 : decode cX1_init 14 = .ok (.aload_n 0, 1) := by decide +kernel
theorem dX1_init_15 : decode cX1_init 15 = .ok (.bipush 36, 2) := by decide +kernel
theorem dX1_init_17 : decode cX1_init 17 = .ok (.newarray .int, 2) := by decide +kernel
theorem dX1_init_19 : decode cX1_init 19 = .ok (.putfield 18, 3) := by decide +kernel
theorem dX1_init_22 : decode cX1_init 22 = .ok (.return_, 1) := by decide +kernel
theorem dX1_has_0 : decode cX1_has 0 = .ok (.iload_n 1, 1) := by decide +kernel
theorem dX1_has_1 : decode cX1_has 1 = .ok (.ifCond .lt 27, 3) := by decide +kernel
theorem dX1_has_4 : decode cX1_has 4 = .ok (.iload_n 1, 1) := by decide +kernel
theorem dX1_has_5 : decode cX1_has 5 = .ok (.aload_n 0, 1) := by decide +kernel
theorem dX1_has_6 : decode cX1_has 6 = .ok (.getfield 9, 3) := by decide +kernel
theorem dX1_has_9 : decode cX1_has 9 = .ok (.if_icmp .ge 19, 3) := by decide +kernel
theorem dX1_has_12 : decode cX1_has 12 = .ok (.iload_n 2, 1) := by decide +kernel
theorem dX1_has_13 : decode cX1_has 13 = .ok (.ifCond .lt 15, 3) := by decide +kernel
theorem dX1_has_16 : decode cX1_has 16 = .ok (.iload_n 2, 1) := by decide +kernel
theorem dX1_has_17 : decode cX1_has 17 = .ok (.aload_n 0, 1) := by decide +kernel
theorem dX1_has_18 : decode cX1_has 18 = .ok (.getfield 15, 3) := by decide +kernel
theorem dX1_has_21 : decode cX1_has 21 = .ok (.if_icmp .ge 7, 3) := by decide +kernel
theorem dX1_has_24 : decode cX1_has 24 = .ok (.iconst 1, 1) := by decide +kernel
theorem dX1_has_25 : decode cX1_has 25 = .ok (.goto 4, 3) := by decide +kernel
theorem dX1_has_28 : decode cX1_has 28 = .ok (.iconst 0, 1) := by decide +kernel
theorem dX1_has_29 : decode cX1_has 29 = .ok (.ireturn, 1) := by decide +kernel
theorem dX1_at_0 : decode cX1_at 0 = .ok (.iload_n 1, 1) := by decide +kernel
theorem dX1_at_1 : decode cX1_at 1 = .ok (.ifCond .lt 23, 3) := by decide +kernel
theorem dX1_at_4 : decode cX1_at 4 = .ok (.iload_n 1, 1) := by decide +kernel
theorem dX1_at_5 : decode cX1_at 5 = .ok (.aload_n 0, 1) := by decide +kernel
theorem dX1_at_6 : decode cX1_at 6 = .ok (.getfield 9, 3) := by decide +kernel
theorem dX1_at_9 : decode cX1_at 9 = .ok (.if_icmp .ge 15, 3) := by decide +kernel
theorem dX1_at_12 : decode cX1_at 12 = .ok (.iload_n 2, 1) := by decide +kernel
theorem dX1_at_13 : decode cX1_at 13 = .ok (.ifCond .lt 11, 3) := by decide +kernel
theorem dX1_at_16 : decode cX1_at 16 = .ok (.iload_n 2, 1) := by decide +kernel
theorem dX1_at_17 : decode cX1_at 17 = .ok (.aload_n 0, 1) := by decide +kernel
theorem dX1_at_18 : decode cX1_at 18 = .ok (.getfield 15, 3) := by decide +kernel
theorem dX1_at_21 : decode cX1_at 21 = .ok (.if_icmp .lt 5, 3) := by decide +kernel
theorem dX1_at_24 : decode cX1_at 24 = .ok (.iconst 0, 1) := by decide +kernel
theorem dX1_at_25 : decode cX1_at 25 = .ok (.ireturn, 1) := by decide +kernel
theorem dX1_at_26 : decode cX1_at 26 = .ok (.aload_n 0, 1) := by decide +kernel
theorem dX1_at_27 : decode cX1_at 27 = .ok (.getfield 18, 3) := by decide +kernel
theorem dX1_at_30 : decode cX1_at 30 = .ok (.iload_n 1, 1) := by decide +kernel
theorem dX1_at_31 : decode cX1_at 31 = .ok (.bipush 6, 2) := by decide +kernel
theorem dX1_at_33 : decode cX1_at 33 = .ok (.imul, 1) := by decide +kernel
theorem dX1_at_34 : decode cX1_at 34 = .ok (.iload_n 2, 1) := by decide +kernel
theorem dX1_at_35 : decode cX1_at 35 = .ok (.iadd, 1) := by decide +kernel
theorem dX1_at_36 : decode cX1_at 36 = .ok (.iaload, 1) := by decide +kernel
theorem dX1_at_37 : decode cX1_at 37 = .ok (.ireturn, 1) := by decide +kernel
set_option maxRecDepth 20000 in
theorem ggX1_put_X1_has : GoodIn wsX1_put wsX1_has := goodIn_r _ [6, 7, 8, 9, 10, 11] (by decide +kernel) (by decide +kernel)
set_option maxRecDepth 20000 in
theorem gX1_put_X1_has : GoodIn wsX1_put (wsV RX1 22 RX1 yX1_has wsX1_has) := goodIn_app (goodIn_of _ (by decide +kernel)) ggX1_put_X1_has
theorem dX1_put_0 : decode cX1_put 0 = .ok (.aload_n 0, 1) := by decide +kernel
theorem dX1_put_1 : decode cX1_put 1 = .ok (.iload_n 1, 1) := by decide +kernel
theorem dX1_put_2 : decode cX1_put 2 = .ok (.iload_n 2, 1) := by decide +kernel
theorem dX1_put_3 : decode cX1_put 3 = .ok (.invokevirtual 22, 3) := by decide +kernel
theorem dX1_put_6 : decode cX1_put 6 = .ok (.ifCond .eq 15, 3) := by decide +kernel
theorem dX1_put_9 : decode cX1_put 9 = .ok (.aload_n 0, 1) := by decide +kernel
theorem dX1_put_10 : decode cX1_put 10 = .ok (.getfield 18, 3) := by decide +kernel
theorem dX1_put_13 : decode cX1_put 13 = .ok (.iload_n 1, 1) := by decide +kernel
theorem dX1_put_14 : decode cX1_put 14 = .ok (.bipush 6, 2) := by decide +kernel
theorem dX1_put_16 : decode cX1_put 16 = .ok (.imul, 1) := by decide +kernel
theorem dX1_put_17 : decode cX1_put 17 = .ok (.iload_n 2, 1) := by decide +kernel
theorem dX1_put_18 : decode cX1_put 18 = .ok (.iadd, 1) := by decide +kernel
theorem dX1_put_19 : decode cX1_put 19 = .ok (.iload_n 3, 1) := by decide +kernel
theorem dX1_put_20 : decode cX1_put 20 = .ok (.iastore, 1) := by decide +kernel
theorem dX1_put_21 : decode cX1_put 21 = .ok (.return_, 1) := by decide +kernel
set_option maxRecDepth 20000 in
theorem ggX1_renew_X6_isLength : GoodIn wsX1_renew wsX6_isLength := goodIn_r _ [6] (by decide +kernel) (by decide +kernel)
set_option maxRecDepth 20000 in
theorem gX1_renew_X6_isLength_n26 : GoodIn wsX1_renew (wsX6_isLength) := ggX1_renew_X6_isLength
set_option maxRecDepth 20000 in
theorem ggX1_renew_J7_fill_53178 : GoodIn wsX1_renew wsJ7_fill_53178 := goodIn_r _ [10] (by decide +kernel) (by decide +kernel)
set_option maxRecDepth 20000 in
theorem gX1_renew_J7_fill_53178 : GoodIn wsX1_renew (va_wsS RX1 30 yJ7_fill_53178 wsJ7_fill_53178) := goodIn_app (goodIn_of _ (by decide +kernel)) ggX1_renew_J7_fill_53178
theorem dX1_renew_0 : decode cX1_renew 0 = .ok (.iload_n 1, 1) := by decide +kernel
theorem dX1_renew_1 : decode cX1_renew 1 = .ok (.invokestatic 26, 3) := by decide +kernel
theorem dX1_renew_4 : decode cX1_renew 4 = .ok (.ifCond .eq 28, 3) := by decide +kernel
theorem dX1_renew_7 : decode cX1_renew 7 = .ok (.iload_n 2, 1) := by decide +kernel
theorem dX1_renew_8 : decode cX1_renew 8 = .ok (.invokestatic 26, 3) := by decide +kernel
theorem dX1_renew_11 : decode cX1_renew 11 = .ok (.ifCond .eq 21, 3) := by decide +kernel
theorem dX1_renew_14 : decode cX1_renew 14 = .ok (.aload_n 0, 1) := by decide +kernel
theorem dX1_renew_15 : decode cX1_renew 15 = .ok (.iload_n 1, 1) := by decide +kernel
theorem dX1_renew_16 : decode cX1_renew 16 = .ok (.putfield 9, 3) := by decide +kernel
theorem dX1_renew_19 : decode cX1_renew 19 = .ok (.aload_n 0, 1) := by decide +kernel
theorem dX1_renew_20 : decode cX1_renew 20 = .ok (.iload_n 2, 1) := by decide +kernel
theorem dX1_renew_21 : decode cX1_renew 21 = .ok (.putfield 15, 3) := by decide +kernel
theorem dX1_renew_24 : decode cX1_renew 24 = .ok (.aload_n 0, 1) := by decide +kernel
theorem dX1_renew_25 : decode cX1_renew 25 = .ok (.getfield 18, 3) := by decide +kernel
theorem dX1_renew_28 : decode cX1_renew 28 = .ok (.iload_n 3, 1) := by decide +kernel
theorem dX1_renew_29 : decode cX1_renew 29 = .ok (.invokestatic 30, 3) := by decide +kernel
theorem dX1_renew_32 : decode cX1_renew 32 = .ok (.return_, 1) := by decide +kernel
theorem dX1_copyFrom_0 : decode cX1_copyFrom 0 = .ok (.aload_n 0, 1) := by decide +kernel
theorem dX1_copyFrom_1 : decode cX1_copyFrom 1 = .ok (.aload_n 1, 1) := by decide +kernel
theorem dX1_copyFrom_2 : decode cX1_copyFrom 2 = .ok (.getfield 9, 3) := by decide +kernel
theorem dX1_copyFrom_5 : decode cX1_copyFrom 5 = .ok (.putfield 9, 3) := by decide +kernel
theorem dX1_copyFrom_8 : decode cX1_copyFrom 8 = .ok (.aload_n 0, 1) := by decide +kernel
theorem dX1_copyFrom_9 : decode cX1_copyFrom 9 = .ok (.aload_n 1, 1) := by decide +kernel
theorem dX1_copyFrom_10 : decode cX1_copyFrom 10 = .ok (.getfield 15, 3) := by decide +kernel
theorem dX1_copyFrom_13 : decode cX1_copyFrom 13 = .ok (.putfield 15, 3) := by decide +kernel
theorem dX1_copyFrom_16 : decode cX1_copyFrom 16 = .ok (.aload_n 1, 1) := by decide +kernel
theorem dX1_copyFrom_17 : decode cX1_copyFrom 17 = .ok (.getfield 18, 3) := by decide +kernel
theorem dX1_copyFrom_20 : decode cX1_copyFrom 20 = .ok (.iconst 0, 1) := by decide +kernel
theorem dX1_copyFrom_21 : decode cX1_copyFrom 21 = .ok (.aload_n 0, 1) := by decide +kernel
theorem dX1_copyFrom_22 : decode cX1_copyFrom 22 = .ok (.getfield 18, 3) := by decide +kernel
theorem dX1_copyFrom_25 : decode cX1_copyFrom 25 = .ok (.iconst 0, 1) := by decide +kernel
theorem dX1_copyFrom_26 : decode cX1_copyFrom 26 = .ok (.aload_n 0, 1) := by decide +kernel
theorem dX1_copyFrom_27 : decode cX1_copyFrom 27 = .ok (.getfield 18, 3) := by decide +kernel
theorem dX1_copyFrom_30 : decode cX1_copyFrom 30 = .ok (.arraylength, 1) := by decide +kernel
theorem dX1_copyFrom_31 : decode cX1_copyFrom 31 = .ok (.invokestatic 36, 3) := by decide +kernel
theorem dX1_copyFrom_34 : decode cX1_copyFrom 34 = .ok (.return_, 1) := by decide +kernel
theorem dX2_init_0 : decode cX2_init 0 = .ok (.aload_n 0, 1) := by decide +kernel
theorem dX2_init_1 : decode cX2_init 1 = .ok (.invokespecial 3, 3) := by decide +kernel
theorem dX2_init_4 : decode cX2_init 4 = .ok (.aload_n 0, 1) := by decide +kernel
theorem dX2_init_5 : decode cX2_init 5 = .ok (.iconst 2, 1) := by decide +kernel
theorem dX2_init_6 : decode cX2_init 6 = .ok (.putfield 9, 3) := by decide +kernel
theorem dX2_init_9 : decode cX2_init 9 = .ok (.aload_n 0, 1) := by decide +kernel
theorem dX2_init_10 : decode cX2_init 10 = .ok (.iconst 2, 1) := by decide +kernel
theorem dX2_init_11 : decode cX2_init 11 = .ok (.putfield 15, 3) := by decide +kernel
theorem dX2_init_14 : decode cX2_init 14 = .ok (.aload_n 0, 1) := by decide +kernel
theorem dX2_init_15 : decode cX2_init 15 = .ok (.bipush 20, 2) := by decide +kernel
theorem dX2_init_17 : decode cX2_init 17 = .ok (.newarray .int, 2) := by decide +kernel
theorem dX2_init_19 : decode cX2_init 19 = .ok (.putfield 18, 3) := by decide +kernel
theorem dX2_init_22 : decode cX2_init 22 = .ok (.return_, 1) := by decide +kernel
set_option maxRecDepth 20000 in
theorem ggX2_renew_J7_fill_53178 : GoodIn wsX2_renew wsJ7_fill_53178 := goodIn_r _ [7] (by decide +kernel) (by decide +kernel)
set_option maxRecDepth 20000 in
theorem gX2_renew_J7_fill_53178 : GoodIn wsX2_renew (va_wsS RX2 22 yJ7_fill_53178 wsJ7_fill_53178) := goodIn_app (goodIn_of _ (by decide +kernel)) ggX2_renew_J7_fill_53178
theorem dX2_renew_0 : decode cX2_renew 0 = .ok (.iload_n 1, 1) := by decide +kernel
theorem dX2_renew_1 : decode cX2_renew 1 = .ok (.iconst 1, 1) := by decide +kernel
theorem dX2_renew_2 : decode cX2_renew 2 = .ok (.if_icmp .lt 26, 3) := by decide +kernel
theorem dX2_renew_5 : decode cX2_renew 5 = .ok (.iload_n 1, 1) := by decide +kernel
theorem dX2_renew_6 : decode cX2_renew 6 = .ok (.iconst 4, 1) := by decide +kernel
theorem dX2_renew_7 : decode cX2_renew 7 = .ok (.if_icmp .gt 21, 3) := by decide +kernel
theorem dX2_renew_10 : decode cX2_renew 10 = .ok (.aload_n 0, 1) := by decide +kernel
theorem dX2_renew_11 : decode cX2_renew 11 = .ok (.iload_n 1, 1) := by decide +kernel
theorem dX2_renew_12 : decode cX2_renew 12 = .ok (.putfield 9, 3) := by decide +kernel
theorem dX2_renew_15 : decode cX2_renew 15 = .ok (.aload_n 0, 1) := by decide +kernel
theorem dX2_renew_16 : decode cX2_renew 16 = .ok (.iload_n 1, 1) := by decide +kernel
theorem dX2_renew_17 : decode cX2_renew 17 = .ok (.putfield 15, 3) := by decide +kernel
theorem dX2_renew_20 : decode cX2_renew 20 = .ok (.aload_n 0, 1) := by decide +kernel
theorem dX2_renew_21 : decode cX2_renew 21 = .ok (.getfield 18, 3) := by decide +kernel
theorem dX2_renew_24 : decode cX2_renew 24 = .ok (.iconst 0, 1) := by decide +kernel
theorem dX2_renew_25 : decode cX2_renew 25 = .ok (.invokestatic 22, 3) := by decide +kernel
theorem dX2_renew_28 : decode cX2_renew 28 = .ok (.return_, 1) := by decide +kernel
theorem dX2_has_0 : decode cX2_has 0 = .ok (.iload_n 1, 1) := by decide +kernel
theorem dX2_has_1 : decode cX2_has 1 = .ok (.ifCond .lt 27, 3) := by decide +kernel
theorem dX2_has_4 : decode cX2_has 4 = .ok (.iload_n 1, 1) := by decide +kernel
theorem dX2_has_5 : decode cX2_has 5 = .ok (.aload_n 0, 1) := by decide +kernel
theorem dX2_has_6 : decode cX2_has 6 = .ok (.getfield 9, 3) := by decide +kernel
theorem dX2_has_9 : decode cX2_has 9 = .ok (.if_icmp .ge 19, 3) := by decide +kernel
theorem dX2_has_12 : decode cX2_has 12 = .ok (.iload_n 2, 1) := by decide +kernel
theorem dX2_has_13 : decode cX2_has 13 = .ok (.ifCond .lt 15, 3) := by decide +kernel
theorem dX2_has_16 : decode cX2_has 16 = .ok (.iload_n 2, 1) := by decide +kernel
theorem dX2_has_17 : decode cX2_has 17 = .ok (.aload_n 0, 1) := by decide +kernel
theorem dX2_has_18 : decode cX2_has 18 = .ok (.getfield 9, 3) := by decide +kernel
theorem dX2_has_21 : decode cX2_has 21 = .ok (.if_icmp .gt 7, 3) := by decide +kernel
theorem dX2_has_24 : decode cX2_has 24 = .ok (.iconst 1, 1) := by decide +kernel
theorem dX2_has_25 : decode cX2_has 25 = .ok (.goto 4, 3) := by decide +kernel
theorem dX2_has_28 : decode cX2_has 28 = .ok (.iconst 0, 1) := by decide +kernel
theorem dX2_has_29 : decode cX2_has 29 = .ok (.ireturn, 1) := by decide +kernel
set_option maxRecDepth 20000 in
theorem ggX2_kindAt_X2_has : GoodIn wsX2_kindAt wsX2_has := goodIn_r _ [6, 7, 8, 9, 10] (by decide +kernel) (by decide +kernel)
set_option maxRecDepth 20000 in
theorem gX2_kindAt_X2_has : GoodIn wsX2_kindAt (wsV RX2 28 RX2 yX2_has wsX2_has) := goodIn_app (goodIn_of _ (by decide +kernel)) ggX2_kindAt_X2_has
theorem dX2_kindAt_0 : decode cX2_kindAt 0 = .ok (.aload_n 0, 1) := by decide +kernel
theorem dX2_kindAt_1 : decode cX2_kindAt 1 = .ok (.iload_n 1, 1) := by decide +kernel
theorem dX2_kindAt_2 : decode cX2_kindAt 2 = .ok (.iload_n 2, 1) := by decide +kernel
theorem dX2_kindAt_3 : decode cX2_kindAt 3 = .ok (.invokevirtual 28, 3) := by decide +kernel
theorem dX2_kindAt_6 : decode cX2_kindAt 6 = .ok (.ifCond .eq 16, 3) := by decide +kernel
theorem dX2_kindAt_9 : decode cX2_kindAt 9 = .ok (.aload_n 0, 1) := by decide +kernel
theorem dX2_kindAt_10 : decode cX2_kindAt 10 = .ok (.getfield 18, 3) := by decide +kernel
theorem dX2_kindAt_13 : decode cX2_kindAt 13 = .ok (.iload_n 1, 1) := by decide +kernel
theorem dX2_kindAt_14 : decode cX2_kindAt 14 = .ok (.iconst 5, 1) := by decide +kernel
theorem dX2_kindAt_15 : decode cX2_kindAt 15 = .ok (.imul, 1) := by decide +kernel
theorem dX2_kindAt_16 : decode cX2_kindAt 16 = .ok (.iload_n 2, 1) := by decide +kernel
theorem dX2_kindAt_17 : decode cX2_kindAt 17 = .ok (.iadd, 1) := by decide +kernel
theorem dX2_kindAt_18 : decode cX2_kindAt 18 = .ok (.iaload, 1) := by decide +kernel
theorem dX2_kindAt_19 : decode cX2_kindAt 19 = .ok (.goto 4, 3) := by decide +kernel
theorem dX2_kindAt_22 : decode cX2_kindAt 22 = .ok (.iconst 0, 1) := by decide +kernel
theorem dX2_kindAt_23 : decode cX2_kindAt 23 = .ok (.ireturn, 1) := by decide +kernel
set_option maxRecDepth 20000 in
theorem ggX2_setKind_X2_has : GoodIn wsX2_setKind wsX2_has := goodIn_r _ [6, 7, 8, 9, 10] (by decide +kernel) (by decide +kernel)
set_option maxRecDepth 20000 in
theorem gX2_setKind_X2_has : GoodIn wsX2_setKind (wsV RX2 28 RX2 yX2_has wsX2_has) := goodIn_app (goodIn_of _ (by decide +kernel)) ggX2_setKind_X2_has
theorem dX2_setKind_0 : decode cX2_setKind 0 = .ok (.aload_n 0, 1) := by decide +kernel
theorem dX2_setKind_1 : decode cX2_setKind 1 = .ok (.iload_n 1, 1) := by decide +kernel
theorem dX2_setKind_2 : decode cX2_setKind 2 = .ok (.iload_n 2, 1) := by decide +kernel
theorem dX2_setKind_3 : decode cX2_setKind 3 = .ok (.invokevirtual 28, 3) := by decide +kernel
theorem dX2_setKind_6 : decode cX2_setKind 6 = .ok (.ifCond .eq 14, 3) := by decide +kernel
theorem dX2_setKind_9 : decode cX2_setKind 9 = .ok (.aload_n 0, 1) := by decide +kernel
theorem dX2_setKind_10 : decode cX2_setKind 10 = .ok (.getfield 18, 3) := by decide +kernel
theorem dX2_setKind_13 : decode cX2_setKind 13 = .ok (.iload_n 1, 1) := by decide +kernel
theorem dX2_setKind_14 : decode cX2_setKind 14 = .ok (.iconst 5, 1) := by decide +kernel
theorem dX2_setKind_15 : decode cX2_setKind 15 = .ok (.imul, 1) := by decide +kernel
theorem dX2_setKind_16 : decode cX2_setKind 16 = .ok (.iload_n 2, 1) := by decide +kernel
theorem dX2_setKind_17 : decode cX2_setKind 17 = .ok (.iadd, 1) := by decide +kernel
theorem dX2_setKind_18 : decode cX2_setKind 18 = .ok (.iload_n 3, 1) := by decide +kernel
theorem dX2_setKind_19 : decode cX2_setKind 19 = .ok (.iastore, 1) := by decide +kernel
theorem dX2_setKind_20 : decode cX2_setKind 20 = .ok (.return_, 1) := by decide +kernel
theorem dX2_placeOf_0 : decode cX2_placeOf 0 = .ok (.iload_n 1, 1) := by decide +kernel
theorem dX2_placeOf_1 : decode cX2_placeOf 1 = .ok (.aload_n 0, 1) := by decide +kernel
theorem dX2_placeOf_2 : decode cX2_placeOf 2 = .ok (.getfield 15, 3) := by decide +kernel
theorem dX2_placeOf_5 : decode cX2_placeOf 5 = .ok (.if_icmp .ge 7, 3) := by decide +kernel
theorem dX2_placeOf_8 : decode cX2_placeOf 8 = .ok (.iload_n 1, 1) := by decide +kernel
theorem dX2_placeOf_9 : decode cX2_placeOf 9 = .ok (.goto 6, 3) := by decide +kernel
theorem dX2_placeOf_12 : decode cX2_placeOf 12 = .ok (.iload_n 1, 1) := by decide +kernel
theorem dX2_placeOf_13 : decode cX2_placeOf 13 = .ok (.iconst 1, 1) := by decide +kernel
theorem dX2_placeOf_14 : decode cX2_placeOf 14 = .ok (.iadd, 1) := by decide +kernel
theorem dX2_placeOf_15 : decode cX2_placeOf 15 = .ok (.ireturn, 1) := by decide +kernel
set_option maxRecDepth 20000 in
theorem ggX2_faultyCells_X2_kindAt : GoodIn wsX2_faultyCells wsX2_kindAt := goodIn_r _ [6, 7, 8, 9, 10, 5, 11, 1, 12, 13, 14] (by decide +kernel) (by decide +kernel)
set_option maxRecDepth 20000 in
theorem gX2_faultyCells_X2_kindAt : GoodIn wsX2_faultyCells (wsV RX2 32 RX2 yX2_kindAt wsX2_kindAt) := goodIn_app (goodIn_of _ (by decide +kernel)) ggX2_faultyCells_X2_kindAt
theorem dX2_faultyCells_0 : decode cX2_faultyCells 0 = .ok (.iconst 0, 1) := by decide +kernel
theorem dX2_faultyCells_1 : decode cX2_faultyCells 1 = .ok (.istore_n 1, 1) := by decide +kernel
theorem dX2_faultyCells_2 : decode cX2_faultyCells 2 = .ok (.iconst 0, 1) := by decide +kernel
theorem dX2_faultyCells_3 : decode cX2_faultyCells 3 = .ok (.istore_n 2, 1) := by decide +kernel
theorem dX2_faultyCells_4 : decode cX2_faultyCells 4 = .ok (.iload_n 2, 1) := by decide +kernel
theorem dX2_faultyCells_5 : decode cX2_faultyCells 5 = .ok (.aload_n 0, 1) := by decide +kernel
theorem dX2_faultyCells_6 : decode cX2_faultyCells 6 = .ok (.getfield 9, 3) := by decide +kernel
theorem dX2_faultyCells_9 : decode cX2_faultyCells 9 = .ok (.if_icmp .ge 37, 3) := by decide +kernel
theorem dX2_faultyCells_12 : decode cX2_faultyCells 12 = .ok (.iconst 0, 1) := by decide +kernel
theorem dX2_faultyCells_13 : decode cX2_faultyCells 13 = .ok (.istore_n 3, 1) := by decide +kernel
theorem dX2_faultyCells_14 : decode cX2_faultyCells 14 = .ok (.iload_n 3, 1) := by decide +kernel
theorem dX2_faultyCells_15 : decode cX2_faultyCells 15 = .ok (.aload_n 0, 1) := by decide +kernel
theorem dX2_faultyCells_16 : decode cX2_faultyCells 16 = .ok (.getfield 9, 3) := by decide +kernel
theorem dX2_faultyCells_19 : decode cX2_faultyCells 19 = .ok (.if_icmp .gt 21, 3) := by decide +kernel
theorem dX2_faultyCells_22 : decode cX2_faultyCells 22 = .ok (.aload_n 0, 1) := by decide +kernel
theorem dX2_faultyCells_23 : decode cX2_faultyCells 23 = .ok (.iload_n 2, 1) := by decide +kernel
theorem dX2_faultyCells_24 : decode cX2_faultyCells 24 = .ok (.iload_n 3, 1) := by decide +kernel
theorem dX2_faultyCells_25 : decode cX2_faultyCells 25 = .ok (.invokevirtual 32, 3) := by decide +kernel
theorem dX2_faultyCells_28 : decode cX2_faultyCells 28 = .ok (.ifCond .eq 6, 3) := by decide +kernel
theorem dX2_faultyCells_31 : decode cX2_faultyCells 31 = .ok (.iinc 1 1, 3) := by decide +kernel
theorem dX2_faultyCells_34 : decode cX2_faultyCells 34 = .ok (.iinc 3 1, 3) := by decide +kernel
theorem dX2_faultyCells_37 : decode cX2_faultyCells 37 = .ok (.goto (-23), 3) := by decide +kernel
theorem dX2_faultyCells_40 : decode cX2_faultyCells 40 = .ok (.iinc 2 1, 3) := by decide +kernel
theorem dX2_faultyCells_43 : decode cX2_faultyCells 43 = .ok (.goto (-39), 3) := by decide +kernel
theorem dX2_faultyCells_46 : decode cX2_faultyCells 46 = .ok (.iload_n 1, 1) := by decide +kernel
theorem dX2_faultyCells_47 : decode cX2_faultyCells 47 = .ok (.ireturn, 1) := by decide +kernel
theorem dX2_copyFrom_0 : decode cX2_copyFrom 0 = .ok (.aload_n 0, 1) := by decide +kernel
theorem dX2_copyFrom_1 : decode cX2_copyFrom 1 = .ok (.aload_n 1, 1) := by decide +kernel
theorem dX2_copyFrom_2 : decode cX2_copyFrom 2 = .ok (.getfield 9, 3) := by decide +kernel
theorem dX2_copyFrom_5 : decode cX2_copyFrom 5 = .ok (.putfield 9, 3) := by decide +kernel
theorem dX2_copyFrom_8 : decode cX2_copyFrom 8 = .ok (.aload_n 0, 1) := by decide +kernel
theorem dX2_copyFrom_9 : decode cX2_copyFrom 9 = .ok (.aload_n 1, 1) := by decide +kernel
theorem dX2_copyFrom_10 : decode cX2_copyFrom 10 = .ok (.getfield 15, 3) := by decide +kernel
theorem dX2_copyFrom_13 : decode cX2_copyFrom 13 = .ok (.putfield 15, 3) := by decide +kernel
theorem dX2_copyFrom_16 : decode cX2_copyFrom 16 = .ok (.aload_n 1, 1) := by decide +kernel
theorem dX2_copyFrom_17 : decode cX2_copyFrom 17 = .ok (.getfield 18, 3) := by decide +kernel
theorem dX2_copyFrom_20 : decode cX2_copyFrom 20 = .ok (.iconst 0, 1) := by decide +kernel
theorem dX2_copyFrom_21 : decode cX2_copyFrom 21 = .ok (.aload_n 0, 1) := by decide +kernel
theorem dX2_copyFrom_22 : decode cX2_copyFrom 22 = .ok (.getfield 18, 3) := by decide +kernel
theorem dX2_copyFrom_25 : decode cX2_copyFrom 25 = .ok (.iconst 0, 1) := by decide +kernel
theorem dX2_copyFrom_26 : decode cX2_copyFrom 26 = .ok (.aload_n 0, 1) := by decide +kernel
theorem dX2_copyFrom_27 : decode cX2_copyFrom 27 = .ok (.getfield 18, 3) := by decide +kernel
theorem dX2_copyFrom_30 : decode cX2_copyFrom 30 = .ok (.arraylength, 1) := by decide +kernel
theorem dX2_copyFrom_31 : decode cX2_copyFrom 31 = .ok (.invokestatic 36, 3) := by decide +kernel
theorem dX2_copyFrom_34 : decode cX2_copyFrom 34 = .ok (.return_, 1) := by decide +kernel
set_option maxRecDepth 20000 in
theorem ggX3_init_X2_init : GoodIn wsX3_init wsX2_init := goodIn_r _ [19, 20, 2, 3, 21, 22, 23, 24, 57, 58, 59] (by decide +kernel) (by decide +kernel)
set_option maxRecDepth 20000 in
theorem gX3_init_X2_init_n11 : GoodIn wsX3_init (wsX2_init) := ggX3_init_X2_init
set_option maxRecDepth 20000 in
theorem ggX3_init_X1_init : GoodIn wsX3_init wsX1_init := goodIn_r _ [26, 27, 2, 3, 28, 29, 23, 30, 65, 66, 67] (by decide +kernel) (by decide +kernel)
set_option maxRecDepth 20000 in
theorem gX3_init_X1_init_n20 : GoodIn wsX3_init (wsX1_init) := ggX3_init_X1_init
set_option maxRecDepth 20000 in
theorem ggX3_init_X5_init : GoodIn wsX3_init wsX5_init := goodIn_r _ [32, 33, 2, 3, 23, 34, 35, 36, 37, 68, 69, 70, 71, 72, 73, 74, 75, 76, 77, 78] (by decide +kernel) (by decide +kernel)
set_option maxRecDepth 20000 in
theorem gX3_init_X5_init_n33 : GoodIn wsX3_init (wsX5_init) := ggX3_init_X5_init
set_option maxRecDepth 20000 in
theorem ggX3_init_X3_forgetResults : GoodIn wsX3_init wsX3_forgetResults := goodIn_r _ [42, 13, 11, 43, 12, 44, 45, 46, 47, 48, 10, 49, 28, 29, 30, 50, 51, 52, 53, 54, 55, 56, 60, 61, 62, 63, 64, 65, 66, 67] (by decide +kernel) (by decide +kernel)
set_option maxRecDepth 20000 in
theorem gX3_init_X3_forgetResults : GoodIn wsX3_init (wsV RX3 38 RX3 yX3_forgetResults wsX3_forgetResults) := goodIn_app (goodIn_of _ (by decide +kernel)) ggX3_init_X3_forgetResults
theorem dX3_init_0 : decode cX3_init 0 = .ok (.aload_n 0, 1) := by decide +kernel
theorem dX3_init_1 : decode cX3_init 1 = .ok (.invokespecial 3, 3) := by decide +kernel
theorem dX3_init_4 : decode cX3_init 4 = .ok (.aload_n 0, 1) := by decide +kernel
theorem dX3_init_5 : decode cX3_init 5 = .ok (.new 9, 3) := by decide +kernel
theorem dX3_init_8 : decode cX3_init 8 = .ok (.dup, 1) := by decide +kernel
theorem dX3_init_9 : decode cX3_init 9 = .ok (.invokespecial 11, 3) := by decide +kernel
theorem dX3_init_12 : decode cX3_init 12 = .ok (.putfield 12, 3) := by decide +kernel
theorem dX3_init_15 : decode cX3_init 15 = .ok (.aload_n 0, 1) := by decide +kernel
theorem dX3_init_16 : decode cX3_init 16 = .ok (.new 18, 3) := by decide +kernel
theorem dX3_init_19 : decode cX3_init 19 = .ok (.dup, 1) := by decide +kernel
theorem dX3_init_20 : decode cX3_init 20 = .ok (.invokespecial 20, 3) := by decide +kernel
theorem dX3_init_23 : decode cX3_init 23 = .ok (.putfield 21, 3) := by decide +kernel
theorem dX3_init_26 : decode cX3_init 26 = .ok (.aload_n 0, 1) := by decide +kernel
theorem dX3_init_27 : decode cX3_init 27 = .ok (.new 18, 3) := by decide +kernel
theorem dX3_init_30 : decode cX3_init 30 = .ok (.dup, 1) := by decide +kernel
theorem dX3_init_31 : decode cX3_init 31 = .ok (.invokespecial 20, 3) := by decide +kernel
theorem dX3_init_34 : decode cX3_init 34 = .ok (.putfield 25, 3) := by decide +kernel
theorem dX3_init_37 : decode cX3_init 37 = .ok (.aload_n 0, 1) := by decide +kernel
theorem dX3_init_38 : decode cX3_init 38 = .ok (.new 18, 3) := by decide +kernel
theorem dX3_init_41 : decode cX3_init 41 = .ok (.dup, 1) := by decide +kernel
theorem dX3_init_42 : decode cX3_init 42 = .ok (.invokespecial 20, 3) := by decide +kernel
theorem dX3_init_45 : decode cX3_init 45 = .ok (.putfield 28, 3) := by decide +kernel
theorem dX3_init_48 : decode cX3_init 48 = .ok (.aload_n 0, 1) := by decide +kernel
theorem dX3_init_49 : decode cX3_init 49 = .ok (.new 31, 3) := by decide +kernel
theorem dX3_init_52 : decode cX3_init 52 = .ok (.dup, 1) := by decide +kernel
theorem dX3_init_53 : decode cX3_init 53 = .ok (.invokespecial 33, 3) := by decide +kernel
theorem dX3_init_56 : decode cX3_init 56 = .ok (.putfield 34, 3) := by decide +kernel
theorem dX3_init_59 : decode cX3_init 59 = .ok (.aload_n 0, 1) := by decide +kernel
theorem dX3_init_60 : decode cX3_init 60 = .ok (.invokevirtual 38, 3) := by decide +kernel
theorem dX3_init_63 : decode cX3_init 63 = .ok (.return_, 1) := by decide +kernel
set_option maxRecDepth 20000 in
theorem ggX3_copyFrom_X2_copyFrom : GoodIn wsX3_copyFrom wsX2_copyFrom := goodIn_r _ [10, 11, 12, 13, 14, 15, 16, 17, 49, 50, 51] (by decide +kernel) (by decide +kernel)
set_option maxRecDepth 20000 in
theorem gX3_copyFrom_X2_copyFrom : GoodIn wsX3_copyFrom (wsV RX3 41 RX2 yX2_copyFrom wsX2_copyFrom) := goodIn_app (goodIn_of _ (by decide +kernel)) ggX3_copyFrom_X2_copyFrom
set_option maxRecDepth 20000 in
theorem ggX3_copyFrom_X1_copyFrom : GoodIn wsX3_copyFrom wsX1_copyFrom := goodIn_r _ [22, 23, 24, 25, 26, 15, 16, 17, 52, 53, 54] (by decide +kernel) (by decide +kernel)
set_option maxRecDepth 20000 in
theorem gX3_copyFrom_X1_copyFrom : GoodIn wsX3_copyFrom (wsV RX3 45 RX1 yX1_copyFrom wsX1_copyFrom) := goodIn_app (goodIn_of _ (by decide +kernel)) ggX3_copyFrom_X1_copyFrom
set_option maxRecDepth 20000 in
theorem ggX3_copyFrom_X5_copyFrom : GoodIn wsX3_copyFrom wsX5_copyFrom := goodIn_r _ [31, 32, 33, 34, 35, 36, 37, 38, 39, 40, 15, 16, 17, 41, 42, 43, 55, 56, 57, 58, 59, 60, 61, 62, 63, 64, 65] (by decide +kernel) (by decide +kernel)
set_option maxRecDepth 20000 in
theorem gX3_copyFrom_X5_copyFrom : GoodIn wsX3_copyFrom (wsV RX3 48 RX5 yX5_copyFrom wsX5_copyFrom) := goodIn_app (goodIn_of _ (by decide +kernel)) ggX3_copyFrom_X5_copyFrom
theorem dX3_copyFrom_0 : decode cX3_copyFrom 0 = .ok (.aload_n 0, 1) := by decide +kernel
theorem dX3_copyFrom_1 : decode cX3_copyFrom 1 = .ok (.getfield 12, 3) := by decide +kernel
theorem dX3_copyFrom_4 : decode cX3_copyFrom 4 = .ok (.aload_n 1, 1) := by decide +kernel
theorem dX3_copyFrom_5 : decode cX3_copyFrom 5 = .ok (.getfield 12, 3) := by decide +kernel
theorem dX3_copyFrom_8 : decode cX3_copyFrom 8 = .ok (.invokevirtual 41, 3) := by decide +kernel
theorem dX3_copyFrom_11 : decode cX3_copyFrom 11 = .ok (.aload_n 0, 1) := by decide +kernel
theorem dX3_copyFrom_12 : decode cX3_copyFrom 12 = .ok (.getfield 21, 3) := by decide +kernel
theorem dX3_copyFrom_15 : decode cX3_copyFrom 15 = .ok (.aload_n 1, 1) := by decide +kernel
theorem dX3_copyFrom_16 : decode cX3_copyFrom 16 = .ok (.getfield 21, 3) := by decide +kernel
theorem dX3_copyFrom_19 : decode cX3_copyFrom 19 = .ok (.invokevirtual 45, 3) := by decide +kernel
theorem dX3_copyFrom_22 : decode cX3_copyFrom 22 = .ok (.aload_n 0, 1) := by decide +kernel
theorem dX3_copyFrom_23 : decode cX3_copyFrom 23 = .ok (.getfield 25, 3) := by decide +kernel
theorem dX3_copyFrom_26 : decode cX3_copyFrom 26 = .ok (.aload_n 1, 1) := by decide +kernel
theorem dX3_copyFrom_27 : decode cX3_copyFrom 27 = .ok (.getfield 25, 3) := by decide +kernel
theorem dX3_copyFrom_30 : decode cX3_copyFrom 30 = .ok (.invokevirtual 45, 3) := by decide +kernel
theorem dX3_copyFrom_33 : decode cX3_copyFrom 33 = .ok (.aload_n 0, 1) := by decide +kernel
theorem dX3_copyFrom_34 : decode cX3_copyFrom 34 = .ok (.getfield 28, 3) := by decide +kernel
theorem dX3_copyFrom_37 : decode cX3_copyFrom 37 = .ok (.aload_n 1, 1) := by decide +kernel
theorem dX3_copyFrom_38 : decode cX3_copyFrom 38 = .ok (.getfield 28, 3) := by decide +kernel
theorem dX3_copyFrom_41 : decode cX3_copyFrom 41 = .ok (.invokevirtual 45, 3) := by decide +kernel
theorem dX3_copyFrom_44 : decode cX3_copyFrom 44 = .ok (.aload_n 0, 1) := by decide +kernel
theorem dX3_copyFrom_45 : decode cX3_copyFrom 45 = .ok (.getfield 34, 3) := by decide +kernel
theorem dX3_copyFrom_48 : decode cX3_copyFrom 48 = .ok (.aload_n 1, 1) := by decide +kernel
theorem dX3_copyFrom_49 : decode cX3_copyFrom 49 = .ok (.getfield 34, 3) := by decide +kernel
theorem dX3_copyFrom_52 : decode cX3_copyFrom 52 = .ok (.invokevirtual 48, 3) := by decide +kernel
theorem dX3_copyFrom_55 : decode cX3_copyFrom 55 = .ok (.return_, 1) := by decide +kernel
set_option maxRecDepth 20000 in
theorem ggX3_forgetResults_X1_renew : GoodIn wsX3_forgetResults wsX1_renew := goodIn_r _ [11, 12, 13, 14, 15, 16, 17, 18, 19, 20, 21, 27, 28, 29] (by decide +kernel) (by decide +kernel)
set_option maxRecDepth 20000 in
theorem gX3_forgetResults_X1_renew : GoodIn wsX3_forgetResults (wsV RX3 59 RX1 yX1_renew wsX1_renew) := goodIn_app (goodIn_of _ (by decide +kernel)) ggX3_forgetResults_X1_renew
theorem dX3_forgetResults_0 : decode cX3_forgetResults 0 = .ok (.aload_n 0, 1) := by decide +kernel
theorem dX3_forgetResults_1 : decode cX3_forgetResults 1 = .ok (.getfield 28, 3) := by decide +kernel
theorem dX3_forgetResults_4 : decode cX3_forgetResults 4 = .ok (.aload_n 0, 1) := by decide +kernel
theorem dX3_forgetResults_5 : decode cX3_forgetResults 5 = .ok (.getfield 21, 3) := by decide +kernel
theorem dX3_forgetResults_8 : decode cX3_forgetResults 8 = .ok (.getfield 51, 3) := by decide +kernel
theorem dX3_forgetResults_11 : decode cX3_forgetResults 11 = .ok (.aload_n 0, 1) := by decide +kernel
theorem dX3_forgetResults_12 : decode cX3_forgetResults 12 = .ok (.getfield 25, 3) := by decide +kernel
theorem dX3_forgetResults_15 : decode cX3_forgetResults 15 = .ok (.getfield 55, 3) := by decide +kernel
theorem dX3_forgetResults_18 : decode cX3_forgetResults 18 = .ok (.ldc 58, 2) := by decide +kernel
theorem dX3_forgetResults_20 : decode cX3_forgetResults 20 = .ok (.invokevirtual 59, 3) := by decide +kernel
theorem dX3_forgetResults_23 : decode cX3_forgetResults 23 = .ok (.return_, 1) := by decide +kernel
set_option maxRecDepth 20000 in
theorem ggX3_takeLeft_X1_copyFrom : GoodIn wsX3_takeLeft wsX1_copyFrom := goodIn_r _ [9, 10, 11, 12, 13, 14, 15, 16, 40, 41, 42] (by decide +kernel) (by decide +kernel)
set_option maxRecDepth 20000 in
theorem gX3_takeLeft_X1_copyFrom : GoodIn wsX3_takeLeft (wsV RX3 45 RX1 yX1_copyFrom wsX1_copyFrom) := goodIn_app (goodIn_of _ (by decide +kernel)) ggX3_takeLeft_X1_copyFrom
set_option maxRecDepth 20000 in
theorem ggX3_takeLeft_X1_renew : GoodIn wsX3_takeLeft wsX1_renew := goodIn_r _ [20, 10, 11, 12, 21, 22, 23, 24, 25, 26, 27, 40, 41, 42] (by decide +kernel) (by decide +kernel)
set_option maxRecDepth 20000 in
theorem gX3_takeLeft_X1_renew : GoodIn wsX3_takeLeft (wsV RX3 59 RX1 yX1_renew wsX1_renew) := goodIn_app (goodIn_of _ (by decide +kernel)) ggX3_takeLeft_X1_renew
set_option maxRecDepth 20000 in
theorem ggX3_takeLeft_X3_forgetResults : GoodIn wsX3_takeLeft wsX3_forgetResults := goodIn_r _ [32, 33, 1, 3, 2, 4, 34, 17, 18, 19, 8, 20, 10, 11, 12, 21, 22, 23, 24, 25, 26, 27, 35, 36, 37, 38, 39, 40, 41, 42] (by decide +kernel) (by decide +kernel)
set_option maxRecDepth 20000 in
theorem gX3_takeLeft_X3_forgetResults : GoodIn wsX3_takeLeft (wsV RX3 38 RX3 yX3_forgetResults wsX3_forgetResults) := goodIn_app (goodIn_of _ (by decide +kernel)) ggX3_takeLeft_X3_forgetResults
theorem dX3_takeLeft_0 : decode cX3_takeLeft 0 = .ok (.aload_n 0, 1) := by decide +kernel
theorem dX3_takeLeft_1 : decode cX3_takeLeft 1 = .ok (.getfield 21, 3) := by decide +kernel
theorem dX3_takeLeft_4 : decode cX3_takeLeft 4 = .ok (.aload_n 1, 1) := by decide +kernel
theorem dX3_takeLeft_5 : decode cX3_takeLeft 5 = .ok (.invokevirtual 45, 3) := by decide +kernel
theorem dX3_takeLeft_8 : decode cX3_takeLeft 8 = .ok (.aload_n 0, 1) := by decide +kernel
theorem dX3_takeLeft_9 : decode cX3_takeLeft 9 = .ok (.getfield 25, 3) := by decide +kernel
theorem dX3_takeLeft_12 : decode cX3_takeLeft 12 = .ok (.getfield 51, 3) := by decide +kernel
theorem dX3_takeLeft_15 : decode cX3_takeLeft 15 = .ok (.aload_n 1, 1) := by decide +kernel
theorem dX3_takeLeft_16 : decode cX3_takeLeft 16 = .ok (.getfield 55, 3) := by decide +kernel
theorem dX3_takeLeft_19 : decode cX3_takeLeft 19 = .ok (.if_icmp .eq 22, 3) := by decide +kernel
theorem dX3_takeLeft_22 : decode cX3_takeLeft 22 = .ok (.aload_n 0, 1) := by decide +kernel
theorem dX3_takeLeft_23 : decode cX3_takeLeft 23 = .ok (.getfield 25, 3) := by decide +kernel
theorem dX3_takeLeft_26 : decode cX3_takeLeft 26 = .ok (.aload_n 1, 1) := by decide +kernel
theorem dX3_takeLeft_27 : decode cX3_takeLeft 27 = .ok (.getfield 55, 3) := by decide +kernel
theorem dX3_takeLeft_30 : decode cX3_takeLeft 30 = .ok (.aload_n 0, 1) := by decide +kernel
theorem dX3_takeLeft_31 : decode cX3_takeLeft 31 = .ok (.getfield 25, 3) := by decide +kernel
theorem dX3_takeLeft_34 : decode cX3_takeLeft 34 = .ok (.getfield 55, 3) := by decide +kernel
theorem dX3_takeLeft_37 : decode cX3_takeLeft 37 = .ok (.iconst 0, 1) := by decide +kernel
theorem dX3_takeLeft_38 : decode cX3_takeLeft 38 = .ok (.invokevirtual 59, 3) := by decide +kernel
theorem dX3_takeLeft_41 : decode cX3_takeLeft 41 = .ok (.aload_n 0, 1) := by decide +kernel
theorem dX3_takeLeft_42 : decode cX3_takeLeft 42 = .ok (.invokevirtual 38, 3) := by decide +kernel
theorem dX3_takeLeft_45 : decode cX3_takeLeft 45 = .ok (.return_, 1) := by decide +kernel
set_option maxRecDepth 20000 in
theorem ggX3_takeRight_X1_copyFrom : GoodIn wsX3_takeRight wsX1_copyFrom := goodIn_r _ [9, 10, 11, 12, 13, 14, 15, 16, 40, 41, 42] (by decide +kernel) (by decide +kernel)
set_option maxRecDepth 20000 in
theorem gX3_takeRight_X1_copyFrom : GoodIn wsX3_takeRight (wsV RX3 45 RX1 yX1_copyFrom wsX1_copyFrom) := goodIn_app (goodIn_of _ (by decide +kernel)) ggX3_takeRight_X1_copyFrom
set_option maxRecDepth 20000 in
theorem ggX3_takeRight_X1_renew : GoodIn wsX3_takeRight wsX1_renew := goodIn_r _ [20, 10, 11, 12, 21, 22, 23, 24, 25, 26, 27, 40, 41, 42] (by decide +kernel) (by decide +kernel)
set_option maxRecDepth 20000 in
theorem gX3_takeRight_X1_renew : GoodIn wsX3_takeRight (wsV RX3 59 RX1 yX1_renew wsX1_renew) := goodIn_app (goodIn_of _ (by decide +kernel)) ggX3_takeRight_X1_renew
set_option maxRecDepth 20000 in
theorem ggX3_takeRight_X3_forgetResults : GoodIn wsX3_takeRight wsX3_forgetResults := goodIn_r _ [32, 33, 2, 4, 1, 3, 34, 17, 18, 19, 8, 20, 10, 11, 12, 21, 22, 23, 24, 25, 26, 27, 35, 36, 37, 38, 39, 40, 41, 42] (by decide +kernel) (by decide +kernel)
set_option maxRecDepth 20000 in
theorem gX3_takeRight_X3_forgetResults : GoodIn wsX3_takeRight (wsV RX3 38 RX3 yX3_forgetResults wsX3_forgetResults) := goodIn_app (goodIn_of _ (by decide +kernel)) ggX3_takeRight_X3_forgetResults
theorem dX3_takeRight_0 : decode cX3_takeRight 0 = .ok (.aload_n 0, 1) := by decide +kernel
theorem dX3_takeRight_1 : decode cX3_takeRight 1 = .ok (.getfield 25, 3) := by decide +kernel
theorem dX3_takeRight_4 : decode cX3_takeRight 4 = .ok (.aload_n 1, 1) := by decide +kernel
theorem dX3_takeRight_5 : decode cX3_takeRight 5 = .ok (.invokevirtual 45, 3) := by decide +kernel
theorem dX3_takeRight_8 : decode cX3_takeRight 8 = .ok (.aload_n 0, 1) := by decide +kernel
theorem dX3_takeRight_9 : decode cX3_takeRight 9 = .ok (.getfield 21, 3) := by decide +kernel
theorem dX3_takeRight_12 : decode cX3_takeRight 12 = .ok (.getfield 55, 3) := by decide +kernel
theorem dX3_takeRight_15 : decode cX3_takeRight 15 = .ok (.aload_n 1, 1) := by decide +kernel
theorem dX3_takeRight_16 : decode cX3_takeRight 16 = .ok (.getfield 51, 3) := by decide +kernel
theorem dX3_takeRight_19 : decode cX3_takeRight 19 = .ok (.if_icmp .eq 22, 3) := by decide +kernel
theorem dX3_takeRight_22 : decode cX3_takeRight 22 = .ok (.aload_n 0, 1) := by decide +kernel
theorem dX3_takeRight_23 : decode cX3_takeRight 23 = .ok (.getfield 21, 3) := by decide +kernel
theorem dX3_takeRight_26 : decode cX3_takeRight 26 = .ok (.aload_n 0, 1) := by decide +kernel
theorem dX3_takeRight_27 : decode cX3_takeRight 27 = .ok (.getfield 21, 3) := by decide +kernel
theorem dX3_takeRight_30 : decode cX3_takeRight 30 = .ok (.getfield 51, 3) := by decide +kernel
theorem dX3_takeRight_33 : decode cX3_takeRight 33 = .ok (.aload_n 1, 1) := by decide +kernel
theorem dX3_takeRight_34 : decode cX3_takeRight 34 = .ok (.getfield 51, 3) := by decide +kernel
theorem dX3_takeRight_37 : decode cX3_takeRight 37 = .ok (.iconst 0, 1) := by decide +kernel
theorem dX3_takeRight_38 : decode cX3_takeRight 38 = .ok (.invokevirtual 59, 3) := by decide +kernel
theorem dX3_takeRight_41 : decode cX3_takeRight 41 = .ok (.aload_n 0, 1) := by decide +kernel
theorem dX3_takeRight_42 : decode cX3_takeRight 42 = .ok (.invokevirtual 38, 3) := by decide +kernel
theorem dX3_takeRight_45 : decode cX3_takeRight 45 = .ok (.return_, 1) := by decide +kernel
set_option maxRecDepth 20000 in
theorem ggX3_tilesDown_X3_tilesAlong : GoodIn wsX3_tilesDown wsX3_tilesAlong := goodIn_r _ [7, 8, 9, 10, 11, 12, 13, 14, 18, 19, 20] (by decide +kernel) (by decide +kernel)
set_option maxRecDepth 20000 in
theorem gX3_tilesDown_X3_tilesAlong : GoodIn wsX3_tilesDown (wsV RX3 63 RX3 yX3_tilesAlong wsX3_tilesAlong) := goodIn_app (goodIn_of _ (by decide +kernel)) ggX3_tilesDown_X3_tilesAlong
theorem dX3_tilesDown_0 : decode cX3_tilesDown 0 = .ok (.aload_n 0, 1) := by decide +kernel
theorem dX3_tilesDown_1 : decode cX3_tilesDown 1 = .ok (.aload_n 0, 1) := by decide +kernel
theorem dX3_tilesDown_2 : decode cX3_tilesDown 2 = .ok (.getfield 21, 3) := by decide +kernel
theorem dX3_tilesDown_5 : decode cX3_tilesDown 5 = .ok (.getfield 51, 3) := by decide +kernel
theorem dX3_tilesDown_8 : decode cX3_tilesDown 8 = .ok (.invokevirtual 63, 3) := by decide +kernel
theorem dX3_tilesDown_11 : decode cX3_tilesDown 11 = .ok (.ireturn, 1) := by decide +kernel
set_option maxRecDepth 20000 in
theorem ggX3_tilesAcross_X3_tilesAlong : GoodIn wsX3_tilesAcross wsX3_tilesAlong := goodIn_r _ [7, 8, 9, 10, 11, 12, 13, 14, 18, 19, 20] (by decide +kernel) (by decide +kernel)
set_option maxRecDepth 20000 in
theorem gX3_tilesAcross_X3_tilesAlong : GoodIn wsX3_tilesAcross (wsV RX3 63 RX3 yX3_tilesAlong wsX3_tilesAlong) := goodIn_app (goodIn_of _ (by decide +kernel)) ggX3_tilesAcross_X3_tilesAlong
theorem dX3_tilesAcross_0 : decode cX3_tilesAcross 0 = .ok (.aload_n 0, 1) := by decide +kernel
theorem dX3_tilesAcross_1 : decode cX3_tilesAcross 1 = .ok (.aload_n 0, 1) := by decide +kernel
theorem dX3_tilesAcross_2 : decode cX3_tilesAcross 2 = .ok (.getfield 25, 3) := by decide +kernel
theorem dX3_tilesAcross_5 : decode cX3_tilesAcross 5 = .ok (.getfield 55, 3) := by decide +kernel
theorem dX3_tilesAcross_8 : decode cX3_tilesAcross 8 = .ok (.invokevirtual 63, 3) := by decide +kernel
theorem dX3_tilesAcross_11 : decode cX3_tilesAcross 11 = .ok (.ireturn, 1) := by decide +kernel
set_option maxRecDepth 20000 in
theorem ggX3_tiles_X3_tilesDown : GoodIn wsX3_tiles wsX3_tilesDown := goodIn_r _ [5, 6, 7, 8, 9, 10, 4, 11, 12, 13, 20, 21, 22, 23, 24, 25, 26, 27, 28, 29, 30] (by decide +kernel) (by decide +kernel)
set_option maxRecDepth 20000 in
theorem gX3_tiles_X3_tilesDown : GoodIn wsX3_tiles (wsV RX3 67 RX3 yX3_tilesDown wsX3_tilesDown) := goodIn_app (goodIn_of _ (by decide +kernel)) ggX3_tiles_X3_tilesDown
set_option maxRecDepth 20000 in
theorem ggX3_tiles_X3_tilesAcross : GoodIn wsX3_tiles wsX3_tilesAcross := goodIn_r _ [17, 18, 19, 8, 9, 10, 4, 11, 12, 13, 20, 21, 22, 23, 24, 25, 26, 27, 28, 29, 30] (by decide +kernel) (by decide +kernel)
set_option maxRecDepth 20000 in
theorem gX3_tiles_X3_tilesAcross : GoodIn wsX3_tiles (wsV RX3 71 RX3 yX3_tilesAcross wsX3_tilesAcross) := goodIn_app (goodIn_of _ (by decide +kernel)) ggX3_tiles_X3_tilesAcross
theorem dX3_tiles_0 : decode cX3_tiles 0 = .ok (.aload_n 0, 1) := by decide +kernel
theorem dX3_tiles_1 : decode cX3_tiles 1 = .ok (.invokevirtual 67, 3) := by decide +kernel
theorem dX3_tiles_4 : decode cX3_tiles 4 = .ok (.aload_n 0, 1) := by decide +kernel
theorem dX3_tiles_5 : decode cX3_tiles 5 = .ok (.invokevirtual 71, 3) := by decide +kernel
theorem dX3_tiles_8 : decode cX3_tiles 8 = .ok (.imul, 1) := by decide +kernel
theorem dX3_tiles_9 : decode cX3_tiles 9 = .ok (.ireturn, 1) := by decide +kernel
theorem dX3_tilesAlong_0 : decode cX3_tilesAlong 0 = .ok (.aload_n 0, 1) := by decide +kernel
theorem dX3_tilesAlong_1 : decode cX3_tilesAlong 1 = .ok (.getfield 12, 3) := by decide +kernel
theorem dX3_tilesAlong_4 : decode cX3_tilesAlong 4 = .ok (.getfield 74, 3) := by decide +kernel
theorem dX3_tilesAlong_7 : decode cX3_tilesAlong 7 = .ok (.ifCond .le 25, 3) := by decide +kernel
theorem dX3_tilesAlong_10 : decode cX3_tilesAlong 10 = .ok (.iload_n 1, 1) := by decide +kernel
theorem dX3_tilesAlong_11 : decode cX3_tilesAlong 11 = .ok (.aload_n 0, 1) := by decide +kernel
theorem dX3_tilesAlong_12 : decode cX3_tilesAlong 12 = .ok (.getfield 12, 3) := by decide +kernel
theorem dX3_tilesAlong_15 : decode cX3_tilesAlong 15 = .ok (.getfield 74, 3) := by decide +kernel
theorem dX3_tilesAlong_18 : decode cX3_tilesAlong 18 = .ok (.iadd, 1) := by decide +kernel
theorem dX3_tilesAlong_19 : decode cX3_tilesAlong 19 = .ok (.iconst 1, 1) := by decide +kernel
theorem dX3_tilesAlong_20 : decode cX3_tilesAlong 20 = .ok (.isub, 1) := by decide +kernel
theorem dX3_tilesAlong_21 : decode cX3_tilesAlong 21 = .ok (.aload_n 0, 1) := by decide +kernel
theorem dX3_tilesAlong_22 : decode cX3_tilesAlong 22 = .ok (.getfield 12, 3) := by decide +kernel
theorem dX3_tilesAlong_25 : decode cX3_tilesAlong 25 = .ok (.getfield 74, 3) := by decide +kernel
theorem dX3_tilesAlong_28 : decode cX3_tilesAlong 28 = .ok (.idiv, 1) := by decide +kernel
theorem dX3_tilesAlong_29 : decode cX3_tilesAlong 29 = .ok (.goto 4, 3) := by decide +kernel
theorem dX3_tilesAlong_32 : decode cX3_tilesAlong 32 = .ok (.iconst 0, 1) := by decide +kernel
theorem dX3_tilesAlong_33 : decode cX3_tilesAlong 33 = .ok (.ireturn, 1) := by decide +kernel
set_option maxRecDepth 20000 in
theorem ggX3_beginTile_X5_empty : GoodIn wsX3_beginTile wsX5_empty := goodIn_r _ [22, 23, 24, 25, 26, 27, 28, 29, 30, 31, 32, 38, 39, 40, 41, 42, 43, 44, 45, 46, 47, 48] (by decide +kernel) (by decide +kernel)
set_option maxRecDepth 20000 in
theorem gX3_beginTile_X5_empty : GoodIn wsX3_beginTile (wsV RX3 77 RX5 yX5_empty wsX5_empty) := goodIn_app (goodIn_of _ (by decide +kernel)) ggX3_beginTile_X5_empty
theorem dX3_beginTile_0 : decode cX3_beginTile 0 = .ok (.aload_n 0, 1) := by decide +kernel
theorem dX3_beginTile_1 : decode cX3_beginTile 1 = .ok (.getfield 34, 3) := by decide +kernel
theorem dX3_beginTile_4 : decode cX3_beginTile 4 = .ok (.invokevirtual 77, 3) := by decide +kernel
theorem dX3_beginTile_7 : decode cX3_beginTile 7 = .ok (.aload_n 0, 1) := by decide +kernel
theorem dX3_beginTile_8 : decode cX3_beginTile 8 = .ok (.getfield 34, 3) := by decide +kernel
theorem dX3_beginTile_11 : decode cX3_beginTile 11 = .ok (.iconst 1, 1) := by decide +kernel
theorem dX3_beginTile_12 : decode cX3_beginTile 12 = .ok (.putfield 80, 3) := by decide +kernel
theorem dX3_beginTile_15 : decode cX3_beginTile 15 = .ok (.aload_n 0, 1) := by decide +kernel
theorem dX3_beginTile_16 : decode cX3_beginTile 16 = .ok (.getfield 34, 3) := by decide +kernel
theorem dX3_beginTile_19 : decode cX3_beginTile 19 = .ok (.iload_n 1, 1) := by decide +kernel
theorem dX3_beginTile_20 : decode cX3_beginTile 20 = .ok (.putfield 84, 3) := by decide +kernel
theorem dX3_beginTile_23 : decode cX3_beginTile 23 = .ok (.aload_n 0, 1) := by decide +kernel
theorem dX3_beginTile_24 : decode cX3_beginTile 24 = .ok (.getfield 34, 3) := by decide +kernel
theorem dX3_beginTile_27 : decode cX3_beginTile 27 = .ok (.iload_n 2, 1) := by decide +kernel
theorem dX3_beginTile_28 : decode cX3_beginTile 28 = .ok (.putfield 87, 3) := by decide +kernel
theorem dX3_beginTile_31 : decode cX3_beginTile 31 = .ok (.aload_n 0, 1) := by decide +kernel
theorem dX3_beginTile_32 : decode cX3_beginTile 32 = .ok (.getfield 34, 3) := by decide +kernel
theorem dX3_beginTile_35 : decode cX3_beginTile 35 = .ok (.aload_n 0, 1) := by decide +kernel
theorem dX3_beginTile_36 : decode cX3_beginTile 36 = .ok (.getfield 12, 3) := by decide +kernel
theorem dX3_beginTile_39 : decode cX3_beginTile 39 = .ok (.getfield 74, 3) := by decide +kernel
theorem dX3_beginTile_42 : decode cX3_beginTile 42 = .ok (.aload_n 0, 1) := by decide +kernel
theorem dX3_beginTile_43 : decode cX3_beginTile 43 = .ok (.getfield 21, 3) := by decide +kernel
theorem dX3_beginTile_46 : decode cX3_beginTile 46 = .ok (.getfield 51, 3) := by decide +kernel
theorem dX3_beginTile_49 : decode cX3_beginTile 49 = .ok (.iload_n 1, 1) := by decide +kernel
theorem dX3_beginTile_50 : decode cX3_beginTile 50 = .ok (.aload_n 0, 1) := by decide +kernel
theorem dX3_beginTile_51 : decode cX3_beginTile 51 = .ok (.getfield 12, 3) := by decide +kernel
theorem dX3_beginTile_54 : decode cX3_beginTile 54 = .ok (.getfield 74, 3) := by decide +kernel
theorem dX3_beginTile_57 : decode cX3_beginTile 57 = .ok (.imul, 1) := by decide +kernel
theorem dX3_beginTile_58 : decode cX3_beginTile 58 = .ok (.isub, 1) := by decide +kernel
theorem dX3_beginTile_59 : decode cX3_beginTile 59 = .ok (.invokestatic 90, 3) := by decide +kernel
theorem dX3_beginTile_62 : decode cX3_beginTile 62 = .ok (.putfield 96, 3) := by decide +kernel
theorem dX3_beginTile_65 : decode cX3_beginTile 65 = .ok (.aload_n 0, 1) := by decide +kernel
theorem dX3_beginTile_66 : decode cX3_beginTile 66 = .ok (.getfield 34, 3) := by decide +kernel
theorem dX3_beginTile_69 : decode cX3_beginTile 69 = .ok (.aload_n 0, 1) := by decide +kernel
theorem dX3_beginTile_70 : decode cX3_beginTile 70 = .ok (.getfield 12, 3) := by decide +kernel
theorem dX3_beginTile_73 : decode cX3_beginTile 73 = .ok (.getfield 74, 3) := by decide +kernel
theorem dX3_beginTile_76 : decode cX3_beginTile 76 = .ok (.aload_n 0, 1) := by decide +kernel
theorem dX3_beginTile_77 : decode cX3_beginTile 77 = .ok (.getfield 25, 3) := by decide +kernel
theorem dX3_beginTile_80 : decode cX3_beginTile 80 = .ok (.getfield 55, 3) := by decide +kernel
theorem dX3_beginTile_83 : decode cX3_beginTile 83 = .ok (.iload_n 2, 1) := by decide +kernel
theorem dX3_beginTile_84 : decode cX3_beginTile 84 = .ok (.aload_n 0, 1) := by decide +kernel
theorem dX3_beginTile_85 : decode cX3_beginTile 85 = .ok (.getfield 12, 3) := by decide +kernel
theorem dX3_beginTile_88 : decode cX3_beginTile 88 = .ok (.getfield 74, 3) := by decide +kernel
theorem dX3_beginTile_91 : decode cX3_beginTile 91 = .ok (.imul, 1) := by decide +kernel
theorem dX3_beginTile_92 : decode cX3_beginTile 92 = .ok (.isub, 1) := by decide +kernel
theorem dX3_beginTile_93 : decode cX3_beginTile 93 = .ok (.invokestatic 90, 3) := by decide +kernel
theorem dX3_beginTile_96 : decode cX3_beginTile 96 = .ok (.putfield 99, 3) := by decide +kernel
theorem dX3_beginTile_99 : decode cX3_beginTile 99 = .ok (.aload_n 0, 1) := by decide +kernel
theorem dX3_beginTile_100 : decode cX3_beginTile 100 = .ok (.getfield 34, 3) := by decide +kernel
theorem dX3_beginTile_103 : decode cX3_beginTile 103 = .ok (.aload_n 0, 1) := by decide +kernel
theorem dX3_beginTile_104 : decode cX3_beginTile 104 = .ok (.getfield 34, 3) := by decide +kernel
theorem dX3_beginTile_107 : decode cX3_beginTile 107 = .ok (.getfield 96, 3) := by decide +kernel
theorem dX3_beginTile_110 : decode cX3_beginTile 110 = .ok (.aload_n 0, 1) := by decide +kernel
theorem dX3_beginTile_111 : decode cX3_beginTile 111 = .ok (.getfield 34, 3) := by decide +kernel
theorem dX3_beginTile_114 : decode cX3_beginTile 114 = .ok (.getfield 99, 3) := by decide +kernel
theorem dX3_beginTile_117 : decode cX3_beginTile 117 = .ok (.iadd, 1) := by decide +kernel
theorem dX3_beginTile_118 : decode cX3_beginTile 118 = .ok (.aload_n 0, 1) := by decide +kernel
theorem dX3_beginTile_119 : decode cX3_beginTile 119 = .ok (.getfield 21, 3) := by decide +kernel
theorem dX3_beginTile_122 : decode cX3_beginTile 122 = .ok (.getfield 55, 3) := by decide +kernel
theorem dX3_beginTile_125 : decode cX3_beginTile 125 = .ok (.iadd, 1) := by decide +kernel
theorem dX3_beginTile_126 : decode cX3_beginTile 126 = .ok (.iconst 2, 1) := by decide +kernel
theorem dX3_beginTile_127 : decode cX3_beginTile 127 = .ok (.isub, 1) := by decide +kernel
theorem dX3_beginTile_128 : decode cX3_beginTile 128 = .ok (.putfield 102, 3) := by decide +kernel
theorem dX3_beginTile_131 : decode cX3_beginTile 131 = .ok (.return_, 1) := by decide +kernel
set_option maxRecDepth 20000 in
theorem ggX3_goOn_X5_ticksLeft : GoodIn wsX3_goOn wsX5_ticksLeft := goodIn_r _ [10, 11, 12, 98, 99, 100, 101, 102, 103, 104, 105, 106, 107, 108] (by decide +kernel) (by decide +kernel)
set_option maxRecDepth 20000 in
theorem gX3_goOn_X5_ticksLeft : GoodIn wsX3_goOn (wsV RX3 105 RX5 yX5_ticksLeft wsX5_ticksLeft) := goodIn_app (goodIn_of _ (by decide +kernel)) ggX3_goOn_X5_ticksLeft
set_option maxRecDepth 20000 in
theorem ggX3_goOn_X3_goOnce : GoodIn wsX3_goOn wsX3_goOnce := goodIn_r _ [17, 1, 18, 19, 20, 21, 22, 23, 24, 25, 26, 27, 28, 29, 30, 31, 32, 33, 34, 35, 36, 37, 38, 39, 9, 40, 41, 42, 43, 16, 44, 45, 46, 47, 48, 49, 50, 51, 52, 53, 54, 55, 56, 57, 58, 59, 60, 61, 62, 63, 64, 65, 66, 67, 68, 69, 70, 71, 72, 73, 74, 75, 76, 77, 78, 79, 80, 81, 82, 83, 84, 85, 86, 87, 88, 89, 90, 91, 92, 93, 94, 95, 96, 97, 98, 99, 100, 101, 102, 103, 104, 105, 106, 107, 108, 109, 110, 111, 112, 113, 114] (by decide +kernel) (by decide +kernel)
set_option maxRecDepth 20000 in
theorem gX3_goOn_X3_goOnce : GoodIn wsX3_goOn (wsV RX3 108 RX3 yX3_goOnce wsX3_goOnce) := goodIn_app (goodIn_of _ (by decide +kernel)) ggX3_goOn_X3_goOnce
theorem dX3_goOn_0 : decode cX3_goOn 0 = .ok (.iload_n 1, 1) := by decide +kernel
theorem dX3_goOn_1 : decode cX3_goOn 1 = .ok (.aload_n 0, 1) := by decide +kernel
theorem dX3_goOn_2 : decode cX3_goOn 2 = .ok (.getfield 34, 3) := by decide +kernel
theorem dX3_goOn_5 : decode cX3_goOn 5 = .ok (.invokevirtual 105, 3) := by decide +kernel
theorem dX3_goOn_8 : decode cX3_goOn 8 = .ok (.invokestatic 90, 3) := by decide +kernel
theorem dX3_goOn_11 : decode cX3_goOn 11 = .ok (.istore_n 2, 1) := by decide +kernel
theorem dX3_goOn_12 : decode cX3_goOn 12 = .ok (.iconst 0, 1) := by decide +kernel
theorem dX3_goOn_13 : decode cX3_goOn 13 = .ok (.istore_n 3, 1) := by decide +kernel
theorem dX3_goOn_14 : decode cX3_goOn 14 = .ok (.iload_n 3, 1) := by decide +kernel
theorem dX3_goOn_15 : decode cX3_goOn 15 = .ok (.iload_n 2, 1) := by decide +kernel
theorem dX3_goOn_16 : decode cX3_goOn 16 = .ok (.if_icmp .ge 13, 3) := by decide +kernel
theorem dX3_goOn_19 : decode cX3_goOn 19 = .ok (.aload_n 0, 1) := by decide +kernel
theorem dX3_goOn_20 : decode cX3_goOn 20 = .ok (.invokevirtual 108, 3) := by decide +kernel
theorem dX3_goOn_23 : decode cX3_goOn 23 = .ok (.iinc 3 1, 3) := by decide +kernel
theorem dX3_goOn_26 : decode cX3_goOn 26 = .ok (.goto (-12), 3) := by decide +kernel
theorem dX3_goOn_29 : decode cX3_goOn 29 = .ok (.return_, 1) := by decide +kernel
set_option maxRecDepth 20000 in
theorem ggX3_goOnce_X2_placeOf : GoodIn wsX3_goOnce wsX2_placeOf := goodIn_r _ [10, 11, 95, 96, 97] (by decide +kernel) (by decide +kernel)
set_option maxRecDepth 20000 in
theorem gX3_goOnce_X2_placeOf : GoodIn wsX3_goOnce (wsV RX3 111 RX2 yX2_placeOf wsX2_placeOf) := goodIn_app (goodIn_of _ (by decide +kernel)) ggX3_goOnce_X2_placeOf
set_option maxRecDepth 20000 in
theorem ggX3_goOnce_X2_kindAt : GoodIn wsX3_goOnce wsX2_kindAt := goodIn_r _ [15, 16, 17, 18, 19, 9, 20, 21, 95, 96, 97] (by decide +kernel) (by decide +kernel)
set_option maxRecDepth 20000 in
theorem gX3_goOnce_X2_kindAt : GoodIn wsX3_goOnce (wsV RX3 114 RX2 yX2_kindAt wsX2_kindAt) := goodIn_app (goodIn_of _ (by decide +kernel)) ggX3_goOnce_X2_kindAt
set_option maxRecDepth 20000 in
theorem ggX3_goOnce_X5_cell : GoodIn wsX3_goOnce wsX5_cell := goodIn_r _ [25] (by decide +kernel) (by decide +kernel)
set_option maxRecDepth 20000 in
theorem gX3_goOnce_X5_cell : GoodIn wsX3_goOnce (va_wsS RX3 117 yX5_cell wsX5_cell) := goodIn_app (goodIn_of _ (by decide +kernel)) ggX3_goOnce_X5_cell
set_option maxRecDepth 20000 in
theorem ggX3_goOnce_X3_fromLeft : GoodIn wsX3_goOnce wsX3_fromLeft := goodIn_r _ [30, 1, 31, 4, 32, 5, 33, 34, 22, 23, 24, 25, 35, 36, 37, 38, 39, 40, 41, 42, 43, 44, 45, 46, 47, 48, 49, 50, 51, 52, 53, 54, 55, 79, 80, 81, 82, 83, 84, 85, 86, 87, 88, 89, 90, 91, 92, 93, 94, 95, 96, 97, 98, 99, 100] (by decide +kernel) (by decide +kernel)
set_option maxRecDepth 20000 in
theorem gX3_goOnce_X3_fromLeft : GoodIn wsX3_goOnce (wsV RX3 120 RX3 yX3_fromLeft wsX3_fromLeft) := goodIn_app (goodIn_of _ (by decide +kernel)) ggX3_goOnce_X3_fromLeft
set_option maxRecDepth 20000 in
theorem ggX3_goOnce_X3_fromAbove : GoodIn wsX3_goOnce wsX3_fromAbove := goodIn_r _ [59, 1, 60, 4, 32, 5, 61, 34, 22, 23, 24, 25, 62, 63, 64, 65, 66, 40, 41, 42, 43, 44, 45, 46, 47, 48, 49, 50, 51, 52, 53, 54, 55, 79, 80, 81, 82, 83, 84, 85, 86, 87, 88, 89, 90, 91, 92, 93, 94, 95, 96, 97, 98, 99, 100] (by decide +kernel) (by decide +kernel)
set_option maxRecDepth 20000 in
theorem gX3_goOnce_X3_fromAbove : GoodIn wsX3_goOnce (wsV RX3 123 RX3 yX3_fromAbove wsX3_fromAbove) := goodIn_app (goodIn_of _ (by decide +kernel)) ggX3_goOnce_X3_fromAbove
set_option maxRecDepth 20000 in
theorem ggX3_goOnce_X5_pass : GoodIn wsX3_goOnce wsX5_pass := goodIn_r _ [70, 40, 71, 72, 39, 66, 41, 42, 24, 43, 73, 74, 75, 76, 77, 78, 84, 85, 86, 87, 88, 89, 90, 91, 92, 93, 94] (by decide +kernel) (by decide +kernel)
set_option maxRecDepth 20000 in
theorem gX3_goOnce_X5_pass : GoodIn wsX3_goOnce (wsV RX3 126 RX5 yX5_pass wsX5_pass) := goodIn_app (goodIn_of _ (by decide +kernel)) ggX3_goOnce_X5_pass
theorem dX3_goOnce_0 : decode cX3_goOnce 0 = .ok (.aload_n 0, 1) := by decide +kernel
theorem dX3_goOnce_1 : decode cX3_goOnce 1 = .ok (.getfield 34, 3) := by decide +kernel
theorem dX3_goOnce_4 : decode cX3_goOnce 4 = .ok (.getfield 96, 3) := by decide +kernel
theorem dX3_goOnce_7 : decode cX3_goOnce 7 = .ok (.iconst 1, 1) := by decide +kernel
theorem dX3_goOnce_8 : decode cX3_goOnce 8 = .ok (.isub, 1) := by decide +kernel
theorem dX3_goOnce_9 : decode cX3_goOnce 9 = .ok (.istore_n 1, 1) := by decide +kernel
theorem dX3_goOnce_10 : decode cX3_goOnce 10 = .ok (.iload_n 1, 1) := by decide +kernel
theorem dX3_goOnce_11 : decode cX3_goOnce 11 = .ok (.ifCond .lt 71, 3) := by decide +kernel
theorem dX3_goOnce_14 : decode cX3_goOnce 14 = .ok (.aload_n 0, 1) := by decide +kernel
theorem dX3_goOnce_15 : decode cX3_goOnce 15 = .ok (.getfield 34, 3) := by decide +kernel
theorem dX3_goOnce_18 : decode cX3_goOnce 18 = .ok (.getfield 99, 3) := by decide +kernel
theorem dX3_goOnce_21 : decode cX3_goOnce 21 = .ok (.iconst 1, 1) := by decide +kernel
theorem dX3_goOnce_22 : decode cX3_goOnce 22 = .ok (.isub, 1) := by decide +kernel
theorem dX3_goOnce_23 : decode cX3_goOnce 23 = .ok (.istore_n 2, 1) := by decide +kernel
theorem dX3_goOnce_24 : decode cX3_goOnce 24 = .ok (.iload_n 2, 1) := by decide +kernel
theorem dX3_goOnce_25 : decode cX3_goOnce 25 = .ok (.ifCond .lt 51, 3) := by decide +kernel
theorem dX3_goOnce_28 : decode cX3_goOnce 28 = .ok (.aload_n 0, 1) := by decide +kernel
theorem dX3_goOnce_29 : decode cX3_goOnce 29 = .ok (.getfield 12, 3) := by decide +kernel
theorem dX3_goOnce_32 : decode cX3_goOnce 32 = .ok (.iload_n 1, 1) := by decide +kernel
theorem dX3_goOnce_33 : decode cX3_goOnce 33 = .ok (.aload_n 0, 1) := by decide +kernel
theorem dX3_goOnce_34 : decode cX3_goOnce 34 = .ok (.getfield 12, 3) := by decide +kernel
theorem dX3_goOnce_37 : decode cX3_goOnce 37 = .ok (.iload_n 2, 1) := by decide +kernel
theorem dX3_goOnce_38 : decode cX3_goOnce 38 = .ok (.invokevirtual 111, 3) := by decide +kernel
theorem dX3_goOnce_41 : decode cX3_goOnce 41 = .ok (.invokevirtual 114, 3) := by decide +kernel
theorem dX3_goOnce_44 : decode cX3_goOnce 44 = .ok (.istore_n 3, 1) := by decide +kernel
theorem dX3_goOnce_45 : decode cX3_goOnce 45 = .ok (.aload_n 0, 1) := by decide +kernel
theorem dX3_goOnce_46 : decode cX3_goOnce 46 = .ok (.getfield 34, 3) := by decide +kernel
theorem dX3_goOnce_49 : decode cX3_goOnce 49 = .ok (.iload_n 1, 1) := by decide +kernel
theorem dX3_goOnce_50 : decode cX3_goOnce 50 = .ok (.iload_n 2, 1) := by decide +kernel
theorem dX3_goOnce_51 : decode cX3_goOnce 51 = .ok (.invokestatic 117, 3) := by decide +kernel
theorem dX3_goOnce_54 : decode cX3_goOnce 54 = .ok (.aload_n 0, 1) := by decide +kernel
theorem dX3_goOnce_55 : decode cX3_goOnce 55 = .ok (.iload_n 1, 1) := by decide +kernel
theorem dX3_goOnce_56 : decode cX3_goOnce 56 = .ok (.iload_n 2, 1) := by decide +kernel
theorem dX3_goOnce_57 : decode cX3_goOnce 57 = .ok (.invokevirtual 120, 3) := by decide +kernel
theorem dX3_goOnce_60 : decode cX3_goOnce 60 = .ok (.aload_n 0, 1) := by decide +kernel
theorem dX3_goOnce_61 : decode cX3_goOnce 61 = .ok (.iload_n 1, 1) := by decide +kernel
theorem dX3_goOnce_62 : decode cX3_goOnce 62 = .ok (.iload_n 2, 1) := by decide +kernel
theorem dX3_goOnce_63 : decode cX3_goOnce 63 = .ok (.invokevirtual 123, 3) := by decide +kernel
theorem dX3_goOnce_66 : decode cX3_goOnce 66 = .ok (.iload_n 3, 1) := by decide +kernel
theorem dX3_goOnce_67 : decode cX3_goOnce 67 = .ok (.invokevirtual 126, 3) := by decide +kernel
theorem dX3_goOnce_70 : decode cX3_goOnce 70 = .ok (.iinc 2 (-1), 3) := by decide +kernel
theorem dX3_goOnce_73 : decode cX3_goOnce 73 = .ok (.goto (-49), 3) := by decide +kernel
theorem dX3_goOnce_76 : decode cX3_goOnce 76 = .ok (.iinc 1 (-1), 3) := by decide +kernel
theorem dX3_goOnce_79 : decode cX3_goOnce 79 = .ok (.goto (-69), 3) := by decide +kernel
theorem dX3_goOnce_82 : decode cX3_goOnce 82 = .ok (.aload_n 0, 1) := by decide +kernel
theorem dX3_goOnce_83 : decode cX3_goOnce 83 = .ok (.getfield 34, 3) := by decide +kernel
theorem dX3_goOnce_86 : decode cX3_goOnce 86 = .ok (.dup, 1) := by decide +kernel
theorem dX3_goOnce_87 : decode cX3_goOnce 87 = .ok (.getfield 130, 3) := by decide +kernel
theorem dX3_goOnce_90 : decode cX3_goOnce 90 = .ok (.iconst 1, 1) := by decide +kernel
theorem dX3_goOnce_91 : decode cX3_goOnce 91 = .ok (.iadd, 1) := by decide +kernel
theorem dX3_goOnce_92 : decode cX3_goOnce 92 = .ok (.putfield 130, 3) := by decide +kernel
theorem dX3_goOnce_95 : decode cX3_goOnce 95 = .ok (.return_, 1) := by decide +kernel
set_option maxRecDepth 20000 in
theorem ggX3_fromLeft_X5_cell : GoodIn wsX3_fromLeft wsX5_cell := goodIn_r _ [11] (by decide +kernel) (by decide +kernel)
set_option maxRecDepth 20000 in
theorem gX3_fromLeft_X5_cell : GoodIn wsX3_fromLeft (va_wsS RX3 117 yX5_cell wsX5_cell) := goodIn_app (goodIn_of _ (by decide +kernel)) ggX3_fromLeft_X5_cell
set_option maxRecDepth 20000 in
theorem ggX3_fromLeft_X5_rightwardOf : GoodIn wsX3_fromLeft wsX5_rightwardOf := goodIn_r _ [15, 16, 17, 18, 19, 10, 20, 38, 39, 40, 41, 42, 43, 44, 45, 46, 47, 48] (by decide +kernel) (by decide +kernel)
set_option maxRecDepth 20000 in
theorem gX3_fromLeft_X5_rightwardOf : GoodIn wsX3_fromLeft (wsV RX3 133 RX5 yX5_rightwardOf wsX5_rightwardOf) := goodIn_app (goodIn_of _ (by decide +kernel)) ggX3_fromLeft_X5_rightwardOf
set_option maxRecDepth 20000 in
theorem ggX3_fromLeft_X1_has : GoodIn wsX3_fromLeft wsX1_has := goodIn_r _ [25, 26, 27, 52, 53, 54] (by decide +kernel) (by decide +kernel)
set_option maxRecDepth 20000 in
theorem gX3_fromLeft_X1_has : GoodIn wsX3_fromLeft (wsV RX3 136 RX1 yX1_has wsX1_has) := goodIn_app (goodIn_of _ (by decide +kernel)) ggX3_fromLeft_X1_has
set_option maxRecDepth 20000 in
theorem ggX3_fromLeft_X1_at : GoodIn wsX3_fromLeft wsX1_at := goodIn_r _ [31, 26, 27, 32, 52, 53, 54] (by decide +kernel) (by decide +kernel)
set_option maxRecDepth 20000 in
theorem gX3_fromLeft_X1_at : GoodIn wsX3_fromLeft (wsV RX3 140 RX1 yX1_at wsX1_at) := goodIn_app (goodIn_of _ (by decide +kernel)) ggX3_fromLeft_X1_at
theorem dX3_fromLeft_0 : decode cX3_fromLeft 0 = .ok (.iload_n 2, 1) := by decide +kernel
theorem dX3_fromLeft_1 : decode cX3_fromLeft 1 = .ok (.ifCond .le 18, 3) := by decide +kernel
theorem dX3_fromLeft_4 : decode cX3_fromLeft 4 = .ok (.aload_n 0, 1) := by decide +kernel
theorem dX3_fromLeft_5 : decode cX3_fromLeft 5 = .ok (.getfield 34, 3) := by decide +kernel
theorem dX3_fromLeft_8 : decode cX3_fromLeft 8 = .ok (.iload_n 1, 1) := by decide +kernel
theorem dX3_fromLeft_9 : decode cX3_fromLeft 9 = .ok (.iload_n 2, 1) := by decide +kernel
theorem dX3_fromLeft_10 : decode cX3_fromLeft 10 = .ok (.iconst 1, 1) := by decide +kernel
theorem dX3_fromLeft_11 : decode cX3_fromLeft 11 = .ok (.isub, 1) := by decide +kernel
theorem dX3_fromLeft_12 : decode cX3_fromLeft 12 = .ok (.invokestatic 117, 3) := by decide +kernel
theorem dX3_fromLeft_15 : decode cX3_fromLeft 15 = .ok (.invokevirtual 133, 3) := by decide +kernel
theorem dX3_fromLeft_18 : decode cX3_fromLeft 18 = .ok (.ireturn, 1) := by decide +kernel
theorem dX3_fromLeft_19 : decode cX3_fromLeft 19 = .ok (.aload_n 0, 1) := by decide +kernel
theorem dX3_fromLeft_20 : decode cX3_fromLeft 20 = .ok (.getfield 34, 3) := by decide +kernel
theorem dX3_fromLeft_23 : decode cX3_fromLeft 23 = .ok (.getfield 84, 3) := by decide +kernel
theorem dX3_fromLeft_26 : decode cX3_fromLeft 26 = .ok (.aload_n 0, 1) := by decide +kernel
theorem dX3_fromLeft_27 : decode cX3_fromLeft 27 = .ok (.getfield 12, 3) := by decide +kernel
theorem dX3_fromLeft_30 : decode cX3_fromLeft 30 = .ok (.getfield 74, 3) := by decide +kernel
theorem dX3_fromLeft_33 : decode cX3_fromLeft 33 = .ok (.imul, 1) := by decide +kernel
theorem dX3_fromLeft_34 : decode cX3_fromLeft 34 = .ok (.iload_n 1, 1) := by decide +kernel
theorem dX3_fromLeft_35 : decode cX3_fromLeft 35 = .ok (.iadd, 1) := by decide +kernel
theorem dX3_fromLeft_36 : decode cX3_fromLeft 36 = .ok (.istore_n 3, 1) := by decide +kernel
theorem dX3_fromLeft_37 : decode cX3_fromLeft 37 = .ok (.aload_n 0, 1) := by decide +kernel
theorem dX3_fromLeft_38 : decode cX3_fromLeft 38 = .ok (.getfield 34, 3) := by decide +kernel
theorem dX3_fromLeft_41 : decode cX3_fromLeft 41 = .ok (.getfield 130, 3) := by decide +kernel
theorem dX3_fromLeft_44 : decode cX3_fromLeft 44 = .ok (.iload_n 1, 1) := by decide +kernel
theorem dX3_fromLeft_45 : decode cX3_fromLeft 45 = .ok (.isub, 1) := by decide +kernel
theorem dX3_fromLeft_46 : decode cX3_fromLeft 46 = .ok (.istore 4, 2) := by decide +kernel
theorem dX3_fromLeft_48 : decode cX3_fromLeft 48 = .ok (.aload_n 0, 1) := by decide +kernel
theorem dX3_fromLeft_49 : decode cX3_fromLeft 49 = .ok (.getfield 21, 3) := by decide +kernel
theorem dX3_fromLeft_52 : decode cX3_fromLeft 52 = .ok (.iload_n 3, 1) := by decide +kernel
theorem dX3_fromLeft_53 : decode cX3_fromLeft 53 = .ok (.iload 4, 2) := by decide +kernel
theorem dX3_fromLeft_55 : decode cX3_fromLeft 55 = .ok (.invokevirtual 136, 3) := by decide +kernel
theorem dX3_fromLeft_58 : decode cX3_fromLeft 58 = .ok (.ifCond .eq 16, 3) := by decide +kernel
theorem dX3_fromLeft_61 : decode cX3_fromLeft 61 = .ok (.aload_n 0, 1) := by decide +kernel
theorem dX3_fromLeft_62 : decode cX3_fromLeft 62 = .ok (.getfield 21, 3) := by decide +kernel
theorem dX3_fromLeft_65 : decode cX3_fromLeft 65 = .ok (.iload_n 3, 1) := by decide +kernel
theorem dX3_fromLeft_66 : decode cX3_fromLeft 66 = .ok (.iload 4, 2) := by decide +kernel
theorem dX3_fromLeft_68 : decode cX3_fromLeft 68 = .ok (.invokevirtual 140, 3) := by decide +kernel
theorem dX3_fromLeft_71 : decode cX3_fromLeft 71 = .ok (.goto 5, 3) := by decide +kernel
theorem dX3_fromLeft_74 : decode cX3_fromLeft 74 = .ok (.ldc 58, 2) := by decide +kernel
theorem dX3_fromLeft_76 : decode cX3_fromLeft 76 = .ok (.ireturn, 1) := by decide +kernel
set_option maxRecDepth 20000 in
theorem ggX3_fromAbove_X5_cell : GoodIn wsX3_fromAbove wsX5_cell := goodIn_r _ [11] (by decide +kernel) (by decide +kernel)
set_option maxRecDepth 20000 in
theorem gX3_fromAbove_X5_cell : GoodIn wsX3_fromAbove (va_wsS RX3 117 yX5_cell wsX5_cell) := goodIn_app (goodIn_of _ (by decide +kernel)) ggX3_fromAbove_X5_cell
set_option maxRecDepth 20000 in
theorem ggX3_fromAbove_X5_downwardOf : GoodIn wsX3_fromAbove wsX5_downwardOf := goodIn_r _ [15, 16, 17, 18, 19, 10, 20, 38, 39, 40, 41, 42, 43, 44, 45, 46, 47, 48] (by decide +kernel) (by decide +kernel)
set_option maxRecDepth 20000 in
theorem gX3_fromAbove_X5_downwardOf : GoodIn wsX3_fromAbove (wsV RX3 143 RX5 yX5_downwardOf wsX5_downwardOf) := goodIn_app (goodIn_of _ (by decide +kernel)) ggX3_fromAbove_X5_downwardOf
set_option maxRecDepth 20000 in
theorem ggX3_fromAbove_X1_has : GoodIn wsX3_fromAbove wsX1_has := goodIn_r _ [25, 26, 27, 52, 53, 54] (by decide +kernel) (by decide +kernel)
set_option maxRecDepth 20000 in
theorem gX3_fromAbove_X1_has : GoodIn wsX3_fromAbove (wsV RX3 136 RX1 yX1_has wsX1_has) := goodIn_app (goodIn_of _ (by decide +kernel)) ggX3_fromAbove_X1_has
set_option maxRecDepth 20000 in
theorem ggX3_fromAbove_X1_at : GoodIn wsX3_fromAbove wsX1_at := goodIn_r _ [31, 26, 27, 32, 52, 53, 54] (by decide +kernel) (by decide +kernel)
set_option maxRecDepth 20000 in
theorem gX3_fromAbove_X1_at : GoodIn wsX3_fromAbove (wsV RX3 140 RX1 yX1_at wsX1_at) := goodIn_app (goodIn_of _ (by decide +kernel)) ggX3_fromAbove_X1_at
theorem dX3_fromAbove_0 : decode cX3_fromAbove 0 = .ok (.iload_n 1, 1) := by decide +kernel
theorem dX3_fromAbove_1 : decode cX3_fromAbove 1 = .ok (.ifCond .le 18, 3) := by decide +kernel
theorem dX3_fromAbove_4 : decode cX3_fromAbove 4 = .ok (.aload_n 0, 1) := by decide +kernel
theorem dX3_fromAbove_5 : decode cX3_fromAbove 5 = .ok (.getfield 34, 3) := by decide +kernel
theorem dX3_fromAbove_8 : decode cX3_fromAbove 8 = .ok (.iload_n 1, 1) := by decide +kernel
theorem dX3_fromAbove_9 : decode cX3_fromAbove 9 = .ok (.iconst 1, 1) := by decide +kernel
theorem dX3_fromAbove_10 : decode cX3_fromAbove 10 = .ok (.isub, 1) := by decide +kernel
theorem dX3_fromAbove_11 : decode cX3_fromAbove 11 = .ok (.iload_n 2, 1) := by decide +kernel
theorem dX3_fromAbove_12 : decode cX3_fromAbove 12 = .ok (.invokestatic 117, 3) := by decide +kernel
theorem dX3_fromAbove_15 : decode cX3_fromAbove 15 = .ok (.invokevirtual 143, 3) := by decide +kernel
theorem dX3_fromAbove_18 : decode cX3_fromAbove 18 = .ok (.ireturn, 1) := by decide +kernel
theorem dX3_fromAbove_19 : decode cX3_fromAbove 19 = .ok (.aload_n 0, 1) := by decide +kernel
theorem dX3_fromAbove_20 : decode cX3_fromAbove 20 = .ok (.getfield 34, 3) := by decide +kernel
theorem dX3_fromAbove_23 : decode cX3_fromAbove 23 = .ok (.getfield 87, 3) := by decide +kernel
theorem dX3_fromAbove_26 : decode cX3_fromAbove 26 = .ok (.aload_n 0, 1) := by decide +kernel
theorem dX3_fromAbove_27 : decode cX3_fromAbove 27 = .ok (.getfield 12, 3) := by decide +kernel
theorem dX3_fromAbove_30 : decode cX3_fromAbove 30 = .ok (.getfield 74, 3) := by decide +kernel
theorem dX3_fromAbove_33 : decode cX3_fromAbove 33 = .ok (.imul, 1) := by decide +kernel
theorem dX3_fromAbove_34 : decode cX3_fromAbove 34 = .ok (.iload_n 2, 1) := by decide +kernel
theorem dX3_fromAbove_35 : decode cX3_fromAbove 35 = .ok (.iadd, 1) := by decide +kernel
theorem dX3_fromAbove_36 : decode cX3_fromAbove 36 = .ok (.istore_n 3, 1) := by decide +kernel
theorem dX3_fromAbove_37 : decode cX3_fromAbove 37 = .ok (.aload_n 0, 1) := by decide +kernel
theorem dX3_fromAbove_38 : decode cX3_fromAbove 38 = .ok (.getfield 34, 3) := by decide +kernel
theorem dX3_fromAbove_41 : decode cX3_fromAbove 41 = .ok (.getfield 130, 3) := by decide +kernel
theorem dX3_fromAbove_44 : decode cX3_fromAbove 44 = .ok (.iload_n 2, 1) := by decide +kernel
theorem dX3_fromAbove_45 : decode cX3_fromAbove 45 = .ok (.isub, 1) := by decide +kernel
theorem dX3_fromAbove_46 : decode cX3_fromAbove 46 = .ok (.istore 4, 2) := by decide +kernel
theorem dX3_fromAbove_48 : decode cX3_fromAbove 48 = .ok (.aload_n 0, 1) := by decide +kernel
theorem dX3_fromAbove_49 : decode cX3_fromAbove 49 = .ok (.getfield 25, 3) := by decide +kernel
theorem dX3_fromAbove_52 : decode cX3_fromAbove 52 = .ok (.iload 4, 2) := by decide +kernel
theorem dX3_fromAbove_54 : decode cX3_fromAbove 54 = .ok (.iload_n 3, 1) := by decide +kernel
theorem dX3_fromAbove_55 : decode cX3_fromAbove 55 = .ok (.invokevirtual 136, 3) := by decide +kernel
theorem dX3_fromAbove_58 : decode cX3_fromAbove 58 = .ok (.ifCond .eq 16, 3) := by decide +kernel
theorem dX3_fromAbove_61 : decode cX3_fromAbove 61 = .ok (.aload_n 0, 1) := by decide +kernel
theorem dX3_fromAbove_62 : decode cX3_fromAbove 62 = .ok (.getfield 25, 3) := by decide +kernel
theorem dX3_fromAbove_65 : decode cX3_fromAbove 65 = .ok (.iload 4, 2) := by decide +kernel
theorem dX3_fromAbove_67 : decode cX3_fromAbove 67 = .ok (.iload_n 3, 1) := by decide +kernel
theorem dX3_fromAbove_68 : decode cX3_fromAbove 68 = .ok (.invokevirtual 140, 3) := by decide +kernel
theorem dX3_fromAbove_71 : decode cX3_fromAbove 71 = .ok (.goto 5, 3) := by decide +kernel
theorem dX3_fromAbove_74 : decode cX3_fromAbove 74 = .ok (.ldc 58, 2) := by decide +kernel
theorem dX3_fromAbove_76 : decode cX3_fromAbove 76 = .ok (.ireturn, 1) := by decide +kernel
set_option maxRecDepth 20000 in
theorem ggX3_drainTile_X5_cell : GoodIn wsX3_drainTile wsX5_cell := goodIn_r _ [13] (by decide +kernel) (by decide +kernel)
set_option maxRecDepth 20000 in
theorem gX3_drainTile_X5_cell : GoodIn wsX3_drainTile (va_wsS RX3 117 yX5_cell wsX5_cell) := goodIn_app (goodIn_of _ (by decide +kernel)) ggX3_drainTile_X5_cell
set_option maxRecDepth 20000 in
theorem ggX3_drainTile_X5_sumOf : GoodIn wsX3_drainTile wsX5_sumOf := goodIn_r _ [17, 18, 19, 20, 12, 21, 39, 40, 41, 42, 43, 44, 45, 46, 47, 48, 49] (by decide +kernel) (by decide +kernel)
set_option maxRecDepth 20000 in
theorem gX3_drainTile_X5_sumOf : GoodIn wsX3_drainTile (wsV RX3 146 RX5 yX5_sumOf wsX5_sumOf) := goodIn_app (goodIn_of _ (by decide +kernel)) ggX3_drainTile_X5_sumOf
set_option maxRecDepth 20000 in
theorem ggX3_drainTile_X1_put : GoodIn wsX3_drainTile wsX1_put := goodIn_r _ [26, 27, 28, 29, 30, 25, 31, 32, 33, 53, 54, 55] (by decide +kernel) (by decide +kernel)
set_option maxRecDepth 20000 in
theorem gX3_drainTile_X1_put : GoodIn wsX3_drainTile (wsV RX3 149 RX1 yX1_put wsX1_put) := goodIn_app (goodIn_of _ (by decide +kernel)) ggX3_drainTile_X1_put
theorem dX3_drainTile_0 : decode cX3_drainTile 0 = .ok (.aload_n 0, 1) := by decide +kernel
theorem dX3_drainTile_1 : decode cX3_drainTile 1 = .ok (.getfield 34, 3) := by decide +kernel
theorem dX3_drainTile_4 : decode cX3_drainTile 4 = .ok (.getfield 84, 3) := by decide +kernel
theorem dX3_drainTile_7 : decode cX3_drainTile 7 = .ok (.aload_n 0, 1) := by decide +kernel
theorem dX3_drainTile_8 : decode cX3_drainTile 8 = .ok (.getfield 12, 3) := by decide +kernel
theorem dX3_drainTile_11 : decode cX3_drainTile 11 = .ok (.getfield 74, 3) := by decide +kernel
theorem dX3_drainTile_14 : decode cX3_drainTile 14 = .ok (.imul, 1) := by decide +kernel
theorem dX3_drainTile_15 : decode cX3_drainTile 15 = .ok (.istore_n 1, 1) := by decide +kernel
theorem dX3_drainTile_16 : decode cX3_drainTile 16 = .ok (.aload_n 0, 1) := by decide +kernel
theorem dX3_drainTile_17 : decode cX3_drainTile 17 = .ok (.getfield 34, 3) := by decide +kernel
theorem dX3_drainTile_20 : decode cX3_drainTile 20 = .ok (.getfield 87, 3) := by decide +kernel
theorem dX3_drainTile_23 : decode cX3_drainTile 23 = .ok (.aload_n 0, 1) := by decide +kernel
theorem dX3_drainTile_24 : decode cX3_drainTile 24 = .ok (.getfield 12, 3) := by decide +kernel
theorem dX3_drainTile_27 : decode cX3_drainTile 27 = .ok (.getfield 74, 3) := by decide +kernel
theorem dX3_drainTile_30 : decode cX3_drainTile 30 = .ok (.imul, 1) := by decide +kernel
theorem dX3_drainTile_31 : decode cX3_drainTile 31 = .ok (.istore_n 2, 1) := by decide +kernel
theorem dX3_drainTile_32 : decode cX3_drainTile 32 = .ok (.iconst 0, 1) := by decide +kernel
theorem dX3_drainTile_33 : decode cX3_drainTile 33 = .ok (.istore_n 3, 1) := by decide +kernel
theorem dX3_drainTile_34 : decode cX3_drainTile 34 = .ok (.iload_n 3, 1) := by decide +kernel
theorem dX3_drainTile_35 : decode cX3_drainTile 35 = .ok (.aload_n 0, 1) := by decide +kernel
theorem dX3_drainTile_36 : decode cX3_drainTile 36 = .ok (.getfield 34, 3) := by decide +kernel
theorem dX3_drainTile_39 : decode cX3_drainTile 39 = .ok (.getfield 96, 3) := by decide +kernel
theorem dX3_drainTile_42 : decode cX3_drainTile 42 = .ok (.if_icmp .ge 57, 3) := by decide +kernel
theorem dX3_drainTile_45 : decode cX3_drainTile 45 = .ok (.iconst 0, 1) := by decide +kernel
theorem dX3_drainTile_46 : decode cX3_drainTile 46 = .ok (.istore 4, 2) := by decide +kernel
theorem dX3_drainTile_48 : decode cX3_drainTile 48 = .ok (.iload 4, 2) := by decide +kernel
theorem dX3_drainTile_50 : decode cX3_drainTile 50 = .ok (.aload_n 0, 1) := by decide +kernel
theorem dX3_drainTile_51 : decode cX3_drainTile 51 = .ok (.getfield 34, 3) := by decide +kernel
theorem dX3_drainTile_54 : decode cX3_drainTile 54 = .ok (.getfield 99, 3) := by decide +kernel
theorem dX3_drainTile_57 : decode cX3_drainTile 57 = .ok (.if_icmp .ge 36, 3) := by decide +kernel
theorem dX3_drainTile_60 : decode cX3_drainTile 60 = .ok (.aload_n 0, 1) := by decide +kernel
theorem dX3_drainTile_61 : decode cX3_drainTile 61 = .ok (.getfield 28, 3) := by decide +kernel
theorem dX3_drainTile_64 : decode cX3_drainTile 64 = .ok (.iload_n 1, 1) := by decide +kernel
theorem dX3_drainTile_65 : decode cX3_drainTile 65 = .ok (.iload_n 3, 1) := by decide +kernel
theorem dX3_drainTile_66 : decode cX3_drainTile 66 = .ok (.iadd, 1) := by decide +kernel
theorem dX3_drainTile_67 : decode cX3_drainTile 67 = .ok (.iload_n 2, 1) := by decide +kernel
theorem dX3_drainTile_68 : decode cX3_drainTile 68 = .ok (.iload 4, 2) := by decide +kernel
theorem dX3_drainTile_70 : decode cX3_drainTile 70 = .ok (.iadd, 1) := by decide +kernel
theorem dX3_drainTile_71 : decode cX3_drainTile 71 = .ok (.aload_n 0, 1) := by decide +kernel
theorem dX3_drainTile_72 : decode cX3_drainTile 72 = .ok (.getfield 34, 3) := by decide +kernel
theorem dX3_drainTile_75 : decode cX3_drainTile 75 = .ok (.iload_n 3, 1) := by decide +kernel
theorem dX3_drainTile_76 : decode cX3_drainTile 76 = .ok (.iload 4, 2) := by decide +kernel
theorem dX3_drainTile_78 : decode cX3_drainTile 78 = .ok (.invokestatic 117, 3) := by decide +kernel
theorem dX3_drainTile_81 : decode cX3_drainTile 81 = .ok (.invokevirtual 146, 3) := by decide +kernel
theorem dX3_drainTile_84 : decode cX3_drainTile 84 = .ok (.invokevirtual 149, 3) := by decide +kernel
theorem dX3_drainTile_87 : decode cX3_drainTile 87 = .ok (.iinc 4 1, 3) := by decide +kernel
theorem dX3_drainTile_90 : decode cX3_drainTile 90 = .ok (.goto (-42), 3) := by decide +kernel
theorem dX3_drainTile_93 : decode cX3_drainTile 93 = .ok (.iinc 3 1, 3) := by decide +kernel
theorem dX3_drainTile_96 : decode cX3_drainTile 96 = .ok (.goto (-62), 3) := by decide +kernel
theorem dX3_drainTile_99 : decode cX3_drainTile 99 = .ok (.aload_n 0, 1) := by decide +kernel
theorem dX3_drainTile_100 : decode cX3_drainTile 100 = .ok (.getfield 34, 3) := by decide +kernel
theorem dX3_drainTile_103 : decode cX3_drainTile 103 = .ok (.iconst 0, 1) := by decide +kernel
theorem dX3_drainTile_104 : decode cX3_drainTile 104 = .ok (.putfield 80, 3) := by decide +kernel
theorem dX3_drainTile_107 : decode cX3_drainTile 107 = .ok (.return_, 1) := by decide +kernel
set_option maxRecDepth 20000 in
theorem ggX3_doAllTiles_X3_tilesDown : GoodIn wsX3_doAllTiles wsX3_tilesDown := goodIn_r _ [6, 7, 8, 9, 10, 11, 5, 12, 13, 14, 139, 140, 141, 142, 143, 144, 145, 146, 147, 148, 149] (by decide +kernel) (by decide +kernel)
set_option maxRecDepth 20000 in
theorem gX3_doAllTiles_X3_tilesDown : GoodIn wsX3_doAllTiles (wsV RX3 67 RX3 yX3_tilesDown wsX3_tilesDown) := goodIn_app (goodIn_of _ (by decide +kernel)) ggX3_doAllTiles_X3_tilesDown
set_option maxRecDepth 20000 in
theorem ggX3_doAllTiles_X3_tilesAcross : GoodIn wsX3_doAllTiles wsX3_tilesAcross := goodIn_r _ [18, 19, 20, 9, 10, 11, 5, 12, 13, 14, 139, 140, 141, 142, 143, 144, 145, 146, 147, 148, 149] (by decide +kernel) (by decide +kernel)
set_option maxRecDepth 20000 in
theorem gX3_doAllTiles_X3_tilesAcross : GoodIn wsX3_doAllTiles (wsV RX3 71 RX3 yX3_tilesAcross wsX3_tilesAcross) := goodIn_app (goodIn_of _ (by decide +kernel)) ggX3_doAllTiles_X3_tilesAcross
set_option maxRecDepth 20000 in
theorem ggX3_doAllTiles_X3_beginTile : GoodIn wsX3_doAllTiles wsX3_beginTile := goodIn_r _ [24, 1, 25, 26, 27, 13, 14, 7, 8, 28, 29, 30, 31, 32, 19, 20, 33, 34, 35, 36, 37, 38, 39, 40, 41, 42, 43, 44, 45, 46, 47, 48, 49, 139, 140, 141, 142, 143, 150, 151, 152, 153, 154, 155, 156, 157, 158, 159, 160, 147, 148, 149, 144, 145, 146] (by decide +kernel) (by decide +kernel)
set_option maxRecDepth 20000 in
theorem gX3_doAllTiles_X3_beginTile : GoodIn wsX3_doAllTiles (wsV RX3 152 RX3 yX3_beginTile wsX3_beginTile) := goodIn_app (goodIn_of _ (by decide +kernel)) ggX3_doAllTiles_X3_beginTile
set_option maxRecDepth 20000 in
theorem ggX3_doAllTiles_X5_ticksLeft : GoodIn wsX3_doAllTiles wsX5_ticksLeft := goodIn_r _ [53, 54, 45, 150, 151, 152, 153, 154, 155, 156, 157, 158, 159, 160] (by decide +kernel) (by decide +kernel)
set_option maxRecDepth 20000 in
theorem gX3_doAllTiles_X5_ticksLeft : GoodIn wsX3_doAllTiles (wsV RX3 105 RX5 yX5_ticksLeft wsX5_ticksLeft) := goodIn_app (goodIn_of _ (by decide +kernel)) ggX3_doAllTiles_X5_ticksLeft
set_option maxRecDepth 20000 in
theorem ggX3_doAllTiles_X3_goOn : GoodIn wsX3_doAllTiles wsX3_goOn := goodIn_r _ [58, 1, 28, 29, 30, 31, 50, 51, 52, 38, 53, 54, 45, 59, 60, 61, 5, 62, 32, 33, 13, 63, 64, 65, 66, 67, 68, 69, 70, 71, 72, 73, 74, 75, 76, 77, 78, 79, 80, 81, 82, 83, 84, 85, 86, 26, 14, 7, 87, 88, 89, 90, 91, 42, 43, 92, 93, 94, 95, 96, 97, 98, 99, 100, 101, 102, 103, 104, 105, 106, 107, 108, 109, 110, 27, 19, 111, 112, 113, 114, 44, 115, 116, 117, 118, 41, 40, 119, 120, 121, 122, 123, 124, 139, 140, 141, 142, 143, 150, 151, 152, 153, 154, 155, 156, 157, 158, 159, 160, 147, 148, 149, 144, 145, 146] (by decide +kernel) (by decide +kernel)
set_option maxRecDepth 20000 in
theorem gX3_doAllTiles_X3_goOn : GoodIn wsX3_doAllTiles (wsV RX3 156 RX3 yX3_goOn wsX3_goOn) := goodIn_app (goodIn_of _ (by decide +kernel)) ggX3_doAllTiles_X3_goOn
set_option maxRecDepth 20000 in
theorem ggX3_doAllTiles_X3_drainTile : GoodIn wsX3_doAllTiles wsX3_drainTile := goodIn_r _ [128, 1, 26, 13, 14, 27, 32, 33, 129, 25, 80, 81, 38, 82, 130, 131, 132, 133, 40, 92, 93, 94, 134, 135, 136, 98, 137, 106, 138, 96, 97, 99, 100, 101, 139, 140, 141, 142, 143, 150, 151, 152, 153, 154, 155, 156, 157, 158, 159, 160, 147, 148, 149, 144, 145, 146] (by decide +kernel) (by decide +kernel)
set_option maxRecDepth 20000 in
theorem gX3_doAllTiles_X3_drainTile : GoodIn wsX3_doAllTiles (wsV RX3 160 RX3 yX3_drainTile wsX3_drainTile) := goodIn_app (goodIn_of _ (by decide +kernel)) ggX3_doAllTiles_X3_drainTile
theorem dX3_doAllTiles_0 : decode cX3_doAllTiles 0 = .ok (.iconst 0, 1) := by decide +kernel
theorem dX3_doAllTiles_1 : decode cX3_doAllTiles 1 = .ok (.istore_n 1, 1) := by decide +kernel
theorem dX3_doAllTiles_2 : decode cX3_doAllTiles 2 = .ok (.aload_n 0, 1) := by decide +kernel
theorem dX3_doAllTiles_3 : decode cX3_doAllTiles 3 = .ok (.invokevirtual 67, 3) := by decide +kernel
theorem dX3_doAllTiles_6 : decode cX3_doAllTiles 6 = .ok (.istore_n 2, 1) := by decide +kernel
theorem dX3_doAllTiles_7 : decode cX3_doAllTiles 7 = .ok (.aload_n 0, 1) := by decide +kernel
theorem dX3_doAllTiles_8 : decode cX3_doAllTiles 8 = .ok (.invokevirtual 71, 3) := by decide +kernel
theorem dX3_doAllTiles_11 : decode cX3_doAllTiles 11 = .ok (.istore_n 3, 1) := by decide +kernel
theorem dX3_doAllTiles_12 : decode cX3_doAllTiles 12 = .ok (.iconst 0, 1) := by decide +kernel
theorem dX3_doAllTiles_13 : decode cX3_doAllTiles 13 = .ok (.istore 4, 2) := by decide +kernel
theorem dX3_doAllTiles_15 : decode cX3_doAllTiles 15 = .ok (.iload 4, 2) := by decide +kernel
theorem dX3_doAllTiles_17 : decode cX3_doAllTiles 17 = .ok (.iload_n 2, 1) := by decide +kernel
theorem dX3_doAllTiles_18 : decode cX3_doAllTiles 18 = .ok (.if_icmp .ge 57, 3) := by decide +kernel
theorem dX3_doAllTiles_21 : decode cX3_doAllTiles 21 = .ok (.iconst 0, 1) := by decide +kernel
theorem dX3_doAllTiles_22 : decode cX3_doAllTiles 22 = .ok (.istore 5, 2) := by decide +kernel
theorem dX3_doAllTiles_24 : decode cX3_doAllTiles 24 = .ok (.iload 5, 2) := by decide +kernel
theorem dX3_doAllTiles_26 : decode cX3_doAllTiles 26 = .ok (.iload_n 3, 1) := by decide +kernel
theorem dX3_doAllTiles_27 : decode cX3_doAllTiles 27 = .ok (.if_icmp .ge 42, 3) := by decide +kernel
theorem dX3_doAllTiles_30 : decode cX3_doAllTiles 30 = .ok (.aload_n 0, 1) := by decide +kernel
theorem dX3_doAllTiles_31 : decode cX3_doAllTiles 31 = .ok (.iload 4, 2) := by decide +kernel
theorem dX3_doAllTiles_33 : decode cX3_doAllTiles 33 = .ok (.iload 5, 2) := by decide +kernel
theorem dX3_doAllTiles_35 : decode cX3_doAllTiles 35 = .ok (.invokevirtual 152, 3) := by decide +kernel
theorem dX3_doAllTiles_38 : decode cX3_doAllTiles 38 = .ok (.iload_n 1, 1) := by decide +kernel
theorem dX3_doAllTiles_39 : decode cX3_doAllTiles 39 = .ok (.aload_n 0, 1) := by decide +kernel
theorem dX3_doAllTiles_40 : decode cX3_doAllTiles 40 = .ok (.getfield 34, 3) := by decide +kernel
theorem dX3_doAllTiles_43 : decode cX3_doAllTiles 43 = .ok (.invokevirtual 105, 3) := by decide +kernel
theorem dX3_doAllTiles_46 : decode cX3_doAllTiles 46 = .ok (.iadd, 1) := by decide +kernel
theorem dX3_doAllTiles_47 : decode cX3_doAllTiles 47 = .ok (.istore_n 1, 1) := by decide +kernel
theorem dX3_doAllTiles_48 : decode cX3_doAllTiles 48 = .ok (.aload_n 0, 1) := by decide +kernel
theorem dX3_doAllTiles_49 : decode cX3_doAllTiles 49 = .ok (.aload_n 0, 1) := by decide +kernel
theorem dX3_doAllTiles_50 : decode cX3_doAllTiles 50 = .ok (.getfield 34, 3) := by decide +kernel
theorem dX3_doAllTiles_53 : decode cX3_doAllTiles 53 = .ok (.invokevirtual 105, 3) := by decide +kernel
theorem dX3_doAllTiles_56 : decode cX3_doAllTiles 56 = .ok (.invokevirtual 156, 3) := by decide +kernel
theorem dX3_doAllTiles_59 : decode cX3_doAllTiles 59 = .ok (.aload_n 0, 1) := by decide +kernel
theorem dX3_doAllTiles_60 : decode cX3_doAllTiles 60 = .ok (.invokevirtual 160, 3) := by decide +kernel
theorem dX3_doAllTiles_63 : decode cX3_doAllTiles 63 = .ok (.iinc 5 1, 3) := by decide +kernel
theorem dX3_doAllTiles_66 : decode cX3_doAllTiles 66 = .ok (.goto (-42), 3) := by decide +kernel
theorem dX3_doAllTiles_69 : decode cX3_doAllTiles 69 = .ok (.iinc 4 1, 3) := by decide +kernel
theorem dX3_doAllTiles_72 : decode cX3_doAllTiles 72 = .ok (.goto (-57), 3) := by decide +kernel
theorem dX3_doAllTiles_75 : decode cX3_doAllTiles 75 = .ok (.iload_n 1, 1) := by decide +kernel
theorem dX3_doAllTiles_76 : decode cX3_doAllTiles 76 = .ok (.ireturn, 1) := by decide +kernel
set_option maxRecDepth 20000 in
theorem ggX3_dueAt_X1_at : GoodIn wsX3_dueAt wsX1_at := goodIn_r _ [8, 9, 10, 11, 17, 18, 19] (by decide +kernel) (by decide +kernel)
set_option maxRecDepth 20000 in
theorem gX3_dueAt_X1_at : GoodIn wsX3_dueAt (wsV RX3 140 RX1 yX1_at wsX1_at) := goodIn_app (goodIn_of _ (by decide +kernel)) ggX3_dueAt_X1_at
theorem dX3_dueAt_0 : decode cX3_dueAt 0 = .ok (.iconst 0, 1) := by decide +kernel
theorem dX3_dueAt_1 : decode cX3_dueAt 1 = .ok (.istore_n 3, 1) := by decide +kernel
theorem dX3_dueAt_2 : decode cX3_dueAt 2 = .ok (.iconst 0, 1) := by decide +kernel
theorem dX3_dueAt_3 : decode cX3_dueAt 3 = .ok (.istore 4, 2) := by decide +kernel
theorem dX3_dueAt_5 : decode cX3_dueAt 5 = .ok (.iload 4, 2) := by decide +kernel
theorem dX3_dueAt_7 : decode cX3_dueAt 7 = .ok (.aload_n 0, 1) := by decide +kernel
theorem dX3_dueAt_8 : decode cX3_dueAt 8 = .ok (.getfield 21, 3) := by decide +kernel
theorem dX3_dueAt_11 : decode cX3_dueAt 11 = .ok (.getfield 55, 3) := by decide +kernel
theorem dX3_dueAt_14 : decode cX3_dueAt 14 = .ok (.if_icmp .ge 33, 3) := by decide +kernel
theorem dX3_dueAt_17 : decode cX3_dueAt 17 = .ok (.iload_n 3, 1) := by decide +kernel
theorem dX3_dueAt_18 : decode cX3_dueAt 18 = .ok (.aload_n 0, 1) := by decide +kernel
theorem dX3_dueAt_19 : decode cX3_dueAt 19 = .ok (.getfield 21, 3) := by decide +kernel
theorem dX3_dueAt_22 : decode cX3_dueAt 22 = .ok (.iload_n 1, 1) := by decide +kernel
theorem dX3_dueAt_23 : decode cX3_dueAt 23 = .ok (.iload 4, 2) := by decide +kernel
theorem dX3_dueAt_25 : decode cX3_dueAt 25 = .ok (.invokevirtual 140, 3) := by decide +kernel
theorem dX3_dueAt_28 : decode cX3_dueAt 28 = .ok (.aload_n 0, 1) := by decide +kernel
theorem dX3_dueAt_29 : decode cX3_dueAt 29 = .ok (.getfield 25, 3) := by decide +kernel
theorem dX3_dueAt_32 : decode cX3_dueAt 32 = .ok (.iload 4, 2) := by decide +kernel
theorem dX3_dueAt_34 : decode cX3_dueAt 34 = .ok (.iload_n 2, 1) := by decide +kernel
theorem dX3_dueAt_35 : decode cX3_dueAt 35 = .ok (.invokevirtual 140, 3) := by decide +kernel
theorem dX3_dueAt_38 : decode cX3_dueAt 38 = .ok (.imul, 1) := by decide +kernel
theorem dX3_dueAt_39 : decode cX3_dueAt 39 = .ok (.iadd, 1) := by decide +kernel
theorem dX3_dueAt_40 : decode cX3_dueAt 40 = .ok (.istore_n 3, 1) := by decide +kernel
theorem dX3_dueAt_41 : decode cX3_dueAt 41 = .ok (.iinc 4 1, 3) := by decide +kernel
theorem dX3_dueAt_44 : decode cX3_dueAt 44 = .ok (.goto (-39), 3) := by decide +kernel
theorem dX3_dueAt_47 : decode cX3_dueAt 47 = .ok (.iload_n 3, 1) := by decide +kernel
theorem dX3_dueAt_48 : decode cX3_dueAt 48 = .ok (.ireturn, 1) := by decide +kernel
set_option maxRecDepth 20000 in
theorem ggX3_knownEntries_X1_at : GoodIn wsX3_knownEntries wsX1_at := goodIn_r _ [9, 10, 11, 12, 18, 19, 20] (by decide +kernel) (by decide +kernel)
set_option maxRecDepth 20000 in
theorem gX3_knownEntries_X1_at : GoodIn wsX3_knownEntries (wsV RX3 140 RX1 yX1_at wsX1_at) := goodIn_app (goodIn_of _ (by decide +kernel)) ggX3_knownEntries_X1_at
theorem dX3_knownEntries_0 : decode cX3_knownEntries 0 = .ok (.iconst 0, 1) := by decide +kernel
theorem dX3_knownEntries_1 : decode cX3_knownEntries 1 = .ok (.istore_n 1, 1) := by decide +kernel
theorem dX3_knownEntries_2 : decode cX3_knownEntries 2 = .ok (.iconst 0, 1) := by decide +kernel
theorem dX3_knownEntries_3 : decode cX3_knownEntries 3 = .ok (.istore_n 2, 1) := by decide +kernel
theorem dX3_knownEntries_4 : decode cX3_knownEntries 4 = .ok (.iload_n 2, 1) := by decide +kernel
theorem dX3_knownEntries_5 : decode cX3_knownEntries 5 = .ok (.aload_n 0, 1) := by decide +kernel
theorem dX3_knownEntries_6 : decode cX3_knownEntries 6 = .ok (.getfield 28, 3) := by decide +kernel
theorem dX3_knownEntries_9 : decode cX3_knownEntries 9 = .ok (.getfield 51, 3) := by decide +kernel
theorem dX3_knownEntries_12 : decode cX3_knownEntries 12 = .ok (.if_icmp .ge 45, 3) := by decide +kernel
theorem dX3_knownEntries_15 : decode cX3_knownEntries 15 = .ok (.iconst 0, 1) := by decide +kernel
theorem dX3_knownEntries_16 : decode cX3_knownEntries 16 = .ok (.istore_n 3, 1) := by decide +kernel
theorem dX3_knownEntries_17 : decode cX3_knownEntries 17 = .ok (.iload_n 3, 1) := by decide +kernel
theorem dX3_knownEntries_18 : decode cX3_knownEntries 18 = .ok (.aload_n 0, 1) := by decide +kernel
theorem dX3_knownEntries_19 : decode cX3_knownEntries 19 = .ok (.getfield 28, 3) := by decide +kernel
theorem dX3_knownEntries_22 : decode cX3_knownEntries 22 = .ok (.getfield 55, 3) := by decide +kernel
theorem dX3_knownEntries_25 : decode cX3_knownEntries 25 = .ok (.if_icmp .ge 26, 3) := by decide +kernel
theorem dX3_knownEntries_28 : decode cX3_knownEntries 28 = .ok (.aload_n 0, 1) := by decide +kernel
theorem dX3_knownEntries_29 : decode cX3_knownEntries 29 = .ok (.getfield 28, 3) := by decide +kernel
theorem dX3_knownEntries_32 : decode cX3_knownEntries 32 = .ok (.iload_n 2, 1) := by decide +kernel
theorem dX3_knownEntries_33 : decode cX3_knownEntries 33 = .ok (.iload_n 3, 1) := by decide +kernel
theorem dX3_knownEntries_34 : decode cX3_knownEntries 34 = .ok (.invokevirtual 140, 3) := by decide +kernel
theorem dX3_knownEntries_37 : decode cX3_knownEntries 37 = .ok (.ldc 58, 2) := by decide +kernel
theorem dX3_knownEntries_39 : decode cX3_knownEntries 39 = .ok (.if_icmp .eq 6, 3) := by decide +kernel
theorem dX3_knownEntries_42 : decode cX3_knownEntries 42 = .ok (.iinc 1 1, 3) := by decide +kernel
theorem dX3_knownEntries_45 : decode cX3_knownEntries 45 = .ok (.iinc 3 1, 3) := by decide +kernel
theorem dX3_knownEntries_48 : decode cX3_knownEntries 48 = .ok (.goto (-31), 3) := by decide +kernel
theorem dX3_knownEntries_51 : decode cX3_knownEntries 51 = .ok (.iinc 2 1, 3) := by decide +kernel
theorem dX3_knownEntries_54 : decode cX3_knownEntries 54 = .ok (.goto (-50), 3) := by decide +kernel
theorem dX3_knownEntries_57 : decode cX3_knownEntries 57 = .ok (.iload_n 1, 1) := by decide +kernel
theorem dX3_knownEntries_58 : decode cX3_knownEntries 58 = .ok (.ireturn, 1) := by decide +kernel
set_option maxRecDepth 20000 in
theorem ggX3_wrongEntries_X1_at : GoodIn wsX3_wrongEntries wsX1_at := goodIn_r _ [9, 10, 11, 12, 25, 26, 27] (by decide +kernel) (by decide +kernel)
set_option maxRecDepth 20000 in
theorem gX3_wrongEntries_X1_at : GoodIn wsX3_wrongEntries (wsV RX3 140 RX1 yX1_at wsX1_at) := goodIn_app (goodIn_of _ (by decide +kernel)) ggX3_wrongEntries_X1_at
set_option maxRecDepth 20000 in
theorem ggX3_wrongEntries_X3_dueAt : GoodIn wsX3_wrongEntries wsX3_dueAt := goodIn_r _ [17, 18, 3, 19, 5, 6, 7, 8, 9, 10, 11, 12, 20, 21, 22, 23, 24, 25, 26, 27] (by decide +kernel) (by decide +kernel)
set_option maxRecDepth 20000 in
theorem gX3_wrongEntries_X3_dueAt : GoodIn wsX3_wrongEntries (wsV RX3 163 RX3 yX3_dueAt wsX3_dueAt) := goodIn_app (goodIn_of _ (by decide +kernel)) ggX3_wrongEntries_X3_dueAt
theorem dX3_wrongEntries_0 : decode cX3_wrongEntries 0 = .ok (.iconst 0, 1) := by decide +kernel
theorem dX3_wrongEntries_1 : decode cX3_wrongEntries 1 = .ok (.istore_n 1, 1) := by decide +kernel
theorem dX3_wrongEntries_2 : decode cX3_wrongEntries 2 = .ok (.iconst 0, 1) := by decide +kernel
theorem dX3_wrongEntries_3 : decode cX3_wrongEntries 3 = .ok (.istore_n 2, 1) := by decide +kernel
theorem dX3_wrongEntries_4 : decode cX3_wrongEntries 4 = .ok (.iload_n 2, 1) := by decide +kernel
theorem dX3_wrongEntries_5 : decode cX3_wrongEntries 5 = .ok (.aload_n 0, 1) := by decide +kernel
theorem dX3_wrongEntries_6 : decode cX3_wrongEntries 6 = .ok (.getfield 28, 3) := by decide +kernel
theorem dX3_wrongEntries_9 : decode cX3_wrongEntries 9 = .ok (.getfield 51, 3) := by decide +kernel
theorem dX3_wrongEntries_12 : decode cX3_wrongEntries 12 = .ok (.if_icmp .ge 60, 3) := by decide +kernel
theorem dX3_wrongEntries_15 : decode cX3_wrongEntries 15 = .ok (.iconst 0, 1) := by decide +kernel
theorem dX3_wrongEntries_16 : decode cX3_wrongEntries 16 = .ok (.istore_n 3, 1) := by decide +kernel
theorem dX3_wrongEntries_17 : decode cX3_wrongEntries 17 = .ok (.iload_n 3, 1) := by decide +kernel
theorem dX3_wrongEntries_18 : decode cX3_wrongEntries 18 = .ok (.aload_n 0, 1) := by decide +kernel
theorem dX3_wrongEntries_19 : decode cX3_wrongEntries 19 = .ok (.getfield 28, 3) := by decide +kernel
theorem dX3_wrongEntries_22 : decode cX3_wrongEntries 22 = .ok (.getfield 55, 3) := by decide +kernel
theorem dX3_wrongEntries_25 : decode cX3_wrongEntries 25 = .ok (.if_icmp .ge 41, 3) := by decide +kernel
theorem dX3_wrongEntries_28 : decode cX3_wrongEntries 28 = .ok (.aload_n 0, 1) := by decide +kernel
theorem dX3_wrongEntries_29 : decode cX3_wrongEntries 29 = .ok (.getfield 28, 3) := by decide +kernel
theorem dX3_wrongEntries_32 : decode cX3_wrongEntries 32 = .ok (.iload_n 2, 1) := by decide +kernel
theorem dX3_wrongEntries_33 : decode cX3_wrongEntries 33 = .ok (.iload_n 3, 1) := by decide +kernel
theorem dX3_wrongEntries_34 : decode cX3_wrongEntries 34 = .ok (.invokevirtual 140, 3) := by decide +kernel
theorem dX3_wrongEntries_37 : decode cX3_wrongEntries 37 = .ok (.istore 4, 2) := by decide +kernel
theorem dX3_wrongEntries_39 : decode cX3_wrongEntries 39 = .ok (.iload 4, 2) := by decide +kernel
theorem dX3_wrongEntries_41 : decode cX3_wrongEntries 41 = .ok (.ldc 58, 2) := by decide +kernel
theorem dX3_wrongEntries_43 : decode cX3_wrongEntries 43 = .ok (.if_icmp .eq 17, 3) := by decide +kernel
theorem dX3_wrongEntries_46 : decode cX3_wrongEntries 46 = .ok (.iload 4, 2) := by decide +kernel
theorem dX3_wrongEntries_48 : decode cX3_wrongEntries 48 = .ok (.aload_n 0, 1) := by decide +kernel
theorem dX3_wrongEntries_49 : decode cX3_wrongEntries 49 = .ok (.iload_n 2, 1) := by decide +kernel
theorem dX3_wrongEntries_50 : decode cX3_wrongEntries 50 = .ok (.iload_n 3, 1) := by decide +kernel
theorem dX3_wrongEntries_51 : decode cX3_wrongEntries 51 = .ok (.invokevirtual 163, 3) := by decide +kernel
theorem dX3_wrongEntries_54 : decode cX3_wrongEntries 54 = .ok (.if_icmp .eq 6, 3) := by decide +kernel
theorem dX3_wrongEntries_57 : decode cX3_wrongEntries 57 = .ok (.iinc 1 1, 3) := by decide +kernel
theorem dX3_wrongEntries_60 : decode cX3_wrongEntries 60 = .ok (.iinc 3 1, 3) := by decide +kernel
theorem dX3_wrongEntries_63 : decode cX3_wrongEntries 63 = .ok (.goto (-46), 3) := by decide +kernel
theorem dX3_wrongEntries_66 : decode cX3_wrongEntries 66 = .ok (.iinc 2 1, 3) := by decide +kernel
theorem dX3_wrongEntries_69 : decode cX3_wrongEntries 69 = .ok (.goto (-65), 3) := by decide +kernel
theorem dX3_wrongEntries_72 : decode cX3_wrongEntries 72 = .ok (.iload_n 1, 1) := by decide +kernel
theorem dX3_wrongEntries_73 : decode cX3_wrongEntries 73 = .ok (.ireturn, 1) := by decide +kernel
set_option maxRecDepth 20000 in
theorem ggX4_init_X1_init : GoodIn wsX4_init wsX1_init := goodIn_r _ [11, 12, 2, 3, 13, 14, 15, 16, 28, 29, 30] (by decide +kernel) (by decide +kernel)
set_option maxRecDepth 20000 in
theorem gX4_init_X1_init_n17 : GoodIn wsX4_init (wsX1_init) := ggX4_init_X1_init
theorem dX4_init_0 : decode cX4_init 0 = .ok (.aload_n 0, 1) := by decide +kernel
theorem dX4_init_1 : decode cX4_init 1 = .ok (.invokespecial 3, 3) := by decide +kernel
theorem dX4_init_4 : decode cX4_init 4 = .ok (.aload_n 0, 1) := by decide +kernel
theorem dX4_init_5 : decode cX4_init 5 = .ok (.bipush 80, 2) := by decide +kernel
theorem dX4_init_7 : decode cX4_init 7 = .ok (.newarray .char, 2) := by decide +kernel
theorem dX4_init_9 : decode cX4_init 9 = .ok (.putfield 9, 3) := by decide +kernel
theorem dX4_init_12 : decode cX4_init 12 = .ok (.aload_n 0, 1) := by decide +kernel
theorem dX4_init_13 : decode cX4_init 13 = .ok (.new 15, 3) := by decide +kernel
theorem dX4_init_16 : decode cX4_init 16 = .ok (.dup, 1) := by decide +kernel
theorem dX4_init_17 : decode cX4_init 17 = .ok (.invokespecial 17, 3) := by decide +kernel
theorem dX4_init_20 : decode cX4_init 20 = .ok (.putfield 18, 3) := by decide +kernel
theorem dX4_init_23 : decode cX4_init 23 = .ok (.return_, 1) := by decide +kernel
theorem dX4_append_0 : decode cX4_append 0 = .ok (.aload_n 0, 1) := by decide +kernel
theorem dX4_append_1 : decode cX4_append 1 = .ok (.getfield 22, 3) := by decide +kernel
theorem dX4_append_4 : decode cX4_append 4 = .ok (.ifCond .lt 35, 3) := by decide +kernel
theorem dX4_append_7 : decode cX4_append 7 = .ok (.aload_n 0, 1) := by decide +kernel
theorem dX4_append_8 : decode cX4_append 8 = .ok (.getfield 22, 3) := by decide +kernel
theorem dX4_append_11 : decode cX4_append 11 = .ok (.aload_n 0, 1) := by decide +kernel
theorem dX4_append_12 : decode cX4_append 12 = .ok (.getfield 9, 3) := by decide +kernel
theorem dX4_append_15 : decode cX4_append 15 = .ok (.arraylength, 1) := by decide +kernel
theorem dX4_append_16 : decode cX4_append 16 = .ok (.if_icmp .ge 23, 3) := by decide +kernel
theorem dX4_append_19 : decode cX4_append 19 = .ok (.aload_n 0, 1) := by decide +kernel
theorem dX4_append_20 : decode cX4_append 20 = .ok (.getfield 9, 3) := by decide +kernel
theorem dX4_append_23 : decode cX4_append 23 = .ok (.aload_n 0, 1) := by decide +kernel
theorem dX4_append_24 : decode cX4_append 24 = .ok (.getfield 22, 3) := by decide +kernel
theorem dX4_append_27 : decode cX4_append 27 = .ok (.iload_n 1, 1) := by decide +kernel
theorem dX4_append_28 : decode cX4_append 28 = .ok (.castore, 1) := by decide +kernel
theorem dX4_append_29 : decode cX4_append 29 = .ok (.aload_n 0, 1) := by decide +kernel
theorem dX4_append_30 : decode cX4_append 30 = .ok (.dup, 1) := by decide +kernel
theorem dX4_append_31 : decode cX4_append 31 = .ok (.getfield 22, 3) := by decide +kernel
theorem dX4_append_34 : decode cX4_append 34 = .ok (.iconst 1, 1) := by decide +kernel
theorem dX4_append_35 : decode cX4_append 35 = .ok (.iadd, 1) := by decide +kernel
theorem dX4_append_36 : decode cX4_append 36 = .ok (.putfield 22, 3) := by decide +kernel
theorem dX4_append_39 : decode cX4_append 39 = .ok (.return_, 1) := by decide +kernel
set_option maxRecDepth 20000 in
theorem ggX4_scan_X4_startScan : GoodIn wsX4_scan wsX4_startScan := goodIn_r _ [8, 9, 3, 10, 11, 12, 13, 14, 15, 16, 17, 18, 19, 20, 21, 22, 23, 24, 25, 26, 27, 28, 29, 30, 7, 31, 32, 33, 34, 78, 79, 80, 81, 82, 83, 84, 85, 86, 87, 88, 89, 90, 91] (by decide +kernel) (by decide +kernel)
set_option maxRecDepth 20000 in
theorem gX4_scan_X4_startScan : GoodIn wsX4_scan (wsV RX4 26 RX4 yX4_startScan wsX4_startScan) := goodIn_app (goodIn_of _ (by decide +kernel)) ggX4_scan_X4_startScan
set_option maxRecDepth 20000 in
theorem ggX4_scan_X4_scanSign : GoodIn wsX4_scan wsX4_scanSign := goodIn_r _ [38, 33, 34, 32, 39, 40, 41, 7, 42, 11, 12, 43, 44, 45, 46, 47, 3, 48, 49, 50, 51, 9, 10, 52, 53, 54, 16, 55, 20, 56, 57, 58, 59, 18, 19, 28, 29, 30, 31, 60, 61, 62, 63, 64, 65, 66, 67, 68, 69, 70, 71, 78, 79, 80, 81, 82, 83, 84, 85, 86, 87, 88, 89, 90, 91] (by decide +kernel) (by decide +kernel)
set_option maxRecDepth 20000 in
theorem gX4_scan_X4_scanSign : GoodIn wsX4_scan (wsV RX4 32 RX4 yX4_scanSign wsX4_scanSign) := goodIn_app (goodIn_of _ (by decide +kernel)) ggX4_scan_X4_scanSign
set_option maxRecDepth 20000 in
theorem ggX4_scan_X4_finishScan : GoodIn wsX4_scan wsX4_finishScan := goodIn_r _ [75, 33, 1, 9, 10, 76, 12, 77, 43, 44, 45, 7, 46, 47, 3, 64, 65, 66, 67, 11, 48, 49, 50, 51, 32, 34, 52, 53, 54, 16, 55, 20, 56, 57, 58, 59, 18, 19, 28, 29, 30, 31, 68, 69, 70, 71, 78, 79, 80, 81, 82, 83, 84, 85, 86, 87, 88, 89, 90, 91] (by decide +kernel) (by decide +kernel)
set_option maxRecDepth 20000 in
theorem gX4_scan_X4_finishScan : GoodIn wsX4_scan (wsV RX4 36 RX4 yX4_finishScan wsX4_finishScan) := goodIn_app (goodIn_of _ (by decide +kernel)) ggX4_scan_X4_finishScan
theorem dX4_scan_0 : decode cX4_scan 0 = .ok (.aload_n 0, 1) := by decide +kernel
theorem dX4_scan_1 : decode cX4_scan 1 = .ok (.invokevirtual 26, 3) := by decide +kernel
theorem dX4_scan_4 : decode cX4_scan 4 = .ok (.iconst 0, 1) := by decide +kernel
theorem dX4_scan_5 : decode cX4_scan 5 = .ok (.istore_n 1, 1) := by decide +kernel
theorem dX4_scan_6 : decode cX4_scan 6 = .ok (.iload_n 1, 1) := by decide +kernel
theorem dX4_scan_7 : decode cX4_scan 7 = .ok (.aload_n 0, 1) := by decide +kernel
theorem dX4_scan_8 : decode cX4_scan 8 = .ok (.getfield 22, 3) := by decide +kernel
theorem dX4_scan_11 : decode cX4_scan 11 = .ok (.if_icmp .ge 36, 3) := by decide +kernel
theorem dX4_scan_14 : decode cX4_scan 14 = .ok (.iload_n 1, 1) := by decide +kernel
theorem dX4_scan_15 : decode cX4_scan 15 = .ok (.aload_n 0, 1) := by decide +kernel
theorem dX4_scan_16 : decode cX4_scan 16 = .ok (.getfield 9, 3) := by decide +kernel
theorem dX4_scan_19 : decode cX4_scan 19 = .ok (.arraylength, 1) := by decide +kernel
theorem dX4_scan_20 : decode cX4_scan 20 = .ok (.if_icmp .ge 27, 3) := by decide +kernel
theorem dX4_scan_23 : decode cX4_scan 23 = .ok (.aload_n 0, 1) := by decide +kernel
theorem dX4_scan_24 : decode cX4_scan 24 = .ok (.getfield 29, 3) := by decide +kernel
theorem dX4_scan_27 : decode cX4_scan 27 = .ok (.ifCond .ne 20, 3) := by decide +kernel
theorem dX4_scan_30 : decode cX4_scan 30 = .ok (.aload_n 0, 1) := by decide +kernel
theorem dX4_scan_31 : decode cX4_scan 31 = .ok (.iload_n 1, 1) := by decide +kernel
theorem dX4_scan_32 : decode cX4_scan 32 = .ok (.aload_n 0, 1) := by decide +kernel
theorem dX4_scan_33 : decode cX4_scan 33 = .ok (.getfield 9, 3) := by decide +kernel
theorem dX4_scan_36 : decode cX4_scan 36 = .ok (.iload_n 1, 1) := by decide +kernel
theorem dX4_scan_37 : decode cX4_scan 37 = .ok (.caload, 1) := by decide +kernel
theorem dX4_scan_38 : decode cX4_scan 38 = .ok (.invokevirtual 32, 3) := by decide +kernel
theorem dX4_scan_41 : decode cX4_scan 41 = .ok (.iinc 1 1, 3) := by decide +kernel
theorem dX4_scan_44 : decode cX4_scan 44 = .ok (.goto (-38), 3) := by decide +kernel
theorem dX4_scan_47 : decode cX4_scan 47 = .ok (.aload_n 0, 1) := by decide +kernel
theorem dX4_scan_48 : decode cX4_scan 48 = .ok (.getfield 29, 3) := by decide +kernel
theorem dX4_scan_51 : decode cX4_scan 51 = .ok (.ifCond .ne 7, 3) := by decide +kernel
theorem dX4_scan_54 : decode cX4_scan 54 = .ok (.aload_n 0, 1) := by decide +kernel
theorem dX4_scan_55 : decode cX4_scan 55 = .ok (.invokevirtual 36, 3) := by decide +kernel
theorem dX4_scan_58 : decode cX4_scan 58 = .ok (.return_, 1) := by decide +kernel
set_option maxRecDepth 20000 in
theorem ggX4_startScan_X1_renew : GoodIn wsX4_startScan wsX1_renew := goodIn_r _ [10, 11, 12, 13, 14, 15, 16, 17, 18, 19, 20, 40, 41, 42] (by decide +kernel) (by decide +kernel)
set_option maxRecDepth 20000 in
theorem gX4_startScan_X1_renew : GoodIn wsX4_startScan (wsV RX4 39 RX1 yX1_renew wsX1_renew) := goodIn_app (goodIn_of _ (by decide +kernel)) ggX4_startScan_X1_renew
set_option maxRecDepth 20000 in
theorem ggX4_startScan_X4_startEntry : GoodIn wsX4_startScan wsX4_startEntry := goodIn_r _ [25, 26, 27, 28, 29, 30, 31, 32, 33, 34, 35, 36, 37, 38, 39] (by decide +kernel) (by decide +kernel)
set_option maxRecDepth 20000 in
theorem gX4_startScan_X4_startEntry : GoodIn wsX4_startScan (wsV RX4 52 RX4 yX4_startEntry wsX4_startEntry) := goodIn_app (goodIn_of _ (by decide +kernel)) ggX4_startScan_X4_startEntry
theorem dX4_startScan_0 : decode cX4_startScan 0 = .ok (.aload_n 0, 1) := by decide +kernel
theorem dX4_startScan_1 : decode cX4_startScan 1 = .ok (.getfield 18, 3) := by decide +kernel
theorem dX4_startScan_4 : decode cX4_startScan 4 = .ok (.bipush 6, 2) := by decide +kernel
theorem dX4_startScan_6 : decode cX4_startScan 6 = .ok (.bipush 6, 2) := by decide +kernel
theorem dX4_startScan_8 : decode cX4_startScan 8 = .ok (.iconst 0, 1) := by decide +kernel
theorem dX4_startScan_9 : decode cX4_startScan 9 = .ok (.invokevirtual 39, 3) := by decide +kernel
theorem dX4_startScan_12 : decode cX4_startScan 12 = .ok (.aload_n 0, 1) := by decide +kernel
theorem dX4_startScan_13 : decode cX4_startScan 13 = .ok (.iconst 0, 1) := by decide +kernel
theorem dX4_startScan_14 : decode cX4_startScan 14 = .ok (.putfield 29, 3) := by decide +kernel
theorem dX4_startScan_17 : decode cX4_startScan 17 = .ok (.aload_n 0, 1) := by decide +kernel
theorem dX4_startScan_18 : decode cX4_startScan 18 = .ok (.iconst 0, 1) := by decide +kernel
theorem dX4_startScan_19 : decode cX4_startScan 19 = .ok (.putfield 43, 3) := by decide +kernel
theorem dX4_startScan_22 : decode cX4_startScan 22 = .ok (.aload_n 0, 1) := by decide +kernel
theorem dX4_startScan_23 : decode cX4_startScan 23 = .ok (.iconst 0, 1) := by decide +kernel
theorem dX4_startScan_24 : decode cX4_startScan 24 = .ok (.putfield 46, 3) := by decide +kernel
theorem dX4_startScan_27 : decode cX4_startScan 27 = .ok (.aload_n 0, 1) := by decide +kernel
theorem dX4_startScan_28 : decode cX4_startScan 28 = .ok (.bipush 6, 2) := by decide +kernel
theorem dX4_startScan_30 : decode cX4_startScan 30 = .ok (.putfield 49, 3) := by decide +kernel
theorem dX4_startScan_33 : decode cX4_startScan 33 = .ok (.aload_n 0, 1) := by decide +kernel
theorem dX4_startScan_34 : decode cX4_startScan 34 = .ok (.invokevirtual 52, 3) := by decide +kernel
theorem dX4_startScan_37 : decode cX4_startScan 37 = .ok (.return_, 1) := by decide +kernel
theorem dX4_startEntry_0 : decode cX4_startEntry 0 = .ok (.aload_n 0, 1) := by decide +kernel
theorem dX4_startEntry_1 : decode cX4_startEntry 1 = .ok (.iconst 0, 1) := by decide +kernel
theorem dX4_startEntry_2 : decode cX4_startEntry 2 = .ok (.putfield 55, 3) := by decide +kernel
theorem dX4_startEntry_5 : decode cX4_startEntry 5 = .ok (.aload_n 0, 1) := by decide +kernel
theorem dX4_startEntry_6 : decode cX4_startEntry 6 = .ok (.iconst 0, 1) := by decide +kernel
theorem dX4_startEntry_7 : decode cX4_startEntry 7 = .ok (.putfield 59, 3) := by decide +kernel
theorem dX4_startEntry_10 : decode cX4_startEntry 10 = .ok (.aload_n 0, 1) := by decide +kernel
theorem dX4_startEntry_11 : decode cX4_startEntry 11 = .ok (.iconst 0, 1) := by decide +kernel
theorem dX4_startEntry_12 : decode cX4_startEntry 12 = .ok (.putfield 62, 3) := by decide +kernel
theorem dX4_startEntry_15 : decode cX4_startEntry 15 = .ok (.return_, 1) := by decide +kernel
set_option maxRecDepth 20000 in
theorem ggX4_scanSign_X4_scanComma : GoodIn wsX4_scanSign wsX4_scanComma := goodIn_r _ [8, 9, 10, 11, 12, 13, 7, 14, 15, 16, 17, 18, 19, 20, 21, 22, 3, 2, 23, 24, 25, 26, 27, 28, 29, 30, 31, 32, 33, 34, 35, 36, 37, 38, 1, 51, 52, 53, 54, 55, 56, 57, 58, 59, 60, 61, 62, 63, 64] (by decide +kernel) (by decide +kernel)
set_option maxRecDepth 20000 in
theorem gX4_scanSign_X4_scanComma : GoodIn wsX4_scanSign (wsV RX4 65 RX4 yX4_scanComma wsX4_scanComma) := goodIn_app (goodIn_of _ (by decide +kernel)) ggX4_scanSign_X4_scanComma
set_option maxRecDepth 20000 in
theorem ggX4_scanSign_X4_scanSemicolon : GoodIn wsX4_scanSign wsX4_scanSemicolon := goodIn_r _ [42, 22, 9, 43, 44, 45, 7, 46, 10, 11, 12, 13, 14, 15, 16, 17, 18, 19, 20, 21, 3, 2, 23, 24, 25, 26, 27, 28, 29, 30, 31, 32, 33, 34, 35, 36, 37, 38, 1, 47, 48, 49, 50, 51, 52, 53, 54, 55, 56, 57, 58, 59, 60, 61, 62, 63, 64] (by decide +kernel) (by decide +kernel)
set_option maxRecDepth 20000 in
theorem gX4_scanSign_X4_scanSemicolon : GoodIn wsX4_scanSign (wsV RX4 69 RX4 yX4_scanSemicolon wsX4_scanSemicolon) := goodIn_app (goodIn_of _ (by decide +kernel)) ggX4_scanSign_X4_scanSemicolon
set_option maxRecDepth 20000 in
theorem ggX4_scanSign_X4_setFault : GoodIn wsX4_scanSign wsX4_setFault := goodIn_r _ [14, 15, 16, 51, 52, 53, 54, 55, 56, 57, 58, 59, 60, 61] (by decide +kernel) (by decide +kernel)
set_option maxRecDepth 20000 in
theorem gX4_scanSign_X4_setFault : GoodIn wsX4_scanSign (wsV RX4 72 RX4 yX4_setFault wsX4_setFault) := goodIn_app (goodIn_of _ (by decide +kernel)) ggX4_scanSign_X4_setFault
theorem dX4_scanSign_0 : decode cX4_scanSign 0 = .ok (.iload_n 2, 1) := by decide +kernel
theorem dX4_scanSign_1 : decode cX4_scanSign 1 = .ok (.bipush 48, 2) := by decide +kernel
theorem dX4_scanSign_3 : decode cX4_scanSign 3 = .ok (.if_icmp .lt 46, 3) := by decide +kernel
theorem dX4_scanSign_6 : decode cX4_scanSign 6 = .ok (.iload_n 2, 1) := by decide +kernel
theorem dX4_scanSign_7 : decode cX4_scanSign 7 = .ok (.bipush 57, 2) := by decide +kernel
theorem dX4_scanSign_9 : decode cX4_scanSign 9 = .ok (.if_icmp .gt 40, 3) := by decide +kernel
theorem dX4_scanSign_12 : decode cX4_scanSign 12 = .ok (.aload_n 0, 1) := by decide +kernel
theorem dX4_scanSign_13 : decode cX4_scanSign 13 = .ok (.getfield 59, 3) := by decide +kernel
theorem dX4_scanSign_16 : decode cX4_scanSign 16 = .ok (.iconst 2, 1) := by decide +kernel
theorem dX4_scanSign_17 : decode cX4_scanSign 17 = .ok (.if_icmp .ge 32, 3) := by decide +kernel
theorem dX4_scanSign_20 : decode cX4_scanSign 20 = .ok (.aload_n 0, 1) := by decide +kernel
theorem dX4_scanSign_21 : decode cX4_scanSign 21 = .ok (.aload_n 0, 1) := by decide +kernel
theorem dX4_scanSign_22 : decode cX4_scanSign 22 = .ok (.getfield 62, 3) := by decide +kernel
theorem dX4_scanSign_25 : decode cX4_scanSign 25 = .ok (.bipush 10, 2) := by decide +kernel
theorem dX4_scanSign_27 : decode cX4_scanSign 27 = .ok (.imul, 1) := by decide +kernel
theorem dX4_scanSign_28 : decode cX4_scanSign 28 = .ok (.iload_n 2, 1) := by decide +kernel
theorem dX4_scanSign_29 : decode cX4_scanSign 29 = .ok (.bipush 48, 2) := by decide +kernel
theorem dX4_scanSign_31 : decode cX4_scanSign 31 = .ok (.isub, 1) := by decide +kernel
theorem dX4_scanSign_32 : decode cX4_scanSign 32 = .ok (.iadd, 1) := by decide +kernel
theorem dX4_scanSign_33 : decode cX4_scanSign 33 = .ok (.putfield 62, 3) := by decide +kernel
theorem dX4_scanSign_36 : decode cX4_scanSign 36 = .ok (.aload_n 0, 1) := by decide +kernel
theorem dX4_scanSign_37 : decode cX4_scanSign 37 = .ok (.dup, 1) := by decide +kernel
theorem dX4_scanSign_38 : decode cX4_scanSign 38 = .ok (.getfield 59, 3) := by decide +kernel
theorem dX4_scanSign_41 : decode cX4_scanSign 41 = .ok (.iconst 1, 1) := by decide +kernel
theorem dX4_scanSign_42 : decode cX4_scanSign 42 = .ok (.iadd, 1) := by decide +kernel
theorem dX4_scanSign_43 : decode cX4_scanSign 43 = .ok (.putfield 59, 3) := by decide +kernel
theorem dX4_scanSign_46 : decode cX4_scanSign 46 = .ok (.goto 79, 3) := by decide +kernel
theorem dX4_scanSign_49 : decode cX4_scanSign 49 = .ok (.iload_n 2, 1) := by decide +kernel
theorem dX4_scanSign_50 : decode cX4_scanSign 50 = .ok (.bipush 45, 2) := by decide +kernel
theorem dX4_scanSign_52 : decode cX4_scanSign 52 = .ok (.if_icmp .ne 25, 3) := by decide +kernel
theorem dX4_scanSign_55 : decode cX4_scanSign 55 = .ok (.aload_n 0, 1) := by decide +kernel
theorem dX4_scanSign_56 : decode cX4_scanSign 56 = .ok (.getfield 59, 3) := by decide +kernel
theorem dX4_scanSign_59 : decode cX4_scanSign 59 = .ok (.ifCond .ne 18, 3) := by decide +kernel
theorem dX4_scanSign_62 : decode cX4_scanSign 62 = .ok (.aload_n 0, 1) := by decide +kernel
theorem dX4_scanSign_63 : decode cX4_scanSign 63 = .ok (.getfield 55, 3) := by decide +kernel
theorem dX4_scanSign_66 : decode cX4_scanSign 66 = .ok (.ifCond .ne 11, 3) := by decide +kernel
theorem dX4_scanSign_69 : decode cX4_scanSign 69 = .ok (.aload_n 0, 1) := by decide +kernel
theorem dX4_scanSign_70 : decode cX4_scanSign 70 = .ok (.iconst 1, 1) := by decide +kernel
theorem dX4_scanSign_71 : decode cX4_scanSign 71 = .ok (.putfield 55, 3) := by decide +kernel
theorem dX4_scanSign_74 : decode cX4_scanSign 74 = .ok (.goto 51, 3) := by decide +kernel
theorem dX4_scanSign_77 : decode cX4_scanSign 77 = .ok (.iload_n 2, 1) := by decide +kernel
theorem dX4_scanSign_78 : decode cX4_scanSign 78 = .ok (.bipush 44, 2) := by decide +kernel
theorem dX4_scanSign_80 : decode cX4_scanSign 80 = .ok (.if_icmp .ne 18, 3) := by decide +kernel
theorem dX4_scanSign_83 : decode cX4_scanSign 83 = .ok (.aload_n 0, 1) := by decide +kernel
theorem dX4_scanSign_84 : decode cX4_scanSign 84 = .ok (.getfield 59, 3) := by decide +kernel
theorem dX4_scanSign_87 : decode cX4_scanSign 87 = .ok (.ifCond .le 11, 3) := by decide +kernel
theorem dX4_scanSign_90 : decode cX4_scanSign 90 = .ok (.aload_n 0, 1) := by decide +kernel
theorem dX4_scanSign_91 : decode cX4_scanSign 91 = .ok (.iload_n 1, 1) := by decide +kernel
theorem dX4_scanSign_92 : decode cX4_scanSign 92 = .ok (.invokevirtual 65, 3) := by decide +kernel
theorem dX4_scanSign_95 : decode cX4_scanSign 95 = .ok (.goto 30, 3) := by decide +kernel
theorem dX4_scanSign_98 : decode cX4_scanSign 98 = .ok (.iload_n 2, 1) := by decide +kernel
theorem dX4_scanSign_99 : decode cX4_scanSign 99 = .ok (.bipush 59, 2) := by decide +kernel
theorem dX4_scanSign_101 : decode cX4_scanSign 101 = .ok (.if_icmp .ne 18, 3) := by decide +kernel
theorem dX4_scanSign_104 : decode cX4_scanSign 104 = .ok (.aload_n 0, 1) := by decide +kernel
theorem dX4_scanSign_105 : decode cX4_scanSign 105 = .ok (.getfield 59, 3) := by decide +kernel
theorem dX4_scanSign_108 : decode cX4_scanSign 108 = .ok (.ifCond .le 11, 3) := by decide +kernel
theorem dX4_scanSign_111 : decode cX4_scanSign 111 = .ok (.aload_n 0, 1) := by decide +kernel
theorem dX4_scanSign_112 : decode cX4_scanSign 112 = .ok (.iload_n 1, 1) := by decide +kernel
theorem dX4_scanSign_113 : decode cX4_scanSign 113 = .ok (.invokevirtual 69, 3) := by decide +kernel
theorem dX4_scanSign_116 : decode cX4_scanSign 116 = .ok (.goto 9, 3) := by decide +kernel
theorem dX4_scanSign_119 : decode cX4_scanSign 119 = .ok (.aload_n 0, 1) := by decide +kernel
theorem dX4_scanSign_120 : decode cX4_scanSign 120 = .ok (.iload_n 1, 1) := by decide +kernel
theorem dX4_scanSign_121 : decode cX4_scanSign 121 = .ok (.iconst 1, 1) := by decide +kernel
theorem dX4_scanSign_122 : decode cX4_scanSign 122 = .ok (.invokevirtual 72, 3) := by decide +kernel
theorem dX4_scanSign_125 : decode cX4_scanSign 125 = .ok (.return_, 1) := by decide +kernel
set_option maxRecDepth 20000 in
theorem ggX4_scanComma_X4_setFault : GoodIn wsX4_scanComma wsX4_setFault := goodIn_r _ [7, 8, 9, 35, 36, 37, 38, 39, 40, 41, 42, 43, 44, 45] (by decide +kernel) (by decide +kernel)
set_option maxRecDepth 20000 in
theorem gX4_scanComma_X4_setFault : GoodIn wsX4_scanComma (wsV RX4 72 RX4 yX4_setFault wsX4_setFault) := goodIn_app (goodIn_of _ (by decide +kernel)) ggX4_scanComma_X4_setFault
set_option maxRecDepth 20000 in
theorem ggX4_scanComma_X4_endEntry : GoodIn wsX4_scanComma wsX4_endEntry := goodIn_r _ [13, 14, 15, 1, 16, 17, 18, 19, 20, 21, 22, 23, 24, 25, 26, 27, 28, 29, 30, 31, 32, 6, 33, 34, 35, 36, 37, 38, 39, 40, 41, 42, 43, 44, 45, 46, 47, 48] (by decide +kernel) (by decide +kernel)
set_option maxRecDepth 20000 in
theorem gX4_scanComma_X4_endEntry : GoodIn wsX4_scanComma (wsV RX4 76 RX4 yX4_endEntry wsX4_endEntry) := goodIn_app (goodIn_of _ (by decide +kernel)) ggX4_scanComma_X4_endEntry
theorem dX4_scanComma_0 : decode cX4_scanComma 0 = .ok (.aload_n 0, 1) := by decide +kernel
theorem dX4_scanComma_1 : decode cX4_scanComma 1 = .ok (.getfield 46, 3) := by decide +kernel
theorem dX4_scanComma_4 : decode cX4_scanComma 4 = .ok (.iconst 1, 1) := by decide +kernel
theorem dX4_scanComma_5 : decode cX4_scanComma 5 = .ok (.iadd, 1) := by decide +kernel
theorem dX4_scanComma_6 : decode cX4_scanComma 6 = .ok (.aload_n 0, 1) := by decide +kernel
theorem dX4_scanComma_7 : decode cX4_scanComma 7 = .ok (.getfield 49, 3) := by decide +kernel
theorem dX4_scanComma_10 : decode cX4_scanComma 10 = .ok (.if_icmp .lt 10, 3) := by decide +kernel
theorem dX4_scanComma_13 : decode cX4_scanComma 13 = .ok (.aload_n 0, 1) := by decide +kernel
theorem dX4_scanComma_14 : decode cX4_scanComma 14 = .ok (.iload_n 1, 1) := by decide +kernel
theorem dX4_scanComma_15 : decode cX4_scanComma 15 = .ok (.iconst 2, 1) := by decide +kernel
theorem dX4_scanComma_16 : decode cX4_scanComma 16 = .ok (.invokevirtual 72, 3) := by decide +kernel
theorem dX4_scanComma_19 : decode cX4_scanComma 19 = .ok (.return_, 1) := by decide +kernel
theorem dX4_scanComma_20 : decode cX4_scanComma 20 = .ok (.aload_n 0, 1) := by decide +kernel
theorem dX4_scanComma_21 : decode cX4_scanComma 21 = .ok (.invokevirtual 76, 3) := by decide +kernel
theorem dX4_scanComma_24 : decode cX4_scanComma 24 = .ok (.aload_n 0, 1) := by decide +kernel
theorem dX4_scanComma_25 : decode cX4_scanComma 25 = .ok (.dup, 1) := by decide +kernel
theorem dX4_scanComma_26 : decode cX4_scanComma 26 = .ok (.getfield 46, 3) := by decide +kernel
theorem dX4_scanComma_29 : decode cX4_scanComma 29 = .ok (.iconst 1, 1) := by decide +kernel
theorem dX4_scanComma_30 : decode cX4_scanComma 30 = .ok (.iadd, 1) := by decide +kernel
theorem dX4_scanComma_31 : decode cX4_scanComma 31 = .ok (.putfield 46, 3) := by decide +kernel
theorem dX4_scanComma_34 : decode cX4_scanComma 34 = .ok (.return_, 1) := by decide +kernel
set_option maxRecDepth 20000 in
theorem ggX4_scanSemicolon_X4_rowIsShort : GoodIn wsX4_scanSemicolon wsX4_rowIsShort := goodIn_r _ [7, 1, 2, 8, 43, 44, 45, 46, 47, 48, 49, 50, 51, 52, 53] (by decide +kernel) (by decide +kernel)
set_option maxRecDepth 20000 in
theorem gX4_scanSemicolon_X4_rowIsShort : GoodIn wsX4_scanSemicolon (wsV RX4 79 RX4 yX4_rowIsShort wsX4_rowIsShort) := goodIn_app (goodIn_of _ (by decide +kernel)) ggX4_scanSemicolon_X4_rowIsShort
set_option maxRecDepth 20000 in
theorem ggX4_scanSemicolon_X4_setFault : GoodIn wsX4_scanSemicolon wsX4_setFault := goodIn_r _ [12, 13, 14, 43, 44, 45, 46, 47, 48, 49, 50, 51, 52, 53] (by decide +kernel) (by decide +kernel)
set_option maxRecDepth 20000 in
theorem gX4_scanSemicolon_X4_setFault : GoodIn wsX4_scanSemicolon (wsV RX4 72 RX4 yX4_setFault wsX4_setFault) := goodIn_app (goodIn_of _ (by decide +kernel)) ggX4_scanSemicolon_X4_setFault
set_option maxRecDepth 20000 in
theorem ggX4_scanSemicolon_X4_endEntry : GoodIn wsX4_scanSemicolon wsX4_endEntry := goodIn_r _ [18, 19, 1, 2, 20, 21, 22, 23, 24, 25, 26, 27, 28, 29, 30, 31, 32, 33, 34, 35, 36, 6, 37, 38, 43, 44, 45, 46, 47, 48, 49, 50, 51, 52, 53, 54, 55, 56] (by decide +kernel) (by decide +kernel)
set_option maxRecDepth 20000 in
theorem gX4_scanSemicolon_X4_endEntry : GoodIn wsX4_scanSemicolon (wsV RX4 76 RX4 yX4_endEntry wsX4_endEntry) := goodIn_app (goodIn_of _ (by decide +kernel)) ggX4_scanSemicolon_X4_endEntry
set_option maxRecDepth 20000 in
theorem ggX4_scanSemicolon_X4_endRow : GoodIn wsX4_scanSemicolon wsX4_endRow := goodIn_r _ [42, 1, 2, 8, 43, 44, 45, 46, 47, 48, 49, 50, 51, 52, 53] (by decide +kernel) (by decide +kernel)
set_option maxRecDepth 20000 in
theorem gX4_scanSemicolon_X4_endRow : GoodIn wsX4_scanSemicolon (wsV RX4 83 RX4 yX4_endRow wsX4_endRow) := goodIn_app (goodIn_of _ (by decide +kernel)) ggX4_scanSemicolon_X4_endRow
theorem dX4_scanSemicolon_0 : decode cX4_scanSemicolon 0 = .ok (.aload_n 0, 1) := by decide +kernel
theorem dX4_scanSemicolon_1 : decode cX4_scanSemicolon 1 = .ok (.getfield 43, 3) := by decide +kernel
theorem dX4_scanSemicolon_4 : decode cX4_scanSemicolon 4 = .ok (.iconst 1, 1) := by decide +kernel
theorem dX4_scanSemicolon_5 : decode cX4_scanSemicolon 5 = .ok (.iadd, 1) := by decide +kernel
theorem dX4_scanSemicolon_6 : decode cX4_scanSemicolon 6 = .ok (.bipush 6, 2) := by decide +kernel
theorem dX4_scanSemicolon_8 : decode cX4_scanSemicolon 8 = .ok (.if_icmp .ge 10, 3) := by decide +kernel
theorem dX4_scanSemicolon_11 : decode cX4_scanSemicolon 11 = .ok (.aload_n 0, 1) := by decide +kernel
theorem dX4_scanSemicolon_12 : decode cX4_scanSemicolon 12 = .ok (.invokevirtual 79, 3) := by decide +kernel
theorem dX4_scanSemicolon_15 : decode cX4_scanSemicolon 15 = .ok (.ifCond .eq 10, 3) := by decide +kernel
theorem dX4_scanSemicolon_18 : decode cX4_scanSemicolon 18 = .ok (.aload_n 0, 1) := by decide +kernel
theorem dX4_scanSemicolon_19 : decode cX4_scanSemicolon 19 = .ok (.iload_n 1, 1) := by decide +kernel
theorem dX4_scanSemicolon_20 : decode cX4_scanSemicolon 20 = .ok (.iconst 2, 1) := by decide +kernel
theorem dX4_scanSemicolon_21 : decode cX4_scanSemicolon 21 = .ok (.invokevirtual 72, 3) := by decide +kernel
theorem dX4_scanSemicolon_24 : decode cX4_scanSemicolon 24 = .ok (.return_, 1) := by decide +kernel
theorem dX4_scanSemicolon_25 : decode cX4_scanSemicolon 25 = .ok (.aload_n 0, 1) := by decide +kernel
theorem dX4_scanSemicolon_26 : decode cX4_scanSemicolon 26 = .ok (.invokevirtual 76, 3) := by decide +kernel
theorem dX4_scanSemicolon_29 : decode cX4_scanSemicolon 29 = .ok (.aload_n 0, 1) := by decide +kernel
theorem dX4_scanSemicolon_30 : decode cX4_scanSemicolon 30 = .ok (.invokevirtual 83, 3) := by decide +kernel
