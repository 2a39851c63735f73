theorem dX0_init_0 : decode cX0_init 0 = .ok (.aload_n 0, 1) := by decide +kernel
theorem dX0_init_1 : decode cX0_init 1 = .ok (.invokespecial 3, 3) := by decide +kernel
theorem dX0_init_4 : decode cX0_init 4 = .ok (.aload_n 0, 1) := by decide +kernel
theorem dX0_init_5 : decode cX0_init 5 = .ok (.sipush 200, 3) := by decide +kernel
theorem dX0_init_8 : decode cX0_init 8 = .ok (.newarray .int, 2) := by decide +kernel
theorem dX0_init_10 : decode cX0_init 10 = .ok (.putfield 9, 3) := by decide +kernel
theorem dX0_init_13 : decode cX0_init 13 = .ok (.aload_n 0, 1) := by decide +kernel
theorem dX0_init_14 : decode cX0_init 14 = .ok (.iconst 0, 1) := by decide +kernel
theorem dX0_init_15 : decode cX0_init 15 = .ok (.putfield 15, 3) := by decide +kernel
theorem dX0_init_18 : decode cX0_init 18 = .ok (.return_, 1) := by decide +kernel
theorem dX0_empty_0 : decode cX0_empty 0 = .ok (.aload_n 0, 1) := by decide +kernel
theorem dX0_empty_1 : decode cX0_empty 1 = .ok (.iconst 0, 1) := by decide +kernel
theorem dX0_empty_2 : decode cX0_empty 2 = .ok (.putfield 15, 3) := by decide +kernel
theorem dX0_empty_5 : decode cX0_empty 5 = .ok (.return_, 1) := by decide +kernel
theorem dX0_add_0 : decode cX0_add 0 = .ok (.aload_n 0, 1) := by decide +kernel
theorem dX0_add_1 : decode cX0_add 1 = .ok (.getfield 15, 3) := by decide +kernel
theorem dX0_add_4 : decode cX0_add 4 = .ok (.aload_n 0, 1) := by decide +kernel
theorem dX0_add_5 : decode cX0_add 5 = .ok (.getfield 9, 3) := by decide +kernel
theorem dX0_add_8 : decode cX0_add 8 = .ok (.arraylength, 1) := by decide +kernel
theorem dX0_add_9 : decode cX0_add 9 = .ok (.if_icmp .ge 23, 3) := by decide +kernel
theorem dX0_add_12 : decode cX0_add 12 = .ok (.aload_n 0, 1) := by decide +kernel
theorem dX0_add_13 : decode cX0_add 13 = .ok (.getfield 9, 3) := by decide +kernel
theorem dX0_add_16 : decode cX0_add 16 = .ok (.aload_n 0, 1) := by decide +kernel
theorem dX0_add_17 : decode cX0_add 17 = .ok (.getfield 15, 3) := by decide +kernel
theorem dX0_add_20 : decode cX0_add 20 = .ok (.iload_n 1, 1) := by decide +kernel
theorem dX0_add_21 : decode cX0_add 21 = .ok (.iastore, 1) := by decide +kernel
theorem dX0_add_22 : decode cX0_add 22 = .ok (.aload_n 0, 1) := by decide +kernel
theorem dX0_add_23 : decode cX0_add 23 = .ok (.dup, 1) := by decide +kernel
theorem dX0_add_24 : decode cX0_add 24 = .ok (.getfield 15, 3) := by decide +kernel
theorem dX0_add_27 : decode cX0_add 27 = .ok (.iconst 1, 1) := by decide +kernel
theorem dX0_add_28 : decode cX0_add 28 = .ok (.iadd, 1) := by decide +kernel
theorem dX0_add_29 : decode cX0_add 29 = .ok (.putfield 15, 3) := by decide +kernel
theorem dX0_add_32 : decode cX0_add 32 = .ok (.return_, 1) := by decide +kernel
set_option maxRecDepth 20000 in
theorem ggX0_addAll_X0_at : GoodIn wsX0_addAll wsX0_at := goodIn_r _ [6, 1, 7, 12, 13] (by decide +kernel) (by decide +kernel)
set_option maxRecDepth 20000 in
theorem gX0_addAll_X0_at : GoodIn wsX0_addAll (wsV RX0 19 RX0 yX0_at wsX0_at) := goodIn_app (goodIn_of _ (by decide +kernel)) ggX0_addAll_X0_at
set_option maxRecDepth 20000 in
theorem ggX0_addAll_X0_add : GoodIn wsX0_addAll wsX0_add := goodIn_r _ [11, 1, 7, 12, 13] (by decide +kernel) (by decide +kernel)
set_option maxRecDepth 20000 in
theorem gX0_addAll_X0_add : GoodIn wsX0_addAll (wsV RX0 23 RX0 yX0_add wsX0_add) := goodIn_app (goodIn_of _ (by decide +kernel)) ggX0_addAll_X0_add
theorem dX0_addAll_0 : decode cX0_addAll 0 = .ok (.iconst 0, 1) := by decide +kernel
theorem dX0_addAll_1 : decode cX0_addAll 1 = .ok (.istore_n 2, 1) := by decide +kernel
theorem dX0_addAll_2 : decode cX0_addAll 2 = .ok (.iload_n 2, 1) := by decide +kernel
theorem dX0_addAll_3 : decode cX0_addAll 3 = .ok (.aload_n 1, 1) := by decide +kernel
theorem dX0_addAll_4 : decode cX0_addAll 4 = .ok (.getfield 15, 3) := by decide +kernel
theorem dX0_addAll_7 : decode cX0_addAll 7 = .ok (.if_icmp .ge 18, 3) := by decide +kernel
theorem dX0_addAll_10 : decode cX0_addAll 10 = .ok (.aload_n 0, 1) := by decide +kernel
theorem dX0_addAll_11 : decode cX0_addAll 11 = .ok (.aload_n 1, 1) := by decide +kernel
theorem dX0_addAll_12 : decode cX0_addAll 12 = .ok (.iload_n 2, 1) := by decide +kernel
theorem dX0_addAll_13 : decode cX0_addAll 13 = .ok (.invokevirtual 19, 3) := by decide +kernel
theorem dX0_addAll_16 : decode cX0_addAll 16 = .ok (.invokevirtual 23, 3) := by decide +kernel
theorem dX0_addAll_19 : decode cX0_addAll 19 = .ok (.iinc 2 1, 3) := by decide +kernel
theorem dX0_addAll_22 : decode cX0_addAll 22 = .ok (.goto (-20), 3) := by decide +kernel
theorem dX0_addAll_25 : decode cX0_addAll 25 = .ok (.return_, 1) := by decide +kernel
theorem dX0_at_0 : decode cX0_at 0 = .ok (.iload_n 1, 1) := by decide +kernel
theorem dX0_at_1 : decode cX0_at 1 = .ok (.ifCond .lt 20, 3) := by decide +kernel
theorem dX0_at_4 : decode cX0_at 4 = .ok (.iload_n 1, 1) := by decide +kernel
theorem dX0_at_5 : decode cX0_at 5 = .ok (.aload_n 0, 1) := by decide +kernel
theorem dX0_at_6 : decode cX0_at 6 = .ok (.getfield 15, 3) := by decide +kernel
theorem dX0_at_9 : decode cX0_at 9 = .ok (.if_icmp .ge 12, 3) := by decide +kernel
theorem dX0_at_12 : decode cX0_at 12 = .ok (.aload_n 0, 1) := by decide +kernel
theorem dX0_at_13 : decode cX0_at 13 = .ok (.getfield 9, 3) := by decide +kernel
theorem dX0_at_16 : decode cX0_at 16 = .ok (.iload_n 1, 1) := by decide +kernel
theorem dX0_at_17 : decode cX0_at 17 = .ok (.iaload, 1) := by decide +kernel
theorem dX0_at_18 : decode cX0_at 18 = .ok (.goto 4, 3) := by decide +kernel
theorem dX0_at_21 : decode cX0_at 21 = .ok (.iconst (-1), 1) := by decide +kernel
theorem dX0_at_22 : decode cX0_at 22 = .ok (.ireturn, 1) := by decide +kernel
theorem dX0_put_0 : decode cX0_put 0 = .ok (.iload_n 1, 1) := by decide +kernel
theorem dX0_put_1 : decode cX0_put 1 = .ok (.ifCond .lt 18, 3) := by decide +kernel
theorem dX0_put_4 : decode cX0_put 4 = .ok (.iload_n 1, 1) := by decide +kernel
theorem dX0_put_5 : decode cX0_put 5 = .ok (.aload_n 0, 1) := by decide +kernel
theorem dX0_put_6 : decode cX0_put 6 = .ok (.getfield 15, 3) := by decide +kernel
theorem dX0_put_9 : decode cX0_put 9 = .ok (.if_icmp .ge 10, 3) := by decide +kernel
theorem dX0_put_12 : decode cX0_put 12 = .ok (.aload_n 0, 1) := by decide +kernel
theorem dX0_put_13 : decode cX0_put 13 = .ok (.getfield 9, 3) := by decide +kernel
theorem dX0_put_16 : decode cX0_put 16 = .ok (.iload_n 1, 1) := by decide +kernel
theorem dX0_put_17 : decode cX0_put 17 = .ok (.iload_n 2, 1) := by decide +kernel
theorem dX0_put_18 : decode cX0_put 18 = .ok (.iastore, 1) := by decide +kernel
theorem dX0_put_19 : decode cX0_put 19 = .ok (.return_, 1) := by decide +kernel
set_option maxRecDepth 20000 in
theorem ggX0_putInOrder_X0_at : GoodIn wsX0_putInOrder wsX0_at := goodIn_r _ [6, 1, 7, 21, 22] (by decide +kernel) (by decide +kernel)
set_option maxRecDepth 20000 in
theorem gX0_putInOrder_X0_at : GoodIn wsX0_putInOrder (wsV RX0 19 RX0 yX0_at wsX0_at) := goodIn_app (goodIn_of _ (by decide +kernel)) ggX0_putInOrder_X0_at
set_option maxRecDepth 20000 in
theorem ggX0_putInOrder_X2_isMark : GoodIn wsX0_putInOrder wsX2_isMark := goodIn_r _ [10] (by decide +kernel) (by decide +kernel)
set_option maxRecDepth 20000 in
theorem gX0_putInOrder_X2_isMark_n27 : GoodIn wsX0_putInOrder (wsX2_isMark) := ggX0_putInOrder_X2_isMark
set_option maxRecDepth 20000 in
theorem ggX0_putInOrder_X0_moveAhead : GoodIn wsX0_putInOrder wsX0_moveAhead := goodIn_r _ [14, 2, 3, 4, 5, 6, 1, 7, 8, 9, 10, 15, 16, 17, 18, 19, 20, 21, 22] (by decide +kernel) (by decide +kernel)
set_option maxRecDepth 20000 in
theorem gX0_putInOrder_X0_moveAhead : GoodIn wsX0_putInOrder (wsV RX0 31 RX0 yX0_moveAhead wsX0_moveAhead) := goodIn_app (goodIn_of _ (by decide +kernel)) ggX0_putInOrder_X0_moveAhead
theorem dX0_putInOrder_0 : decode cX0_putInOrder 0 = .ok (.iconst 1, 1) := by decide +kernel
theorem dX0_putInOrder_1 : decode cX0_putInOrder 1 = .ok (.istore_n 1, 1) := by decide +kernel
theorem dX0_putInOrder_2 : decode cX0_putInOrder 2 = .ok (.iload_n 1, 1) := by decide +kernel
theorem dX0_putInOrder_3 : decode cX0_putInOrder 3 = .ok (.aload_n 0, 1) := by decide +kernel
theorem dX0_putInOrder_4 : decode cX0_putInOrder 4 = .ok (.getfield 15, 3) := by decide +kernel
theorem dX0_putInOrder_7 : decode cX0_putInOrder 7 = .ok (.if_icmp .ge 25, 3) := by decide +kernel
theorem dX0_putInOrder_10 : decode cX0_putInOrder 10 = .ok (.aload_n 0, 1) := by decide +kernel
theorem dX0_putInOrder_11 : decode cX0_putInOrder 11 = .ok (.iload_n 1, 1) := by decide +kernel
theorem dX0_putInOrder_12 : decode cX0_putInOrder 12 = .ok (.invokevirtual 19, 3) := by decide +kernel
theorem dX0_putInOrder_15 : decode cX0_putInOrder 15 = .ok (.invokestatic 27, 3) := by decide +kernel
theorem dX0_putInOrder_18 : decode cX0_putInOrder 18 = .ok (.ifCond .eq 8, 3) := by decide +kernel
theorem dX0_putInOrder_21 : decode cX0_putInOrder 21 = .ok (.aload_n 0, 1) := by decide +kernel
theorem dX0_putInOrder_22 : decode cX0_putInOrder 22 = .ok (.iload_n 1, 1) := by decide +kernel
theorem dX0_putInOrder_23 : decode cX0_putInOrder 23 = .ok (.invokevirtual 31, 3) := by decide +kernel
theorem dX0_putInOrder_26 : decode cX0_putInOrder 26 = .ok (.iinc 1 1, 3) := by decide +kernel
theorem dX0_putInOrder_29 : decode cX0_putInOrder 29 = .ok (.goto (-27), 3) := by decide +kernel
theorem dX0_putInOrder_32 : decode cX0_putInOrder 32 = .ok (.return_, 1) := by decide +kernel
set_option maxRecDepth 20000 in
theorem ggX0_moveAhead_X0_at : GoodIn wsX0_moveAhead wsX0_at := goodIn_r _ [5, 6, 7, 17, 18] (by decide +kernel) (by decide +kernel)
set_option maxRecDepth 20000 in
theorem gX0_moveAhead_X0_at : GoodIn wsX0_moveAhead (wsV RX0 19 RX0 yX0_at wsX0_at) := goodIn_app (goodIn_of _ (by decide +kernel)) ggX0_moveAhead_X0_at
set_option maxRecDepth 20000 in
theorem ggX0_moveAhead_X2_isMark : GoodIn wsX0_moveAhead wsX2_isMark := goodIn_r _ [10] (by decide +kernel) (by decide +kernel)
set_option maxRecDepth 20000 in
theorem gX0_moveAhead_X2_isMark_n27 : GoodIn wsX0_moveAhead (wsX2_isMark) := ggX0_moveAhead_X2_isMark
set_option maxRecDepth 20000 in
theorem ggX0_moveAhead_X2_rankOf : GoodIn wsX0_moveAhead wsX2_rankOf := goodIn_r _ [12] (by decide +kernel) (by decide +kernel)
set_option maxRecDepth 20000 in
theorem gX0_moveAhead_X2_rankOf_n34 : GoodIn wsX0_moveAhead (wsX2_rankOf) := ggX0_moveAhead_X2_rankOf
set_option maxRecDepth 20000 in
theorem ggX0_moveAhead_X0_put : GoodIn wsX0_moveAhead wsX0_put := goodIn_r _ [16, 6, 7, 17, 18] (by decide +kernel) (by decide +kernel)
set_option maxRecDepth 20000 in
theorem gX0_moveAhead_X0_put : GoodIn wsX0_moveAhead (wsV RX0 37 RX0 yX0_put wsX0_put) := goodIn_app (goodIn_of _ (by decide +kernel)) ggX0_moveAhead_X0_put
theorem dX0_moveAhead_0 : decode cX0_moveAhead 0 = .ok (.aload_n 0, 1) := by decide +kernel
theorem dX0_moveAhead_1 : decode cX0_moveAhead 1 = .ok (.iload_n 1, 1) := by decide +kernel
theorem dX0_moveAhead_2 : decode cX0_moveAhead 2 = .ok (.invokevirtual 19, 3) := by decide +kernel
theorem dX0_moveAhead_5 : decode cX0_moveAhead 5 = .ok (.istore_n 2, 1) := by decide +kernel
theorem dX0_moveAhead_6 : decode cX0_moveAhead 6 = .ok (.iload_n 1, 1) := by decide +kernel
theorem dX0_moveAhead_7 : decode cX0_moveAhead 7 = .ok (.istore_n 3, 1) := by decide +kernel
theorem dX0_moveAhead_8 : decode cX0_moveAhead 8 = .ok (.iload_n 3, 1) := by decide +kernel
theorem dX0_moveAhead_9 : decode cX0_moveAhead 9 = .ok (.ifCond .le 51, 3) := by decide +kernel
theorem dX0_moveAhead_12 : decode cX0_moveAhead 12 = .ok (.aload_n 0, 1) := by decide +kernel
theorem dX0_moveAhead_13 : decode cX0_moveAhead 13 = .ok (.iload_n 3, 1) := by decide +kernel
theorem dX0_moveAhead_14 : decode cX0_moveAhead 14 = .ok (.iconst 1, 1) := by decide +kernel
theorem dX0_moveAhead_15 : decode cX0_moveAhead 15 = .ok (.isub, 1) := by decide +kernel
theorem dX0_moveAhead_16 : decode cX0_moveAhead 16 = .ok (.invokevirtual 19, 3) := by decide +kernel
theorem dX0_moveAhead_19 : decode cX0_moveAhead 19 = .ok (.invokestatic 27, 3) := by decide +kernel
theorem dX0_moveAhead_22 : decode cX0_moveAhead 22 = .ok (.ifCond .eq 38, 3) := by decide +kernel
theorem dX0_moveAhead_25 : decode cX0_moveAhead 25 = .ok (.aload_n 0, 1) := by decide +kernel
theorem dX0_moveAhead_26 : decode cX0_moveAhead 26 = .ok (.iload_n 3, 1) := by decide +kernel
theorem dX0_moveAhead_27 : decode cX0_moveAhead 27 = .ok (.iconst 1, 1) := by decide +kernel
theorem dX0_moveAhead_28 : decode cX0_moveAhead 28 = .ok (.isub, 1) := by decide +kernel
theorem dX0_moveAhead_29 : decode cX0_moveAhead 29 = .ok (.invokevirtual 19, 3) := by decide +kernel
theorem dX0_moveAhead_32 : decode cX0_moveAhead 32 = .ok (.invokestatic 34, 3) := by decide +kernel
theorem dX0_moveAhead_35 : decode cX0_moveAhead 35 = .ok (.iload_n 2, 1) := by decide +kernel
theorem dX0_moveAhead_36 : decode cX0_moveAhead 36 = .ok (.invokestatic 34, 3) := by decide +kernel
theorem dX0_moveAhead_39 : decode cX0_moveAhead 39 = .ok (.if_icmp .le 21, 3) := by decide +kernel
theorem dX0_moveAhead_42 : decode cX0_moveAhead 42 = .ok (.aload_n 0, 1) := by decide +kernel
theorem dX0_moveAhead_43 : decode cX0_moveAhead 43 = .ok (.iload_n 3, 1) := by decide +kernel
theorem dX0_moveAhead_44 : decode cX0_moveAhead 44 = .ok (.aload_n 0, 1) := by decide +kernel
theorem dX0_moveAhead_45 : decode cX0_moveAhead 45 = .ok (.iload_n 3, 1) := by decide +kernel
theorem dX0_moveAhead_46 : decode cX0_moveAhead 46 = .ok (.iconst 1, 1) := by decide +kernel
theorem dX0_moveAhead_47 : decode cX0_moveAhead 47 = .ok (.isub, 1) := by decide +kernel
theorem dX0_moveAhead_48 : decode cX0_moveAhead 48 = .ok (.invokevirtual 19, 3) := by decide +kernel
theorem dX0_moveAhead_51 : decode cX0_moveAhead 51 = .ok (.invokevirtual 37, 3) := by decide +kernel
theorem dX0_moveAhead_54 : decode cX0_moveAhead 54 = .ok (.iinc 3 (-1), 3) := by decide +kernel
theorem dX0_moveAhead_57 : decode cX0_moveAhead 57 = .ok (.goto (-49), 3) := by decide +kernel
theorem dX0_moveAhead_60 : decode cX0_moveAhead 60 = .ok (.aload_n 0, 1) := by decide +kernel
theorem dX0_moveAhead_61 : decode cX0_moveAhead 61 = .ok (.iload_n 3, 1) := by decide +kernel
theorem dX0_moveAhead_62 : decode cX0_moveAhead 62 = .ok (.iload_n 2, 1) := by decide +kernel
theorem dX0_moveAhead_63 : decode cX0_moveAhead 63 = .ok (.invokevirtual 37, 3) := by decide +kernel
theorem dX0_moveAhead_66 : decode cX0_moveAhead 66 = .ok (.return_, 1) := by decide +kernel
set_option maxRecDepth 20000 in
theorem ggX0_takeApart_X0_empty : GoodIn wsX0_takeApart wsX0_empty := goodIn_r _ [6, 1, 48, 49] (by decide +kernel) (by decide +kernel)
set_option maxRecDepth 20000 in
theorem gX0_takeApart_X0_empty : GoodIn wsX0_takeApart (wsV RX0 41 RX0 yX0_empty wsX0_empty) := goodIn_app (goodIn_of _ (by decide +kernel)) ggX0_takeApart_X0_empty
set_option maxRecDepth 20000 in
theorem ggX0_takeApart_X0_at : GoodIn wsX0_takeApart wsX0_at := goodIn_r _ [10, 1, 11, 48, 49] (by decide +kernel) (by decide +kernel)
set_option maxRecDepth 20000 in
theorem gX0_takeApart_X0_at : GoodIn wsX0_takeApart (wsV RX0 19 RX0 yX0_at wsX0_at) := goodIn_app (goodIn_of _ (by decide +kernel)) ggX0_takeApart_X0_at
set_option maxRecDepth 20000 in
theorem ggX0_takeApart_X2_isComposed : GoodIn wsX0_takeApart wsX2_isComposed := goodIn_r _ [14, 15, 16, 17, 18, 13, 19, 20, 21, 22, 23, 24, 25] (by decide +kernel) (by decide +kernel)
set_option maxRecDepth 20000 in
theorem gX0_takeApart_X2_isComposed_n44 : GoodIn wsX0_takeApart (wsX2_isComposed) := ggX0_takeApart_X2_isComposed
set_option maxRecDepth 20000 in
theorem ggX0_takeApart_X2_letterOf : GoodIn wsX0_takeApart wsX2_letterOf := goodIn_r _ [19, 15] (by decide +kernel) (by decide +kernel)
set_option maxRecDepth 20000 in
theorem gX0_takeApart_X2_letterOf_n47 : GoodIn wsX0_takeApart (wsX2_letterOf) := ggX0_takeApart_X2_letterOf
set_option maxRecDepth 20000 in
theorem ggX0_takeApart_X0_add : GoodIn wsX0_takeApart wsX0_add := goodIn_r _ [29, 1, 11, 48, 49] (by decide +kernel) (by decide +kernel)
set_option maxRecDepth 20000 in
theorem gX0_takeApart_X0_add : GoodIn wsX0_takeApart (wsV RX0 23 RX0 yX0_add wsX0_add) := goodIn_app (goodIn_of _ (by decide +kernel)) ggX0_takeApart_X0_add
set_option maxRecDepth 20000 in
theorem ggX0_takeApart_X2_markOf : GoodIn wsX0_takeApart wsX2_markOf := goodIn_r _ [31, 15] (by decide +kernel) (by decide +kernel)
set_option maxRecDepth 20000 in
theorem gX0_takeApart_X2_markOf_n50 : GoodIn wsX0_takeApart (wsX2_markOf) := ggX0_takeApart_X2_markOf
set_option maxRecDepth 20000 in
theorem ggX0_takeApart_X0_putInOrder : GoodIn wsX0_takeApart wsX0_putInOrder := goodIn_r _ [35, 1, 7, 8, 9, 5, 10, 11, 36, 13, 37, 38, 39, 40, 41, 42, 43, 44, 45, 46, 47, 48, 49] (by decide +kernel) (by decide +kernel)
set_option maxRecDepth 20000 in
theorem gX0_takeApart_X0_putInOrder : GoodIn wsX0_takeApart (wsV RX0 53 RX0 yX0_putInOrder wsX0_putInOrder) := goodIn_app (goodIn_of _ (by decide +kernel)) ggX0_takeApart_X0_putInOrder
theorem dX0_takeApart_0 : decode cX0_takeApart 0 = .ok (.aload_n 0, 1) := by decide +kernel
theorem dX0_takeApart_1 : decode cX0_takeApart 1 = .ok (.invokevirtual 41, 3) := by decide +kernel
theorem dX0_takeApart_4 : decode cX0_takeApart 4 = .ok (.iconst 0, 1) := by decide +kernel
theorem dX0_takeApart_5 : decode cX0_takeApart 5 = .ok (.istore_n 2, 1) := by decide +kernel
theorem dX0_takeApart_6 : decode cX0_takeApart 6 = .ok (.iload_n 2, 1) := by decide +kernel
theorem dX0_takeApart_7 : decode cX0_takeApart 7 = .ok (.aload_n 1, 1) := by decide +kernel
theorem dX0_takeApart_8 : decode cX0_takeApart 8 = .ok (.getfield 15, 3) := by decide +kernel
theorem dX0_takeApart_11 : decode cX0_takeApart 11 = .ok (.if_icmp .ge 46, 3) := by decide +kernel
theorem dX0_takeApart_14 : decode cX0_takeApart 14 = .ok (.aload_n 1, 1) := by decide +kernel
theorem dX0_takeApart_15 : decode cX0_takeApart 15 = .ok (.iload_n 2, 1) := by decide +kernel
theorem dX0_takeApart_16 : decode cX0_takeApart 16 = .ok (.invokevirtual 19, 3) := by decide +kernel
theorem dX0_takeApart_19 : decode cX0_takeApart 19 = .ok (.istore_n 3, 1) := by decide +kernel
theorem dX0_takeApart_20 : decode cX0_takeApart 20 = .ok (.iload_n 3, 1) := by decide +kernel
theorem dX0_takeApart_21 : decode cX0_takeApart 21 = .ok (.invokestatic 44, 3) := by decide +kernel
theorem dX0_takeApart_24 : decode cX0_takeApart 24 = .ok (.ifCond .eq 22, 3) := by decide +kernel
theorem dX0_takeApart_27 : decode cX0_takeApart 27 = .ok (.aload_n 0, 1) := by decide +kernel
theorem dX0_takeApart_28 : decode cX0_takeApart 28 = .ok (.iload_n 3, 1) := by decide +kernel
theorem dX0_takeApart_29 : decode cX0_takeApart 29 = .ok (.invokestatic 47, 3) := by decide +kernel
theorem dX0_takeApart_32 : decode cX0_takeApart 32 = .ok (.invokevirtual 23, 3) := by decide +kernel
theorem dX0_takeApart_35 : decode cX0_takeApart 35 = .ok (.aload_n 0, 1) := by decide +kernel
theorem dX0_takeApart_36 : decode cX0_takeApart 36 = .ok (.iload_n 3, 1) := by decide +kernel
theorem dX0_takeApart_37 : decode cX0_takeApart 37 = .ok (.invokestatic 50, 3) := by decide +kernel
theorem dX0_takeApart_40 : decode cX0_takeApart 40 = .ok (.invokevirtual 23, 3) := by decide +kernel
theorem dX0_takeApart_43 : decode cX0_takeApart 43 = .ok (.goto 8, 3) := by decide +kernel
theorem dX0_takeApart_46 : decode cX0_takeApart 46 = .ok (.aload_n 0, 1) := by decide +kernel
theorem dX0_takeApart_47 : decode cX0_takeApart 47 = .ok (.iload_n 3, 1) := by decide +kernel
theorem dX0_takeApart_48 : decode cX0_takeApart 48 = .ok (.invokevirtual 23, 3) := by decide +kernel
theorem dX0_takeApart_51 : decode cX0_takeApart 51 = .ok (.iinc 2 1, 3) := by decide +kernel
theorem dX0_takeApart_54 : decode cX0_takeApart 54 = .ok (.goto (-48), 3) := by decide +kernel
theorem dX0_takeApart_57 : decode cX0_takeApart 57 = .ok (.aload_n 0, 1) := by decide +kernel
theorem dX0_takeApart_58 : decode cX0_takeApart 58 = .ok (.invokevirtual 53, 3) := by decide +kernel
theorem dX0_takeApart_61 : decode cX0_takeApart 61 = .ok (.return_, 1) := by decide +kernel
set_option maxRecDepth 20000 in
theorem ggX0_putTogether_X0_at : GoodIn wsX0_putTogether wsX0_at := goodIn_r _ [6, 1, 7, 23, 24] (by decide +kernel) (by decide +kernel)
set_option maxRecDepth 20000 in
theorem gX0_putTogether_X0_at : GoodIn wsX0_putTogether (wsV RX0 19 RX0 yX0_at wsX0_at) := goodIn_app (goodIn_of _ (by decide +kernel)) ggX0_putTogether_X0_at
set_option maxRecDepth 20000 in
theorem ggX0_putTogether_X2_isLetter : GoodIn wsX0_putTogether wsX2_isLetter := goodIn_r _ [10, 11, 12, 9, 13] (by decide +kernel) (by decide +kernel)
set_option maxRecDepth 20000 in
theorem gX0_putTogether_X2_isLetter_n56 : GoodIn wsX0_putTogether (wsX2_isLetter) := ggX0_putTogether_X2_isLetter
set_option maxRecDepth 20000 in
theorem ggX0_putTogether_X2_isMark : GoodIn wsX0_putTogether wsX2_isMark := goodIn_r _ [15] (by decide +kernel) (by decide +kernel)
set_option maxRecDepth 20000 in
theorem gX0_putTogether_X2_isMark_n27 : GoodIn wsX0_putTogether (wsX2_isMark) := ggX0_putTogether_X2_isMark
set_option maxRecDepth 20000 in
theorem ggX0_putTogether_X2_composedOf : GoodIn wsX0_putTogether wsX2_composedOf := goodIn_r _ [17, 18] (by decide +kernel) (by decide +kernel)
set_option maxRecDepth 20000 in
theorem gX0_putTogether_X2_composedOf_n59 : GoodIn wsX0_putTogether (wsX2_composedOf) := ggX0_putTogether_X2_composedOf
set_option maxRecDepth 20000 in
theorem ggX0_putTogether_X0_put : GoodIn wsX0_putTogether wsX0_put := goodIn_r _ [22, 1, 7, 23, 24] (by decide +kernel) (by decide +kernel)
set_option maxRecDepth 20000 in
theorem gX0_putTogether_X0_put : GoodIn wsX0_putTogether (wsV RX0 37 RX0 yX0_put wsX0_put) := goodIn_app (goodIn_of _ (by decide +kernel)) ggX0_putTogether_X0_put
theorem dX0_putTogether_0 : decode cX0_putTogether 0 = .ok (.iconst 0, 1) := by decide +kernel
theorem dX0_putTogether_1 : decode cX0_putTogether 1 = .ok (.istore_n 1, 1) := by decide +kernel
theorem dX0_putTogether_2 : decode cX0_putTogether 2 = .ok (.iconst 0, 1) := by decide +kernel
theorem dX0_putTogether_3 : decode cX0_putTogether 3 = .ok (.istore_n 2, 1) := by decide +kernel
theorem dX0_putTogether_4 : decode cX0_putTogether 4 = .ok (.iload_n 2, 1) := by decide +kernel
theorem dX0_putTogether_5 : decode cX0_putTogether 5 = .ok (.aload_n 0, 1) := by decide +kernel
theorem dX0_putTogether_6 : decode cX0_putTogether 6 = .ok (.getfield 15, 3) := by decide +kernel
theorem dX0_putTogether_9 : decode cX0_putTogether 9 = .ok (.if_icmp .ge 58, 3) := by decide +kernel
theorem dX0_putTogether_12 : decode cX0_putTogether 12 = .ok (.aload_n 0, 1) := by decide +kernel
theorem dX0_putTogether_13 : decode cX0_putTogether 13 = .ok (.iload_n 2, 1) := by decide +kernel
theorem dX0_putTogether_14 : decode cX0_putTogether 14 = .ok (.invokevirtual 19, 3) := by decide +kernel
theorem dX0_putTogether_17 : decode cX0_putTogether 17 = .ok (.istore_n 3, 1) := by decide +kernel
theorem dX0_putTogether_18 : decode cX0_putTogether 18 = .ok (.aload_n 0, 1) := by decide +kernel
theorem dX0_putTogether_19 : decode cX0_putTogether 19 = .ok (.iload_n 2, 1) := by decide +kernel
theorem dX0_putTogether_20 : decode cX0_putTogether 20 = .ok (.iconst 1, 1) := by decide +kernel
theorem dX0_putTogether_21 : decode cX0_putTogether 21 = .ok (.iadd, 1) := by decide +kernel
theorem dX0_putTogether_22 : decode cX0_putTogether 22 = .ok (.invokevirtual 19, 3) := by decide +kernel
theorem dX0_putTogether_25 : decode cX0_putTogether 25 = .ok (.istore 4, 2) := by decide +kernel
theorem dX0_putTogether_27 : decode cX0_putTogether 27 = .ok (.iload_n 3, 1) := by decide +kernel
theorem dX0_putTogether_28 : decode cX0_putTogether 28 = .ok (.invokestatic 56, 3) := by decide +kernel
theorem dX0_putTogether_31 : decode cX0_putTogether 31 = .ok (.ifCond .eq 21, 3) := by decide +kernel
theorem dX0_putTogether_34 : decode cX0_putTogether 34 = .ok (.iload 4, 2) := by decide +kernel
theorem dX0_putTogether_36 : decode cX0_putTogether 36 = .ok (.invokestatic 27, 3) := by decide +kernel
theorem dX0_putTogether_39 : decode cX0_putTogether 39 = .ok (.ifCond .eq 13, 3) := by decide +kernel
theorem dX0_putTogether_42 : decode cX0_putTogether 42 = .ok (.iload_n 3, 1) := by decide +kernel
theorem dX0_putTogether_43 : decode cX0_putTogether 43 = .ok (.iload 4, 2) := by decide +kernel
theorem dX0_putTogether_45 : decode cX0_putTogether 45 = .ok (.invokestatic 59, 3) := by decide +kernel
theorem dX0_putTogether_48 : decode cX0_putTogether 48 = .ok (.istore_n 3, 1) := by decide +kernel
theorem dX0_putTogether_49 : decode cX0_putTogether 49 = .ok (.iinc 2 1, 3) := by decide +kernel
theorem dX0_putTogether_52 : decode cX0_putTogether 52 = .ok (.aload_n 0, 1) := by decide +kernel
theorem dX0_putTogether_53 : decode cX0_putTogether 53 = .ok (.iload_n 1, 1) := by decide +kernel
theorem dX0_putTogether_54 : decode cX0_putTogether 54 = .ok (.iload_n 3, 1) := by decide +kernel
theorem dX0_putTogether_55 : decode cX0_putTogether 55 = .ok (.invokevirtual 37, 3) := by decide +kernel
theorem dX0_putTogether_58 : decode cX0_putTogether 58 = .ok (.iinc 1 1, 3) := by decide +kernel
theorem dX0_putTogether_61 : decode cX0_putTogether 61 = .ok (.iinc 2 1, 3) := by decide +kernel
theorem dX0_putTogether_64 : decode cX0_putTogether 64 = .ok (.goto (-60), 3) := by decide +kernel
theorem dX0_putTogether_67 : decode cX0_putTogether 67 = .ok (.aload_n 0, 1) := by decide +kernel
theorem dX0_putTogether_68 : decode cX0_putTogether 68 = .ok (.iload_n 1, 1) := by decide +kernel
theorem dX0_putTogether_69 : decode cX0_putTogether 69 = .ok (.putfield 15, 3) := by decide +kernel
theorem dX0_putTogether_72 : decode cX0_putTogether 72 = .ok (.return_, 1) := by decide +kernel
set_option maxRecDepth 20000 in
theorem ggX0_placeOfBase_X0_at : GoodIn wsX0_placeOfBase wsX0_at := goodIn_r _ [6, 1, 7, 11, 12] (by decide +kernel) (by decide +kernel)
set_option maxRecDepth 20000 in
theorem gX0_placeOfBase_X0_at : GoodIn wsX0_placeOfBase (wsV RX0 19 RX0 yX0_at wsX0_at) := goodIn_app (goodIn_of _ (by decide +kernel)) ggX0_placeOfBase_X0_at
set_option maxRecDepth 20000 in
theorem ggX0_placeOfBase_X2_isMark : GoodIn wsX0_placeOfBase wsX2_isMark := goodIn_r _ [10] (by decide +kernel) (by decide +kernel)
set_option maxRecDepth 20000 in
theorem gX0_placeOfBase_X2_isMark_n27 : GoodIn wsX0_placeOfBase (wsX2_isMark) := ggX0_placeOfBase_X2_isMark
theorem dX0_placeOfBase_0 : decode cX0_placeOfBase 0 = .ok (.lconst 0, 1) := by decide +kernel
theorem dX0_placeOfBase_1 : decode cX0_placeOfBase 1 = .ok (.lstore_n 3, 1) := by decide +kernel
theorem dX0_placeOfBase_2 : decode cX0_placeOfBase 2 = .ok (.iconst 0, 1) := by decide +kernel
theorem dX0_placeOfBase_3 : decode cX0_placeOfBase 3 = .ok (.istore 5, 2) := by decide +kernel
theorem dX0_placeOfBase_5 : decode cX0_placeOfBase 5 = .ok (.iload 5, 2) := by decide +kernel
theorem dX0_placeOfBase_7 : decode cX0_placeOfBase 7 = .ok (.aload_n 0, 1) := by decide +kernel
theorem dX0_placeOfBase_8 : decode cX0_placeOfBase 8 = .ok (.getfield 15, 3) := by decide +kernel
theorem dX0_placeOfBase_11 : decode cX0_placeOfBase 11 = .ok (.if_icmp .ge 37, 3) := by decide +kernel
theorem dX0_placeOfBase_14 : decode cX0_placeOfBase 14 = .ok (.aload_n 0, 1) := by decide +kernel
theorem dX0_placeOfBase_15 : decode cX0_placeOfBase 15 = .ok (.iload 5, 2) := by decide +kernel
theorem dX0_placeOfBase_17 : decode cX0_placeOfBase 17 = .ok (.invokevirtual 19, 3) := by decide +kernel
theorem dX0_placeOfBase_20 : decode cX0_placeOfBase 20 = .ok (.invokestatic 27, 3) := by decide +kernel
theorem dX0_placeOfBase_23 : decode cX0_placeOfBase 23 = .ok (.ifCond .eq 6, 3) := by decide +kernel
theorem dX0_placeOfBase_26 : decode cX0_placeOfBase 26 = .ok (.goto 16, 3) := by decide +kernel
theorem dX0_placeOfBase_29 : decode cX0_placeOfBase 29 = .ok (.lload_n 3, 1) := by decide +kernel
theorem dX0_placeOfBase_30 : decode cX0_placeOfBase 30 = .ok (.lload_n 1, 1) := by decide +kernel
theorem dX0_placeOfBase_31 : decode cX0_placeOfBase 31 = .ok (.lcmp, 1) := by decide +kernel
theorem dX0_placeOfBase_32 : decode cX0_placeOfBase 32 = .ok (.ifCond .ne 6, 3) := by decide +kernel
theorem dX0_placeOfBase_35 : decode cX0_placeOfBase 35 = .ok (.iload 5, 2) := by decide +kernel
theorem dX0_placeOfBase_37 : decode cX0_placeOfBase 37 = .ok (.ireturn, 1) := by decide +kernel
theorem dX0_placeOfBase_38 : decode cX0_placeOfBase 38 = .ok (.lload_n 3, 1) := by decide +kernel
theorem dX0_placeOfBase_39 : decode cX0_placeOfBase 39 = .ok (.lconst 1, 1) := by decide +kernel
theorem dX0_placeOfBase_40 : decode cX0_placeOfBase 40 = .ok (.ladd, 1) := by decide +kernel
theorem dX0_placeOfBase_41 : decode cX0_placeOfBase 41 = .ok (.lstore_n 3, 1) := by decide +kernel
theorem dX0_placeOfBase_42 : decode cX0_placeOfBase 42 = .ok (.iinc 5 1, 3) := by decide +kernel
theorem dX0_placeOfBase_45 : decode cX0_placeOfBase 45 = .ok (.goto (-40), 3) := by decide +kernel
theorem dX0_placeOfBase_48 : decode cX0_placeOfBase 48 = .ok (.iconst (-1), 1) := by decide +kernel
theorem dX0_placeOfBase_49 : decode cX0_placeOfBase 49 = .ok (.ireturn, 1) := by decide +kernel
set_option maxRecDepth 20000 in
theorem ggX0_bases_X0_at : GoodIn wsX0_bases wsX0_at := goodIn_r _ [6, 1, 7, 11, 12] (by decide +kernel) (by decide +kernel)
set_option maxRecDepth 20000 in
theorem gX0_bases_X0_at : GoodIn wsX0_bases (wsV RX0 19 RX0 yX0_at wsX0_at) := goodIn_app (goodIn_of _ (by decide +kernel)) ggX0_bases_X0_at
set_option maxRecDepth 20000 in
theorem ggX0_bases_X2_isMark : GoodIn wsX0_bases wsX2_isMark := goodIn_r _ [10] (by decide +kernel) (by decide +kernel)
set_option maxRecDepth 20000 in
theorem gX0_bases_X2_isMark_n27 : GoodIn wsX0_bases (wsX2_isMark) := ggX0_bases_X2_isMark
theorem dX0_bases_0 : decode cX0_bases 0 = .ok (.iconst 0, 1) := by decide +kernel
theorem dX0_bases_1 : decode cX0_bases 1 = .ok (.istore_n 1, 1) := by decide +kernel
theorem dX0_bases_2 : decode cX0_bases 2 = .ok (.iconst 0, 1) := by decide +kernel
theorem dX0_bases_3 : decode cX0_bases 3 = .ok (.istore_n 2, 1) := by decide +kernel
theorem dX0_bases_4 : decode cX0_bases 4 = .ok (.iload_n 2, 1) := by decide +kernel
theorem dX0_bases_5 : decode cX0_bases 5 = .ok (.aload_n 0, 1) := by decide +kernel
theorem dX0_bases_6 : decode cX0_bases 6 = .ok (.getfield 15, 3) := by decide +kernel
theorem dX0_bases_9 : decode cX0_bases 9 = .ok (.if_icmp .ge 28, 3) := by decide +kernel
theorem dX0_bases_12 : decode cX0_bases 12 = .ok (.iload_n 1, 1) := by decide +kernel
theorem dX0_bases_13 : decode cX0_bases 13 = .ok (.aload_n 0, 1) := by decide +kernel
theorem dX0_bases_14 : decode cX0_bases 14 = .ok (.iload_n 2, 1) := by decide +kernel
theorem dX0_bases_15 : decode cX0_bases 15 = .ok (.invokevirtual 19, 3) := by decide +kernel
theorem dX0_bases_18 : decode cX0_bases 18 = .ok (.invokestatic 27, 3) := by decide +kernel
theorem dX0_bases_21 : decode cX0_bases 21 = .ok (.ifCond .eq 7, 3) := by decide +kernel
theorem dX0_bases_24 : decode cX0_bases 24 = .ok (.iconst 0, 1) := by decide +kernel
theorem dX0_bases_25 : decode cX0_bases 25 = .ok (.goto 4, 3) := by decide +kernel
theorem dX0_bases_28 : decode cX0_bases 28 = .ok (.iconst 1, 1) := by decide +kernel
theorem dX0_bases_29 : decode cX0_bases 29 = .ok (.iadd, 1) := by decide +kernel
theorem dX0_bases_30 : decode cX0_bases 30 = .ok (.istore_n 1, 1) := by decide +kernel
theorem dX0_bases_31 : decode cX0_bases 31 = .ok (.iinc 2 1, 3) := by decide +kernel
theorem dX0_bases_34 : decode cX0_bases 34 = .ok (.goto (-30), 3) := by decide +kernel
theorem dX0_bases_37 : decode cX0_bases 37 = .ok (.iload_n 1, 1) := by decide +kernel
theorem dX0_bases_38 : decode cX0_bases 38 = .ok (.ireturn, 1) := by decide +kernel
set_option maxRecDepth 20000 in
theorem ggX0_marksBehind_X0_at : GoodIn wsX0_marksBehind wsX0_at := goodIn_r _ [6, 1, 7, 11, 12] (by decide +kernel) (by decide +kernel)
set_option maxRecDepth 20000 in
theorem gX0_marksBehind_X0_at : GoodIn wsX0_marksBehind (wsV RX0 19 RX0 yX0_at wsX0_at) := goodIn_app (goodIn_of _ (by decide +kernel)) ggX0_marksBehind_X0_at
set_option maxRecDepth 20000 in
theorem ggX0_marksBehind_X2_isMark : GoodIn wsX0_marksBehind wsX2_isMark := goodIn_r _ [10] (by decide +kernel) (by decide +kernel)
set_option maxRecDepth 20000 in
theorem gX0_marksBehind_X2_isMark_n27 : GoodIn wsX0_marksBehind (wsX2_isMark) := ggX0_marksBehind_X2_isMark
theorem dX0_marksBehind_0 : decode cX0_marksBehind 0 = .ok (.iconst 0, 1) := by decide +kernel
theorem dX0_marksBehind_1 : decode cX0_marksBehind 1 = .ok (.istore_n 2, 1) := by decide +kernel
theorem dX0_marksBehind_2 : decode cX0_marksBehind 2 = .ok (.iload_n 1, 1) := by decide +kernel
theorem dX0_marksBehind_3 : decode cX0_marksBehind 3 = .ok (.iconst 1, 1) := by decide +kernel
theorem dX0_marksBehind_4 : decode cX0_marksBehind 4 = .ok (.iadd, 1) := by decide +kernel
theorem dX0_marksBehind_5 : decode cX0_marksBehind 5 = .ok (.istore_n 3, 1) := by decide +kernel
theorem dX0_marksBehind_6 : decode cX0_marksBehind 6 = .ok (.iload_n 3, 1) := by decide +kernel
theorem dX0_marksBehind_7 : decode cX0_marksBehind 7 = .ok (.aload_n 0, 1) := by decide +kernel
theorem dX0_marksBehind_8 : decode cX0_marksBehind 8 = .ok (.getfield 15, 3) := by decide +kernel
theorem dX0_marksBehind_11 : decode cX0_marksBehind 11 = .ok (.if_icmp .ge 23, 3) := by decide +kernel
theorem dX0_marksBehind_14 : decode cX0_marksBehind 14 = .ok (.aload_n 0, 1) := by decide +kernel
theorem dX0_marksBehind_15 : decode cX0_marksBehind 15 = .ok (.iload_n 3, 1) := by decide +kernel
theorem dX0_marksBehind_16 : decode cX0_marksBehind 16 = .ok (.invokevirtual 19, 3) := by decide +kernel
theorem dX0_marksBehind_19 : decode cX0_marksBehind 19 = .ok (.invokestatic 27, 3) := by decide +kernel
theorem dX0_marksBehind_22 : decode cX0_marksBehind 22 = .ok (.ifCond .eq 12, 3) := by decide +kernel
theorem dX0_marksBehind_25 : decode cX0_marksBehind 25 = .ok (.iinc 2 1, 3) := by decide +kernel
theorem dX0_marksBehind_28 : decode cX0_marksBehind 28 = .ok (.iinc 3 1, 3) := by decide +kernel
theorem dX0_marksBehind_31 : decode cX0_marksBehind 31 = .ok (.goto (-25), 3) := by decide +kernel
theorem dX0_marksBehind_34 : decode cX0_marksBehind 34 = .ok (.iload_n 2, 1) := by decide +kernel
theorem dX0_marksBehind_35 : decode cX0_marksBehind 35 = .ok (.ireturn, 1) := by decide +kernel
set_option maxRecDepth 20000 in
theorem ggX0_holdsWhat_X0_at : GoodIn wsX0_holdsWhat wsX0_at := goodIn_r _ [6, 1, 7, 8, 9] (by decide +kernel) (by decide +kernel)
set_option maxRecDepth 20000 in
theorem gX0_holdsWhat_X0_at : GoodIn wsX0_holdsWhat (wsV RX0 19 RX0 yX0_at wsX0_at) := goodIn_app (goodIn_of _ (by decide +kernel)) ggX0_holdsWhat_X0_at
theorem dX0_holdsWhat_0 : decode cX0_holdsWhat 0 = .ok (.aload_n 0, 1) := by decide +kernel
theorem dX0_holdsWhat_1 : decode cX0_holdsWhat 1 = .ok (.getfield 15, 3) := by decide +kernel
theorem dX0_holdsWhat_4 : decode cX0_holdsWhat 4 = .ok (.aload_n 1, 1) := by decide +kernel
theorem dX0_holdsWhat_5 : decode cX0_holdsWhat 5 = .ok (.getfield 15, 3) := by decide +kernel
theorem dX0_holdsWhat_8 : decode cX0_holdsWhat 8 = .ok (.if_icmp .eq 5, 3) := by decide +kernel
theorem dX0_holdsWhat_11 : decode cX0_holdsWhat 11 = .ok (.iconst 0, 1) := by decide +kernel
theorem dX0_holdsWhat_12 : decode cX0_holdsWhat 12 = .ok (.ireturn, 1) := by decide +kernel
theorem dX0_holdsWhat_13 : decode cX0_holdsWhat 13 = .ok (.iconst 0, 1) := by decide +kernel
theorem dX0_holdsWhat_14 : decode cX0_holdsWhat 14 = .ok (.istore_n 2, 1) := by decide +kernel
theorem dX0_holdsWhat_15 : decode cX0_holdsWhat 15 = .ok (.iload_n 2, 1) := by decide +kernel
theorem dX0_holdsWhat_16 : decode cX0_holdsWhat 16 = .ok (.aload_n 0, 1) := by decide +kernel
theorem dX0_holdsWhat_17 : decode cX0_holdsWhat 17 = .ok (.getfield 15, 3) := by decide +kernel
theorem dX0_holdsWhat_20 : decode cX0_holdsWhat 20 = .ok (.if_icmp .ge 24, 3) := by decide +kernel
theorem dX0_holdsWhat_23 : decode cX0_holdsWhat 23 = .ok (.aload_n 0, 1) := by decide +kernel
theorem dX0_holdsWhat_24 : decode cX0_holdsWhat 24 = .ok (.iload_n 2, 1) := by decide +kernel
theorem dX0_holdsWhat_25 : decode cX0_holdsWhat 25 = .ok (.invokevirtual 19, 3) := by decide +kernel
theorem dX0_holdsWhat_28 : decode cX0_holdsWhat 28 = .ok (.aload_n 1, 1) := by decide +kernel
theorem dX0_holdsWhat_29 : decode cX0_holdsWhat 29 = .ok (.iload_n 2, 1) := by decide +kernel
theorem dX0_holdsWhat_30 : decode cX0_holdsWhat 30 = .ok (.invokevirtual 19, 3) := by decide +kernel
theorem dX0_holdsWhat_33 : decode cX0_holdsWhat 33 = .ok (.if_icmp .eq 5, 3) := by decide +kernel
theorem dX0_holdsWhat_36 : decode cX0_holdsWhat 36 = .ok (.iconst 0, 1) := by decide +kernel
theorem dX0_holdsWhat_37 : decode cX0_holdsWhat 37 = .ok (.ireturn, 1) := by decide +kernel
theorem dX0_holdsWhat_38 : decode cX0_holdsWhat 38 = .ok (.iinc 2 1, 3) := by decide +kernel
theorem dX0_holdsWhat_41 : decode cX0_holdsWhat 41 = .ok (.goto (-26), 3) := by decide +kernel
theorem dX0_holdsWhat_44 : decode cX0_holdsWhat 44 = .ok (.iconst 1, 1) := by decide +kernel
theorem dX0_holdsWhat_45 : decode cX0_holdsWhat 45 = .ok (.ireturn, 1) := by decide +kernel
theorem dX1_init_0 : decode cX1_init 0 = .ok (.aload_n 0, 1) := by decide +kernel
theorem dX1_init_1 : decode cX1_init 1 = .ok (.invokespecial 3, 3) := by decide +kernel
theorem dX1_init_4 : decode cX1_init 4 = .ok (.aload_n 0, 1) := by decide +kernel
theorem dX1_init_5 : decode cX1_init 5 = .ok (.aload_n 1, 1) := by decide +kernel
theorem dX1_init_6 : decode cX1_init 6 = .ok (.putfield 9, 3) := by decide +kernel
theorem dX1_init_9 : decode cX1_init 9 = .ok (.aload_n 0, 1) := by decide +kernel
theorem dX1_init_10 : decode cX1_init 10 = .ok (.iconst 0, 1) := by decide +kernel
theorem dX1_init_11 : decode cX1_init 11 = .ok (.putfield 15, 3) := by decide +kernel
theorem dX1_init_14 : decode cX1_init 14 = .ok (.return_, 1) := by decide +kernel
theorem dX1_empty_0 : decode cX1_empty 0 = .ok (.aload_n 0, 1) := by decide +kernel
theorem dX1_empty_1 : decode cX1_empty 1 = .ok (.iconst 0, 1) := by decide +kernel
theorem dX1_empty_2 : decode cX1_empty 2 = .ok (.putfield 15, 3) := by decide +kernel
theorem dX1_empty_5 : decode cX1_empty 5 = .ok (.return_, 1) := by decide +kernel
theorem dX1_add_0 : decode cX1_add 0 = .ok (.aload_n 0, 1) := by decide +kernel
theorem dX1_add_1 : decode cX1_add 1 = .ok (.getfield 15, 3) := by decide +kernel
theorem dX1_add_4 : decode cX1_add 4 = .ok (.aload_n 0, 1) := by decide +kernel
theorem dX1_add_5 : decode cX1_add 5 = .ok (.getfield 9, 3) := by decide +kernel
theorem dX1_add_8 : decode cX1_add 8 = .ok (.arraylength, 1) := by decide +kernel
theorem dX1_add_9 : decode cX1_add 9 = .ok (.if_icmp .ge 24, 3) := by decide +kernel
theorem dX1_add_12 : decode cX1_add 12 = .ok (.aload_n 0, 1) := by decide +kernel
theorem dX1_add_13 : decode cX1_add 13 = .ok (.getfield 9, 3) := by decide +kernel
theorem dX1_add_16 : decode cX1_add 16 = .ok (.aload_n 0, 1) := by decide +kernel
theorem dX1_add_17 : decode cX1_add 17 = .ok (.getfield 15, 3) := by decide +kernel
theorem dX1_add_20 : decode cX1_add 20 = .ok (.iload_n 1, 1) := by decide +kernel
theorem dX1_add_21 : decode cX1_add 21 = .ok (.i2b, 1) := by decide +kernel
theorem dX1_add_22 : decode cX1_add 22 = .ok (.bastore, 1) := by decide +kernel
theorem dX1_add_23 : decode cX1_add 23 = .ok (.aload_n 0, 1) := by decide +kernel
theorem dX1_add_24 : decode cX1_add 24 = .ok (.dup, 1) := by decide +kernel
theorem dX1_add_25 : decode cX1_add 25 = .ok (.getfield 15, 3) := by decide +kernel
theorem dX1_add_28 : decode cX1_add 28 = .ok (.iconst 1, 1) := by decide +kernel
theorem dX1_add_29 : decode cX1_add 29 = .ok (.iadd, 1) := by decide +kernel
theorem dX1_add_30 : decode cX1_add 30 = .ok (.putfield 15, 3) := by decide +kernel
theorem dX1_add_33 : decode cX1_add 33 = .ok (.return_, 1) := by decide +kernel
theorem dX1_at_0 : decode cX1_at 0 = .ok (.iload_n 1, 1) := by decide +kernel
theorem dX1_at_1 : decode cX1_at 1 = .ok (.ifCond .lt 24, 3) := by decide +kernel
theorem dX1_at_4 : decode cX1_at 4 = .ok (.iload_n 1, 1) := by decide +kernel
theorem dX1_at_5 : decode cX1_at 5 = .ok (.aload_n 0, 1) := by decide +kernel
theorem dX1_at_6 : decode cX1_at 6 = .ok (.getfield 15, 3) := by decide +kernel
theorem dX1_at_9 : decode cX1_at 9 = .ok (.if_icmp .ge 16, 3) := by decide +kernel
theorem dX1_at_12 : decode cX1_at 12 = .ok (.aload_n 0, 1) := by decide +kernel
theorem dX1_at_13 : decode cX1_at 13 = .ok (.getfield 9, 3) := by decide +kernel
theorem dX1_at_16 : decode cX1_at 16 = .ok (.iload_n 1, 1) := by decide +kernel
theorem dX1_at_17 : decode cX1_at 17 = .ok (.baload, 1) := by decide +kernel
theorem dX1_at_18 : decode cX1_at 18 = .ok (.sipush 255, 3) := by decide +kernel
theorem dX1_at_21 : decode cX1_at 21 = .ok (.iand, 1) := by decide +kernel
theorem dX1_at_22 : decode cX1_at 22 = .ok (.goto 4, 3) := by decide +kernel
theorem dX1_at_25 : decode cX1_at 25 = .ok (.iconst (-1), 1) := by decide +kernel
theorem dX1_at_26 : decode cX1_at 26 = .ok (.ireturn, 1) := by decide +kernel
set_option maxRecDepth 20000 in
theorem ggX2_init_X1_init : GoodIn wsX2_init wsX1_init := goodIn_r _ [24, 25, 2, 3, 26, 27, 35, 36] (by decide +kernel) (by decide +kernel)
set_option maxRecDepth 20000 in
theorem gX2_init_X1_init : GoodIn wsX2_init (wsX1_init) := ggX2_init_X1_init
set_option maxRecDepth 20000 in
theorem ggX2_init_X0_init : GoodIn wsX2_init wsX0_init := goodIn_r _ [30, 31, 2, 3, 32, 33, 34, 48, 49] (by decide +kernel) (by decide +kernel)
set_option maxRecDepth 20000 in
theorem gX2_init_X0_init : GoodIn wsX2_init (wsX0_init) := ggX2_init_X0_init
