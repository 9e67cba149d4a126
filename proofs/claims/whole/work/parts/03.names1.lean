theorem dX0_init_0 : decode cX0_init 0 = .ok (.aload_n 0, 1) := by decide +kernel
theorem dX0_init_1 : decode cX0_init 1 = .ok (.invokespecial 5, 3) := by decide +kernel
theorem dX0_init_4 : decode cX0_init 4 = .ok (.aload_n 0, 1) := by decide +kernel
theorem dX0_init_5 : decode cX0_init 5 = .ok (.bipush 8, 2) := by decide +kernel
theorem dX0_init_7 : decode cX0_init 7 = .ok (.newarray .int, 2) := by decide +kernel
theorem dX0_init_9 : decode cX0_init 9 = .ok (.putfield 11, 3) := by decide +kernel
theorem dX0_init_12 : decode cX0_init 12 = .ok (.aload_n 0, 1) := by decide +kernel
theorem dX0_init_13 : decode cX0_init 13 = .ok (.bipush 8, 2) := by decide +kernel
theorem dX0_init_15 : decode cX0_init 15 = .ok (.newarray .int, 2) := by decide +kernel
theorem dX0_init_17 : decode cX0_init 17 = .ok (.putfield 15, 3) := by decide +kernel
theorem dX0_init_20 : decode cX0_init 20 = .ok (.aload_n 0, 1) := by decide +kernel
theorem dX0_init_21 : decode cX0_init 21 = .ok (.bipush 16, 2) := by decide +kernel
theorem dX0_init_23 : decode cX0_init 23 = .ok (.newarray .int, 2) := by decide +kernel
theorem dX0_init_25 : decode cX0_init 25 = .ok (.putfield 18, 3) := by decide +kernel
theorem dX0_init_28 : decode cX0_init 28 = .ok (.aload_n 0, 1) := by decide +kernel
theorem dX0_init_29 : decode cX0_init 29 = .ok (.sipush 1024, 3) := by decide +kernel
theorem dX0_init_32 : decode cX0_init 32 = .ok (.newarray .int, 2) := by decide +kernel
theorem dX0_init_34 : decode cX0_init 34 = .ok (.putfield 21, 3) := by decide +kernel
theorem dX0_init_37 : decode cX0_init 37 = .ok (.aload_n 0, 1) := by decide +kernel
theorem dX0_init_38 : decode cX0_init 38 = .ok (.bipush 7, 2) := by decide +kernel
theorem dX0_init_40 : decode cX0_init 40 = .ok (.newarray .int, 2) := by decide +kernel
theorem dX0_init_42 : decode cX0_init 42 = .ok (.putfield 24, 3) := by decide +kernel
theorem dX0_init_45 : decode cX0_init 45 = .ok (.iconst 0, 1) := by decide +kernel
theorem dX0_init_46 : decode cX0_init 46 = .ok (.istore_n 1, 1) := by decide +kernel
theorem dX0_init_47 : decode cX0_init 47 = .ok (.iload_n 1, 1) := by decide +kernel
theorem dX0_init_48 : decode cX0_init 48 = .ok (.aload_n 0, 1) := by decide +kernel
theorem dX0_init_49 : decode cX0_init 49 = .ok (.getfield 18, 3) := by decide +kernel
theorem dX0_init_52 : decode cX0_init 52 = .ok (.arraylength, 1) := by decide +kernel
theorem dX0_init_53 : decode cX0_init 53 = .ok (.if_icmp .ge 30, 3) := by decide +kernel
theorem dX0_init_56 : decode cX0_init 56 = .ok (.aload_n 0, 1) := by decide +kernel
theorem dX0_init_57 : decode cX0_init 57 = .ok (.getfield 18, 3) := by decide +kernel
theorem dX0_init_60 : decode cX0_init 60 = .ok (.iload_n 1, 1) := by decide +kernel
theorem dX0_init_61 : decode cX0_init 61 = .ok (.iload_n 1, 1) := by decide +kernel
theorem dX0_init_62 : decode cX0_init 62 = .ok (.iconst 4, 1) := by decide +kernel
theorem dX0_init_63 : decode cX0_init 63 = .ok (.idiv, 1) := by decide +kernel
theorem dX0_init_64 : decode cX0_init 64 = .ok (.iload_n 1, 1) := by decide +kernel
theorem dX0_init_65 : decode cX0_init 65 = .ok (.iconst 4, 1) := by decide +kernel
theorem dX0_init_66 : decode cX0_init 66 = .ok (.irem, 1) := by decide +kernel
theorem dX0_init_67 : decode cX0_init 67 = .ok (.if_icmp .ne 7, 3) := by decide +kernel
theorem dX0_init_70 : decode cX0_init 70 = .ok (.iconst 0, 1) := by decide +kernel
theorem dX0_init_71 : decode cX0_init 71 = .ok (.goto 5, 3) := by decide +kernel
theorem dX0_init_74 : decode cX0_init 74 = .ok (.bipush 10, 2) := by decide +kernel
theorem dX0_init_76 : decode cX0_init 76 = .ok (.iastore, 1) := by decide +kernel
theorem dX0_init_77 : decode cX0_init 77 = .ok (.iinc 1 1, 3) := by decide +kernel
theorem dX0_init_80 : decode cX0_init 80 = .ok (.goto (-33), 3) := by decide +kernel
theorem dX0_init_83 : decode cX0_init 83 = .ok (.return_, 1) := by decide +kernel
theorem dX0_isColour_0 : decode cX0_isColour 0 = .ok (.iload_n 0, 1) := by decide +kernel
theorem dX0_isColour_1 : decode cX0_isColour 1 = .ok (.ifCond .lt 12, 3) := by decide +kernel
theorem dX0_isColour_4 : decode cX0_isColour 4 = .ok (.iload_n 0, 1) := by decide +kernel
theorem dX0_isColour_5 : decode cX0_isColour 5 = .ok (.iconst 4, 1) := by decide +kernel
theorem dX0_isColour_6 : decode cX0_isColour 6 = .ok (.if_icmp .ge 7, 3) := by decide +kernel
theorem dX0_isColour_9 : decode cX0_isColour 9 = .ok (.iconst 1, 1) := by decide +kernel
theorem dX0_isColour_10 : decode cX0_isColour 10 = .ok (.goto 4, 3) := by decide +kernel
theorem dX0_isColour_13 : decode cX0_isColour 13 = .ok (.iconst 0, 1) := by decide +kernel
theorem dX0_isColour_14 : decode cX0_isColour 14 = .ok (.ireturn, 1) := by decide +kernel
theorem dX0_isPaper_0 : decode cX0_isPaper 0 = .ok (.iload_n 0, 1) := by decide +kernel
theorem dX0_isPaper_1 : decode cX0_isPaper 1 = .ok (.ifCond .lt 13, 3) := by decide +kernel
theorem dX0_isPaper_4 : decode cX0_isPaper 4 = .ok (.iload_n 0, 1) := by decide +kernel
theorem dX0_isPaper_5 : decode cX0_isPaper 5 = .ok (.bipush 6, 2) := by decide +kernel
theorem dX0_isPaper_7 : decode cX0_isPaper 7 = .ok (.if_icmp .ge 7, 3) := by decide +kernel
theorem dX0_isPaper_10 : decode cX0_isPaper 10 = .ok (.iconst 1, 1) := by decide +kernel
theorem dX0_isPaper_11 : decode cX0_isPaper 11 = .ok (.goto 4, 3) := by decide +kernel
theorem dX0_isPaper_14 : decode cX0_isPaper 14 = .ok (.iconst 0, 1) := by decide +kernel
theorem dX0_isPaper_15 : decode cX0_isPaper 15 = .ok (.ireturn, 1) := by decide +kernel
set_option maxRecDepth 20000 in
theorem ggX0_isWashCost_X7_within : GoodIn wsX0_isWashCost wsX7_within := goodIn_r _ [3] rfl (by decide +kernel)
set_option maxRecDepth 20000 in
theorem gX0_isWashCost_X7_within_n27 : GoodIn wsX0_isWashCost (wsX7_within) := ggX0_isWashCost_X7_within
theorem dX0_isWashCost_0 : decode cX0_isWashCost 0 = .ok (.iload_n 0, 1) := by decide +kernel
theorem dX0_isWashCost_1 : decode cX0_isWashCost 1 = .ok (.iconst 0, 1) := by decide +kernel
theorem dX0_isWashCost_2 : decode cX0_isWashCost 2 = .ok (.bipush 100, 2) := by decide +kernel
theorem dX0_isWashCost_4 : decode cX0_isWashCost 4 = .ok (.invokestatic 27, 3) := by decide +kernel
theorem dX0_isWashCost_7 : decode cX0_isWashCost 7 = .ok (.ireturn, 1) := by decide +kernel
theorem dX0_has_0 : decode cX0_has 0 = .ok (.iload_n 1, 1) := by decide +kernel
theorem dX0_has_1 : decode cX0_has 1 = .ok (.ifCond .lt 15, 3) := by decide +kernel
theorem dX0_has_4 : decode cX0_has 4 = .ok (.iload_n 1, 1) := by decide +kernel
theorem dX0_has_5 : decode cX0_has 5 = .ok (.aload_n 0, 1) := by decide +kernel
theorem dX0_has_6 : decode cX0_has 6 = .ok (.getfield 31, 3) := by decide +kernel
theorem dX0_has_9 : decode cX0_has 9 = .ok (.if_icmp .ge 7, 3) := by decide +kernel
theorem dX0_has_12 : decode cX0_has 12 = .ok (.iconst 1, 1) := by decide +kernel
theorem dX0_has_13 : decode cX0_has 13 = .ok (.goto 4, 3) := by decide +kernel
theorem dX0_has_16 : decode cX0_has 16 = .ok (.iconst 0, 1) := by decide +kernel
theorem dX0_has_17 : decode cX0_has 17 = .ok (.ireturn, 1) := by decide +kernel
theorem dX0_isFull_0 : decode cX0_isFull 0 = .ok (.aload_n 0, 1) := by decide +kernel
theorem dX0_isFull_1 : decode cX0_isFull 1 = .ok (.getfield 31, 3) := by decide +kernel
theorem dX0_isFull_4 : decode cX0_isFull 4 = .ok (.bipush 7, 2) := by decide +kernel
theorem dX0_isFull_6 : decode cX0_isFull 6 = .ok (.if_icmp .lt 7, 3) := by decide +kernel
theorem dX0_isFull_9 : decode cX0_isFull 9 = .ok (.iconst 1, 1) := by decide +kernel
theorem dX0_isFull_10 : decode cX0_isFull 10 = .ok (.goto 4, 3) := by decide +kernel
theorem dX0_isFull_13 : decode cX0_isFull 13 = .ok (.iconst 0, 1) := by decide +kernel
theorem dX0_isFull_14 : decode cX0_isFull 14 = .ok (.ireturn, 1) := by decide +kernel
theorem dX0_add_0 : decode cX0_add 0 = .ok (.aload_n 0, 1) := by decide +kernel
theorem dX0_add_1 : decode cX0_add 1 = .ok (.getfield 11, 3) := by decide +kernel
theorem dX0_add_4 : decode cX0_add 4 = .ok (.aload_n 0, 1) := by decide +kernel
theorem dX0_add_5 : decode cX0_add 5 = .ok (.getfield 31, 3) := by decide +kernel
theorem dX0_add_8 : decode cX0_add 8 = .ok (.iload_n 1, 1) := by decide +kernel
theorem dX0_add_9 : decode cX0_add 9 = .ok (.iastore, 1) := by decide +kernel
theorem dX0_add_10 : decode cX0_add 10 = .ok (.aload_n 0, 1) := by decide +kernel
theorem dX0_add_11 : decode cX0_add 11 = .ok (.getfield 15, 3) := by decide +kernel
theorem dX0_add_14 : decode cX0_add 14 = .ok (.aload_n 0, 1) := by decide +kernel
theorem dX0_add_15 : decode cX0_add 15 = .ok (.getfield 31, 3) := by decide +kernel
theorem dX0_add_18 : decode cX0_add 18 = .ok (.iload_n 2, 1) := by decide +kernel
theorem dX0_add_19 : decode cX0_add 19 = .ok (.iastore, 1) := by decide +kernel
theorem dX0_add_20 : decode cX0_add 20 = .ok (.aload_n 0, 1) := by decide +kernel
theorem dX0_add_21 : decode cX0_add 21 = .ok (.dup, 1) := by decide +kernel
theorem dX0_add_22 : decode cX0_add 22 = .ok (.getfield 31, 3) := by decide +kernel
theorem dX0_add_25 : decode cX0_add 25 = .ok (.iconst 1, 1) := by decide +kernel
theorem dX0_add_26 : decode cX0_add 26 = .ok (.iadd, 1) := by decide +kernel
theorem dX0_add_27 : decode cX0_add 27 = .ok (.putfield 31, 3) := by decide +kernel
theorem dX0_add_30 : decode cX0_add 30 = .ok (.aload_n 0, 1) := by decide +kernel
theorem dX0_add_31 : decode cX0_add 31 = .ok (.iconst 0, 1) := by decide +kernel
theorem dX0_add_32 : decode cX0_add 32 = .ok (.putfield 35, 3) := by decide +kernel
theorem dX0_add_35 : decode cX0_add 35 = .ok (.aload_n 0, 1) := by decide +kernel
theorem dX0_add_36 : decode cX0_add 36 = .ok (.getfield 31, 3) := by decide +kernel
theorem dX0_add_39 : decode cX0_add 39 = .ok (.iconst 1, 1) := by decide +kernel
theorem dX0_add_40 : decode cX0_add 40 = .ok (.isub, 1) := by decide +kernel
theorem dX0_add_41 : decode cX0_add 41 = .ok (.ireturn, 1) := by decide +kernel
theorem dX0_removeAll_0 : decode cX0_removeAll 0 = .ok (.aload_n 0, 1) := by decide +kernel
theorem dX0_removeAll_1 : decode cX0_removeAll 1 = .ok (.getfield 31, 3) := by decide +kernel
theorem dX0_removeAll_4 : decode cX0_removeAll 4 = .ok (.istore_n 1, 1) := by decide +kernel
theorem dX0_removeAll_5 : decode cX0_removeAll 5 = .ok (.aload_n 0, 1) := by decide +kernel
theorem dX0_removeAll_6 : decode cX0_removeAll 6 = .ok (.iconst 0, 1) := by decide +kernel
theorem dX0_removeAll_7 : decode cX0_removeAll 7 = .ok (.putfield 31, 3) := by decide +kernel
theorem dX0_removeAll_10 : decode cX0_removeAll 10 = .ok (.aload_n 0, 1) := by decide +kernel
theorem dX0_removeAll_11 : decode cX0_removeAll 11 = .ok (.iconst 0, 1) := by decide +kernel
theorem dX0_removeAll_12 : decode cX0_removeAll 12 = .ok (.putfield 35, 3) := by decide +kernel
theorem dX0_removeAll_15 : decode cX0_removeAll 15 = .ok (.iload_n 1, 1) := by decide +kernel
theorem dX0_removeAll_16 : decode cX0_removeAll 16 = .ok (.ireturn, 1) := by decide +kernel
theorem dX0_changeWash_0 : decode cX0_changeWash 0 = .ok (.iload_n 1, 1) := by decide +kernel
theorem dX0_changeWash_1 : decode cX0_changeWash 1 = .ok (.iconst 4, 1) := by decide +kernel
theorem dX0_changeWash_2 : decode cX0_changeWash 2 = .ok (.imul, 1) := by decide +kernel
theorem dX0_changeWash_3 : decode cX0_changeWash 3 = .ok (.iload_n 2, 1) := by decide +kernel
theorem dX0_changeWash_4 : decode cX0_changeWash 4 = .ok (.iadd, 1) := by decide +kernel
theorem dX0_changeWash_5 : decode cX0_changeWash 5 = .ok (.istore 4, 2) := by decide +kernel
theorem dX0_changeWash_7 : decode cX0_changeWash 7 = .ok (.aload_n 0, 1) := by decide +kernel
theorem dX0_changeWash_8 : decode cX0_changeWash 8 = .ok (.getfield 18, 3) := by decide +kernel
theorem dX0_changeWash_11 : decode cX0_changeWash 11 = .ok (.iload 4, 2) := by decide +kernel
theorem dX0_changeWash_13 : decode cX0_changeWash 13 = .ok (.iaload, 1) := by decide +kernel
theorem dX0_changeWash_14 : decode cX0_changeWash 14 = .ok (.istore 5, 2) := by decide +kernel
theorem dX0_changeWash_16 : decode cX0_changeWash 16 = .ok (.aload_n 0, 1) := by decide +kernel
theorem dX0_changeWash_17 : decode cX0_changeWash 17 = .ok (.getfield 18, 3) := by decide +kernel
theorem dX0_changeWash_20 : decode cX0_changeWash 20 = .ok (.iload 4, 2) := by decide +kernel
theorem dX0_changeWash_22 : decode cX0_changeWash 22 = .ok (.iload_n 3, 1) := by decide +kernel
theorem dX0_changeWash_23 : decode cX0_changeWash 23 = .ok (.iastore, 1) := by decide +kernel
theorem dX0_changeWash_24 : decode cX0_changeWash 24 = .ok (.aload_n 0, 1) := by decide +kernel
theorem dX0_changeWash_25 : decode cX0_changeWash 25 = .ok (.iconst 0, 1) := by decide +kernel
theorem dX0_changeWash_26 : decode cX0_changeWash 26 = .ok (.putfield 35, 3) := by decide +kernel
theorem dX0_changeWash_29 : decode cX0_changeWash 29 = .ok (.iload 5, 2) := by decide +kernel
theorem dX0_changeWash_31 : decode cX0_changeWash 31 = .ok (.ireturn, 1) := by decide +kernel
set_option maxRecDepth 20000 in
theorem ggX0_leastCosts_X0_plan : GoodIn wsX0_leastCosts wsX0_plan := goodIn_r _ [6, 7, 8, 9, 10, 5, 11, 12, 13, 14, 15, 1, 16, 17, 18, 19, 20, 21, 22, 23, 24, 25, 26, 27, 28, 29, 30, 31, 32, 33, 34, 35, 36, 37, 38] rfl (by decide +kernel)
set_option maxRecDepth 20000 in
theorem gX0_leastCosts_X0_plan : GoodIn wsX0_leastCosts (wsV RX0 39 RX0 yX0_plan wsX0_plan) := goodIn_app (goodIn_of _ (by decide +kernel)) ggX0_leastCosts_X0_plan
theorem dX0_leastCosts_0 : decode cX0_leastCosts 0 = .ok (.aload_n 0, 1) := by decide +kernel
theorem dX0_leastCosts_1 : decode cX0_leastCosts 1 = .ok (.invokevirtual 39, 3) := by decide +kernel
theorem dX0_leastCosts_4 : decode cX0_leastCosts 4 = .ok (.aload_n 0, 1) := by decide +kernel
theorem dX0_leastCosts_5 : decode cX0_leastCosts 5 = .ok (.getfield 21, 3) := by decide +kernel
theorem dX0_leastCosts_8 : decode cX0_leastCosts 8 = .ok (.bipush 7, 2) := by decide +kernel
theorem dX0_leastCosts_10 : decode cX0_leastCosts 10 = .ok (.iaload, 1) := by decide +kernel
theorem dX0_leastCosts_11 : decode cX0_leastCosts 11 = .ok (.ireturn, 1) := by decide +kernel
set_option maxRecDepth 20000 in
theorem ggX0_inOrder_X0_plan : GoodIn wsX0_inOrder wsX0_plan := goodIn_r _ [6, 7, 8, 9, 10, 5, 11, 12, 13, 14, 15, 16, 17, 18, 19, 20, 21, 22, 23, 24, 25, 26, 27, 28, 29, 30, 31, 1, 32, 33, 34, 35, 36, 37, 38] rfl (by decide +kernel)
set_option maxRecDepth 20000 in
theorem gX0_inOrder_X0_plan : GoodIn wsX0_inOrder (wsV RX0 39 RX0 yX0_plan wsX0_plan) := goodIn_app (goodIn_of _ (by decide +kernel)) ggX0_inOrder_X0_plan
theorem dX0_inOrder_0 : decode cX0_inOrder 0 = .ok (.aload_n 0, 1) := by decide +kernel
theorem dX0_inOrder_1 : decode cX0_inOrder 1 = .ok (.invokevirtual 39, 3) := by decide +kernel
theorem dX0_inOrder_4 : decode cX0_inOrder 4 = .ok (.aload_n 0, 1) := by decide +kernel
theorem dX0_inOrder_5 : decode cX0_inOrder 5 = .ok (.getfield 24, 3) := by decide +kernel
theorem dX0_inOrder_8 : decode cX0_inOrder 8 = .ok (.iload_n 1, 1) := by decide +kernel
theorem dX0_inOrder_9 : decode cX0_inOrder 9 = .ok (.iaload, 1) := by decide +kernel
theorem dX0_inOrder_10 : decode cX0_inOrder 10 = .ok (.ireturn, 1) := by decide +kernel
set_option maxRecDepth 20000 in
theorem ggX0_plan_X0_holds : GoodIn wsX0_plan wsX0_holds := goodIn_r _ [6] rfl (by decide +kernel)
set_option maxRecDepth 20000 in
theorem gX0_plan_X0_holds : GoodIn wsX0_plan (va_wsS RX0 42 yX0_holds wsX0_holds) := goodIn_app (goodIn_of _ (by decide +kernel)) ggX0_plan_X0_holds
set_option maxRecDepth 20000 in
theorem ggX0_plan_X0_weigh : GoodIn wsX0_plan wsX0_weigh := goodIn_r _ [10, 11, 12, 13, 14, 5, 15, 2, 3, 4, 6, 16, 17, 18, 19, 20, 21, 22, 28, 29, 30, 31, 32, 33, 34] rfl (by decide +kernel)
set_option maxRecDepth 20000 in
theorem gX0_plan_X0_weigh : GoodIn wsX0_plan (wsV RX0 46 RX0 yX0_weigh wsX0_weigh) := goodIn_app (goodIn_of _ (by decide +kernel)) ggX0_plan_X0_weigh
set_option maxRecDepth 20000 in
theorem ggX0_plan_X0_walk : GoodIn wsX0_plan wsX0_walk := goodIn_r _ [26, 2, 27, 12, 13, 14, 5, 15, 3, 4, 6, 16, 17, 18, 19, 20, 21, 22, 11, 28, 29, 30, 31, 32, 33, 34] rfl (by decide +kernel)
set_option maxRecDepth 20000 in
theorem gX0_plan_X0_walk : GoodIn wsX0_plan (wsV RX0 50 RX0 yX0_walk wsX0_walk) := goodIn_app (goodIn_of _ (by decide +kernel)) ggX0_plan_X0_walk
theorem dX0_plan_0 : decode cX0_plan 0 = .ok (.aload_n 0, 1) := by decide +kernel
theorem dX0_plan_1 : decode cX0_plan 1 = .ok (.getfield 35, 3) := by decide +kernel
theorem dX0_plan_4 : decode cX0_plan 4 = .ok (.ifCond .eq 4, 3) := by decide +kernel
theorem dX0_plan_7 : decode cX0_plan 7 = .ok (.return_, 1) := by decide +kernel
theorem dX0_plan_8 : decode cX0_plan 8 = .ok (.iconst 1, 1) := by decide +kernel
theorem dX0_plan_9 : decode cX0_plan 9 = .ok (.aload_n 0, 1) := by decide +kernel
theorem dX0_plan_10 : decode cX0_plan 10 = .ok (.getfield 31, 3) := by decide +kernel
theorem dX0_plan_13 : decode cX0_plan 13 = .ok (.ishl, 1) := by decide +kernel
theorem dX0_plan_14 : decode cX0_plan 14 = .ok (.iconst 1, 1) := by decide +kernel
theorem dX0_plan_15 : decode cX0_plan 15 = .ok (.isub, 1) := by decide +kernel
theorem dX0_plan_16 : decode cX0_plan 16 = .ok (.istore_n 1, 1) := by decide +kernel
theorem dX0_plan_17 : decode cX0_plan 17 = .ok (.iload_n 1, 1) := by decide +kernel
theorem dX0_plan_18 : decode cX0_plan 18 = .ok (.ifCond .le 39, 3) := by decide +kernel
theorem dX0_plan_21 : decode cX0_plan 21 = .ok (.iconst 0, 1) := by decide +kernel
theorem dX0_plan_22 : decode cX0_plan 22 = .ok (.istore_n 2, 1) := by decide +kernel
theorem dX0_plan_23 : decode cX0_plan 23 = .ok (.iload_n 2, 1) := by decide +kernel
theorem dX0_plan_24 : decode cX0_plan 24 = .ok (.aload_n 0, 1) := by decide +kernel
theorem dX0_plan_25 : decode cX0_plan 25 = .ok (.getfield 31, 3) := by decide +kernel
theorem dX0_plan_28 : decode cX0_plan 28 = .ok (.if_icmp .ge 23, 3) := by decide +kernel
theorem dX0_plan_31 : decode cX0_plan 31 = .ok (.iload_n 1, 1) := by decide +kernel
theorem dX0_plan_32 : decode cX0_plan 32 = .ok (.iload_n 2, 1) := by decide +kernel
theorem dX0_plan_33 : decode cX0_plan 33 = .ok (.invokestatic 42, 3) := by decide +kernel
theorem dX0_plan_36 : decode cX0_plan 36 = .ok (.ifCond .eq 9, 3) := by decide +kernel
theorem dX0_plan_39 : decode cX0_plan 39 = .ok (.aload_n 0, 1) := by decide +kernel
theorem dX0_plan_40 : decode cX0_plan 40 = .ok (.iload_n 1, 1) := by decide +kernel
theorem dX0_plan_41 : decode cX0_plan 41 = .ok (.iload_n 2, 1) := by decide +kernel
theorem dX0_plan_42 : decode cX0_plan 42 = .ok (.invokevirtual 46, 3) := by decide +kernel
theorem dX0_plan_45 : decode cX0_plan 45 = .ok (.iinc 2 1, 3) := by decide +kernel
theorem dX0_plan_48 : decode cX0_plan 48 = .ok (.goto (-25), 3) := by decide +kernel
theorem dX0_plan_51 : decode cX0_plan 51 = .ok (.iinc 1 (-1), 3) := by decide +kernel
theorem dX0_plan_54 : decode cX0_plan 54 = .ok (.goto (-37), 3) := by decide +kernel
theorem dX0_plan_57 : decode cX0_plan 57 = .ok (.aload_n 0, 1) := by decide +kernel
theorem dX0_plan_58 : decode cX0_plan 58 = .ok (.iconst 0, 1) := by decide +kernel
theorem dX0_plan_59 : decode cX0_plan 59 = .ok (.bipush 7, 2) := by decide +kernel
theorem dX0_plan_61 : decode cX0_plan 61 = .ok (.invokevirtual 46, 3) := by decide +kernel
theorem dX0_plan_64 : decode cX0_plan 64 = .ok (.aload_n 0, 1) := by decide +kernel
theorem dX0_plan_65 : decode cX0_plan 65 = .ok (.invokevirtual 50, 3) := by decide +kernel
theorem dX0_plan_68 : decode cX0_plan 68 = .ok (.aload_n 0, 1) := by decide +kernel
theorem dX0_plan_69 : decode cX0_plan 69 = .ok (.iconst 1, 1) := by decide +kernel
theorem dX0_plan_70 : decode cX0_plan 70 = .ok (.putfield 35, 3) := by decide +kernel
theorem dX0_plan_73 : decode cX0_plan 73 = .ok (.return_, 1) := by decide +kernel
set_option maxRecDepth 20000 in
theorem ggX0_weigh_X0_bestNext : GoodIn wsX0_weigh wsX0_bestNext := goodIn_r _ [6, 7, 8, 9, 5, 10, 11, 12, 13, 14, 15, 16, 17, 1, 18, 19, 20, 21, 22, 23, 24] rfl (by decide +kernel)
set_option maxRecDepth 20000 in
theorem gX0_weigh_X0_bestNext : GoodIn wsX0_weigh (wsV RX0 53 RX0 yX0_bestNext wsX0_bestNext) := goodIn_app (goodIn_of _ (by decide +kernel)) ggX0_weigh_X0_bestNext
set_option maxRecDepth 20000 in
theorem ggX0_weigh_X0_costsBy : GoodIn wsX0_weigh wsX0_costsBy := goodIn_r _ [14, 15, 16, 17, 1, 18, 19, 20, 21, 22, 23, 24] rfl (by decide +kernel)
set_option maxRecDepth 20000 in
theorem gX0_weigh_X0_costsBy : GoodIn wsX0_weigh (wsV RX0 57 RX0 yX0_costsBy wsX0_costsBy) := goodIn_app (goodIn_of _ (by decide +kernel)) ggX0_weigh_X0_costsBy
theorem dX0_weigh_0 : decode cX0_weigh 0 = .ok (.aload_n 0, 1) := by decide +kernel
theorem dX0_weigh_1 : decode cX0_weigh 1 = .ok (.iload_n 1, 1) := by decide +kernel
theorem dX0_weigh_2 : decode cX0_weigh 2 = .ok (.iload_n 2, 1) := by decide +kernel
theorem dX0_weigh_3 : decode cX0_weigh 3 = .ok (.invokevirtual 53, 3) := by decide +kernel
theorem dX0_weigh_6 : decode cX0_weigh 6 = .ok (.istore_n 3, 1) := by decide +kernel
theorem dX0_weigh_7 : decode cX0_weigh 7 = .ok (.aload_n 0, 1) := by decide +kernel
theorem dX0_weigh_8 : decode cX0_weigh 8 = .ok (.getfield 21, 3) := by decide +kernel
theorem dX0_weigh_11 : decode cX0_weigh 11 = .ok (.iload_n 1, 1) := by decide +kernel
theorem dX0_weigh_12 : decode cX0_weigh 12 = .ok (.bipush 8, 2) := by decide +kernel
theorem dX0_weigh_14 : decode cX0_weigh 14 = .ok (.imul, 1) := by decide +kernel
theorem dX0_weigh_15 : decode cX0_weigh 15 = .ok (.iload_n 2, 1) := by decide +kernel
theorem dX0_weigh_16 : decode cX0_weigh 16 = .ok (.iadd, 1) := by decide +kernel
theorem dX0_weigh_17 : decode cX0_weigh 17 = .ok (.iload_n 3, 1) := by decide +kernel
theorem dX0_weigh_18 : decode cX0_weigh 18 = .ok (.bipush (-6), 2) := by decide +kernel
theorem dX0_weigh_20 : decode cX0_weigh 20 = .ok (.if_icmp .ne 7, 3) := by decide +kernel
theorem dX0_weigh_23 : decode cX0_weigh 23 = .ok (.iconst 0, 1) := by decide +kernel
theorem dX0_weigh_24 : decode cX0_weigh 24 = .ok (.goto 10, 3) := by decide +kernel
theorem dX0_weigh_27 : decode cX0_weigh 27 = .ok (.aload_n 0, 1) := by decide +kernel
theorem dX0_weigh_28 : decode cX0_weigh 28 = .ok (.iload_n 1, 1) := by decide +kernel
theorem dX0_weigh_29 : decode cX0_weigh 29 = .ok (.iload_n 2, 1) := by decide +kernel
theorem dX0_weigh_30 : decode cX0_weigh 30 = .ok (.iload_n 3, 1) := by decide +kernel
theorem dX0_weigh_31 : decode cX0_weigh 31 = .ok (.invokevirtual 57, 3) := by decide +kernel
theorem dX0_weigh_34 : decode cX0_weigh 34 = .ok (.iastore, 1) := by decide +kernel
theorem dX0_weigh_35 : decode cX0_weigh 35 = .ok (.return_, 1) := by decide +kernel
set_option maxRecDepth 20000 in
theorem ggX0_walk_X0_bestNext : GoodIn wsX0_walk wsX0_bestNext := goodIn_r _ [7, 1, 8, 9, 6, 10, 11, 12, 13, 14, 15, 16, 17, 18, 19, 20, 21, 22, 23, 24, 25] rfl (by decide +kernel)
set_option maxRecDepth 20000 in
theorem gX0_walk_X0_bestNext : GoodIn wsX0_walk (wsV RX0 53 RX0 yX0_bestNext wsX0_bestNext) := goodIn_app (goodIn_of _ (by decide +kernel)) ggX0_walk_X0_bestNext
theorem dX0_walk_0 : decode cX0_walk 0 = .ok (.iconst 0, 1) := by decide +kernel
theorem dX0_walk_1 : decode cX0_walk 1 = .ok (.istore_n 1, 1) := by decide +kernel
theorem dX0_walk_2 : decode cX0_walk 2 = .ok (.bipush 7, 2) := by decide +kernel
theorem dX0_walk_4 : decode cX0_walk 4 = .ok (.istore_n 2, 1) := by decide +kernel
theorem dX0_walk_5 : decode cX0_walk 5 = .ok (.iconst 0, 1) := by decide +kernel
theorem dX0_walk_6 : decode cX0_walk 6 = .ok (.istore_n 3, 1) := by decide +kernel
theorem dX0_walk_7 : decode cX0_walk 7 = .ok (.iload_n 3, 1) := by decide +kernel
theorem dX0_walk_8 : decode cX0_walk 8 = .ok (.aload_n 0, 1) := by decide +kernel
theorem dX0_walk_9 : decode cX0_walk 9 = .ok (.getfield 31, 3) := by decide +kernel
theorem dX0_walk_12 : decode cX0_walk 12 = .ok (.if_icmp .ge 43, 3) := by decide +kernel
theorem dX0_walk_15 : decode cX0_walk 15 = .ok (.aload_n 0, 1) := by decide +kernel
theorem dX0_walk_16 : decode cX0_walk 16 = .ok (.iload_n 1, 1) := by decide +kernel
theorem dX0_walk_17 : decode cX0_walk 17 = .ok (.iload_n 2, 1) := by decide +kernel
theorem dX0_walk_18 : decode cX0_walk 18 = .ok (.invokevirtual 53, 3) := by decide +kernel
theorem dX0_walk_21 : decode cX0_walk 21 = .ok (.istore 4, 2) := by decide +kernel
theorem dX0_walk_23 : decode cX0_walk 23 = .ok (.iload 4, 2) := by decide +kernel
theorem dX0_walk_25 : decode cX0_walk 25 = .ok (.bipush (-6), 2) := by decide +kernel
theorem dX0_walk_27 : decode cX0_walk 27 = .ok (.if_icmp .ne 4, 3) := by decide +kernel
theorem dX0_walk_30 : decode cX0_walk 30 = .ok (.return_, 1) := by decide +kernel
theorem dX0_walk_31 : decode cX0_walk 31 = .ok (.aload_n 0, 1) := by decide +kernel
theorem dX0_walk_32 : decode cX0_walk 32 = .ok (.getfield 24, 3) := by decide +kernel
theorem dX0_walk_35 : decode cX0_walk 35 = .ok (.iload_n 3, 1) := by decide +kernel
theorem dX0_walk_36 : decode cX0_walk 36 = .ok (.iload 4, 2) := by decide +kernel
theorem dX0_walk_38 : decode cX0_walk 38 = .ok (.iastore, 1) := by decide +kernel
theorem dX0_walk_39 : decode cX0_walk 39 = .ok (.iload_n 1, 1) := by decide +kernel
theorem dX0_walk_40 : decode cX0_walk 40 = .ok (.iconst 1, 1) := by decide +kernel
theorem dX0_walk_41 : decode cX0_walk 41 = .ok (.iload 4, 2) := by decide +kernel
theorem dX0_walk_43 : decode cX0_walk 43 = .ok (.ishl, 1) := by decide +kernel
theorem dX0_walk_44 : decode cX0_walk 44 = .ok (.ior, 1) := by decide +kernel
theorem dX0_walk_45 : decode cX0_walk 45 = .ok (.istore_n 1, 1) := by decide +kernel
theorem dX0_walk_46 : decode cX0_walk 46 = .ok (.iload 4, 2) := by decide +kernel
theorem dX0_walk_48 : decode cX0_walk 48 = .ok (.istore_n 2, 1) := by decide +kernel
theorem dX0_walk_49 : decode cX0_walk 49 = .ok (.iinc 3 1, 3) := by decide +kernel
theorem dX0_walk_52 : decode cX0_walk 52 = .ok (.goto (-45), 3) := by decide +kernel
theorem dX0_walk_55 : decode cX0_walk 55 = .ok (.return_, 1) := by decide +kernel
set_option maxRecDepth 20000 in
theorem ggX0_bestNext_X0_holds : GoodIn wsX0_bestNext wsX0_holds := goodIn_r _ [5] rfl (by decide +kernel)
set_option maxRecDepth 20000 in
theorem gX0_bestNext_X0_holds : GoodIn wsX0_bestNext (va_wsS RX0 42 yX0_holds wsX0_holds) := goodIn_app (goodIn_of _ (by decide +kernel)) ggX0_bestNext_X0_holds
set_option maxRecDepth 20000 in
theorem ggX0_bestNext_X0_costsBy : GoodIn wsX0_bestNext wsX0_costsBy := goodIn_r _ [9, 10, 11, 12, 13, 14, 15, 16, 17, 18, 19, 20] rfl (by decide +kernel)
set_option maxRecDepth 20000 in
theorem gX0_bestNext_X0_costsBy : GoodIn wsX0_bestNext (wsV RX0 57 RX0 yX0_costsBy wsX0_costsBy) := goodIn_app (goodIn_of _ (by decide +kernel)) ggX0_bestNext_X0_costsBy
theorem dX0_bestNext_0 : decode cX0_bestNext 0 = .ok (.bipush (-6), 2) := by decide +kernel
theorem dX0_bestNext_2 : decode cX0_bestNext 2 = .ok (.istore_n 3, 1) := by decide +kernel
theorem dX0_bestNext_3 : decode cX0_bestNext 3 = .ok (.iconst 0, 1) := by decide +kernel
theorem dX0_bestNext_4 : decode cX0_bestNext 4 = .ok (.istore 4, 2) := by decide +kernel
theorem dX0_bestNext_6 : decode cX0_bestNext 6 = .ok (.iconst 0, 1) := by decide +kernel
theorem dX0_bestNext_7 : decode cX0_bestNext 7 = .ok (.istore 5, 2) := by decide +kernel
theorem dX0_bestNext_9 : decode cX0_bestNext 9 = .ok (.iload 5, 2) := by decide +kernel
theorem dX0_bestNext_11 : decode cX0_bestNext 11 = .ok (.aload_n 0, 1) := by decide +kernel
theorem dX0_bestNext_12 : decode cX0_bestNext 12 = .ok (.getfield 31, 3) := by decide +kernel
theorem dX0_bestNext_15 : decode cX0_bestNext 15 = .ok (.if_icmp .ge 48, 3) := by decide +kernel
theorem dX0_bestNext_18 : decode cX0_bestNext 18 = .ok (.iload_n 1, 1) := by decide +kernel
theorem dX0_bestNext_19 : decode cX0_bestNext 19 = .ok (.iload 5, 2) := by decide +kernel
theorem dX0_bestNext_21 : decode cX0_bestNext 21 = .ok (.invokestatic 42, 3) := by decide +kernel
theorem dX0_bestNext_24 : decode cX0_bestNext 24 = .ok (.ifCond .ne 33, 3) := by decide +kernel
theorem dX0_bestNext_27 : decode cX0_bestNext 27 = .ok (.aload_n 0, 1) := by decide +kernel
theorem dX0_bestNext_28 : decode cX0_bestNext 28 = .ok (.iload_n 1, 1) := by decide +kernel
theorem dX0_bestNext_29 : decode cX0_bestNext 29 = .ok (.iload_n 2, 1) := by decide +kernel
theorem dX0_bestNext_30 : decode cX0_bestNext 30 = .ok (.iload 5, 2) := by decide +kernel
theorem dX0_bestNext_32 : decode cX0_bestNext 32 = .ok (.invokevirtual 57, 3) := by decide +kernel
theorem dX0_bestNext_35 : decode cX0_bestNext 35 = .ok (.istore 6, 2) := by decide +kernel
theorem dX0_bestNext_37 : decode cX0_bestNext 37 = .ok (.iload_n 3, 1) := by decide +kernel
theorem dX0_bestNext_38 : decode cX0_bestNext 38 = .ok (.bipush (-6), 2) := by decide +kernel
theorem dX0_bestNext_40 : decode cX0_bestNext 40 = .ok (.if_icmp .eq 10, 3) := by decide +kernel
theorem dX0_bestNext_43 : decode cX0_bestNext 43 = .ok (.iload 6, 2) := by decide +kernel
theorem dX0_bestNext_45 : decode cX0_bestNext 45 = .ok (.iload 4, 2) := by decide +kernel
theorem dX0_bestNext_47 : decode cX0_bestNext 47 = .ok (.if_icmp .ge 10, 3) := by decide +kernel
theorem dX0_bestNext_50 : decode cX0_bestNext 50 = .ok (.iload 5, 2) := by decide +kernel
theorem dX0_bestNext_52 : decode cX0_bestNext 52 = .ok (.istore_n 3, 1) := by decide +kernel
theorem dX0_bestNext_53 : decode cX0_bestNext 53 = .ok (.iload 6, 2) := by decide +kernel
theorem dX0_bestNext_55 : decode cX0_bestNext 55 = .ok (.istore 4, 2) := by decide +kernel
theorem dX0_bestNext_57 : decode cX0_bestNext 57 = .ok (.iinc 5 1, 3) := by decide +kernel
theorem dX0_bestNext_60 : decode cX0_bestNext 60 = .ok (.goto (-51), 3) := by decide +kernel
theorem dX0_bestNext_63 : decode cX0_bestNext 63 = .ok (.iload_n 3, 1) := by decide +kernel
theorem dX0_bestNext_64 : decode cX0_bestNext 64 = .ok (.ireturn, 1) := by decide +kernel
theorem dX0_costsBy_0 : decode cX0_costsBy 0 = .ok (.aload_n 0, 1) := by decide +kernel
theorem dX0_costsBy_1 : decode cX0_costsBy 1 = .ok (.getfield 18, 3) := by decide +kernel
theorem dX0_costsBy_4 : decode cX0_costsBy 4 = .ok (.aload_n 0, 1) := by decide +kernel
theorem dX0_costsBy_5 : decode cX0_costsBy 5 = .ok (.getfield 11, 3) := by decide +kernel
theorem dX0_costsBy_8 : decode cX0_costsBy 8 = .ok (.iload_n 2, 1) := by decide +kernel
theorem dX0_costsBy_9 : decode cX0_costsBy 9 = .ok (.iaload, 1) := by decide +kernel
theorem dX0_costsBy_10 : decode cX0_costsBy 10 = .ok (.iconst 4, 1) := by decide +kernel
theorem dX0_costsBy_11 : decode cX0_costsBy 11 = .ok (.imul, 1) := by decide +kernel
theorem dX0_costsBy_12 : decode cX0_costsBy 12 = .ok (.aload_n 0, 1) := by decide +kernel
theorem dX0_costsBy_13 : decode cX0_costsBy 13 = .ok (.getfield 11, 3) := by decide +kernel
theorem dX0_costsBy_16 : decode cX0_costsBy 16 = .ok (.iload_n 3, 1) := by decide +kernel
theorem dX0_costsBy_17 : decode cX0_costsBy 17 = .ok (.iaload, 1) := by decide +kernel
theorem dX0_costsBy_18 : decode cX0_costsBy 18 = .ok (.iadd, 1) := by decide +kernel
theorem dX0_costsBy_19 : decode cX0_costsBy 19 = .ok (.iaload, 1) := by decide +kernel
theorem dX0_costsBy_20 : decode cX0_costsBy 20 = .ok (.istore 4, 2) := by decide +kernel
theorem dX0_costsBy_22 : decode cX0_costsBy 22 = .ok (.aload_n 0, 1) := by decide +kernel
theorem dX0_costsBy_23 : decode cX0_costsBy 23 = .ok (.getfield 15, 3) := by decide +kernel
theorem dX0_costsBy_26 : decode cX0_costsBy 26 = .ok (.iload_n 2, 1) := by decide +kernel
theorem dX0_costsBy_27 : decode cX0_costsBy 27 = .ok (.iaload, 1) := by decide +kernel
theorem dX0_costsBy_28 : decode cX0_costsBy 28 = .ok (.aload_n 0, 1) := by decide +kernel
theorem dX0_costsBy_29 : decode cX0_costsBy 29 = .ok (.getfield 15, 3) := by decide +kernel
theorem dX0_costsBy_32 : decode cX0_costsBy 32 = .ok (.iload_n 3, 1) := by decide +kernel
theorem dX0_costsBy_33 : decode cX0_costsBy 33 = .ok (.iaload, 1) := by decide +kernel
theorem dX0_costsBy_34 : decode cX0_costsBy 34 = .ok (.if_icmp .ne 7, 3) := by decide +kernel
theorem dX0_costsBy_37 : decode cX0_costsBy 37 = .ok (.iconst 0, 1) := by decide +kernel
theorem dX0_costsBy_38 : decode cX0_costsBy 38 = .ok (.goto 4, 3) := by decide +kernel
theorem dX0_costsBy_41 : decode cX0_costsBy 41 = .ok (.iconst 5, 1) := by decide +kernel
theorem dX0_costsBy_42 : decode cX0_costsBy 42 = .ok (.istore 5, 2) := by decide +kernel
theorem dX0_costsBy_44 : decode cX0_costsBy 44 = .ok (.iload 4, 2) := by decide +kernel
theorem dX0_costsBy_46 : decode cX0_costsBy 46 = .ok (.iload 5, 2) := by decide +kernel
theorem dX0_costsBy_48 : decode cX0_costsBy 48 = .ok (.iadd, 1) := by decide +kernel
theorem dX0_costsBy_49 : decode cX0_costsBy 49 = .ok (.aload_n 0, 1) := by decide +kernel
theorem dX0_costsBy_50 : decode cX0_costsBy 50 = .ok (.getfield 21, 3) := by decide +kernel
theorem dX0_costsBy_53 : decode cX0_costsBy 53 = .ok (.iload_n 1, 1) := by decide +kernel
theorem dX0_costsBy_54 : decode cX0_costsBy 54 = .ok (.iconst 1, 1) := by decide +kernel
theorem dX0_costsBy_55 : decode cX0_costsBy 55 = .ok (.iload_n 3, 1) := by decide +kernel
theorem dX0_costsBy_56 : decode cX0_costsBy 56 = .ok (.ishl, 1) := by decide +kernel
theorem dX0_costsBy_57 : decode cX0_costsBy 57 = .ok (.ior, 1) := by decide +kernel
theorem dX0_costsBy_58 : decode cX0_costsBy 58 = .ok (.bipush 8, 2) := by decide +kernel
theorem dX0_costsBy_60 : decode cX0_costsBy 60 = .ok (.imul, 1) := by decide +kernel
theorem dX0_costsBy_61 : decode cX0_costsBy 61 = .ok (.iload_n 3, 1) := by decide +kernel
theorem dX0_costsBy_62 : decode cX0_costsBy 62 = .ok (.iadd, 1) := by decide +kernel
theorem dX0_costsBy_63 : decode cX0_costsBy 63 = .ok (.iaload, 1) := by decide +kernel
theorem dX0_costsBy_64 : decode cX0_costsBy 64 = .ok (.iadd, 1) := by decide +kernel
theorem dX0_costsBy_65 : decode cX0_costsBy 65 = .ok (.ireturn, 1) := by decide +kernel
theorem dX0_holds_0 : decode cX0_holds 0 = .ok (.iload_n 0, 1) := by decide +kernel
theorem dX0_holds_1 : decode cX0_holds 1 = .ok (.iload_n 1, 1) := by decide +kernel
theorem dX0_holds_2 : decode cX0_holds 2 = .ok (.ishr, 1) := by decide +kernel
theorem dX0_holds_3 : decode cX0_holds 3 = .ok (.iconst 1, 1) := by decide +kernel
theorem dX0_holds_4 : decode cX0_holds 4 = .ok (.iand, 1) := by decide +kernel
theorem dX0_holds_5 : decode cX0_holds 5 = .ok (.iconst 1, 1) := by decide +kernel
theorem dX0_holds_6 : decode cX0_holds 6 = .ok (.if_icmp .ne 7, 3) := by decide +kernel
theorem dX0_holds_9 : decode cX0_holds 9 = .ok (.iconst 1, 1) := by decide +kernel
theorem dX0_holds_10 : decode cX0_holds 10 = .ok (.goto 4, 3) := by decide +kernel
theorem dX0_holds_13 : decode cX0_holds 13 = .ok (.iconst 0, 1) := by decide +kernel
theorem dX0_holds_14 : decode cX0_holds 14 = .ok (.ireturn, 1) := by decide +kernel
theorem dX1_init_0 : decode cX1_init 0 = .ok (.aload_n 0, 1) := by decide +kernel
theorem dX1_init_1 : decode cX1_init 1 = .ok (.invokespecial 3, 3) := by decide +kernel
theorem dX1_init_4 : decode cX1_init 4 = .ok (.aload_n 0, 1) := by decide +kernel
theorem dX1_init_5 : decode cX1_init 5 = .ok (.bipush 8, 2) := by decide +kernel
theorem dX1_init_7 : decode cX1_init 7 = .ok (.newarray .int, 2) := by decide +kernel
theorem dX1_init_9 : decode cX1_init 9 = .ok (.putfield 11, 3) := by decide +kernel
theorem dX1_init_12 : decode cX1_init 12 = .ok (.aload_n 0, 1) := by decide +kernel
theorem dX1_init_13 : decode cX1_init 13 = .ok (.bipush 8, 2) := by decide +kernel
theorem dX1_init_15 : decode cX1_init 15 = .ok (.newarray .int, 2) := by decide +kernel
theorem dX1_init_17 : decode cX1_init 17 = .ok (.putfield 15, 3) := by decide +kernel
theorem dX1_init_20 : decode cX1_init 20 = .ok (.aload_n 0, 1) := by decide +kernel
theorem dX1_init_21 : decode cX1_init 21 = .ok (.bipush 8, 2) := by decide +kernel
theorem dX1_init_23 : decode cX1_init 23 = .ok (.newarray .int, 2) := by decide +kernel
theorem dX1_init_25 : decode cX1_init 25 = .ok (.putfield 18, 3) := by decide +kernel
theorem dX1_init_28 : decode cX1_init 28 = .ok (.aload_n 0, 1) := by decide +kernel
theorem dX1_init_29 : decode cX1_init 29 = .ok (.bipush 8, 2) := by decide +kernel
theorem dX1_init_31 : decode cX1_init 31 = .ok (.newarray .int, 2) := by decide +kernel
theorem dX1_init_33 : decode cX1_init 33 = .ok (.putfield 21, 3) := by decide +kernel
theorem dX1_init_36 : decode cX1_init 36 = .ok (.return_, 1) := by decide +kernel
set_option maxRecDepth 20000 in
theorem ggX1_isPlace_X7_within : GoodIn wsX1_isPlace wsX7_within := goodIn_r _ [3] rfl (by decide +kernel)
set_option maxRecDepth 20000 in
theorem gX1_isPlace_X7_within_n24 : GoodIn wsX1_isPlace (wsX7_within) := ggX1_isPlace_X7_within
theorem dX1_isPlace_0 : decode cX1_isPlace 0 = .ok (.iload_n 0, 1) := by decide +kernel
theorem dX1_isPlace_1 : decode cX1_isPlace 1 = .ok (.sipush (-1000), 3) := by decide +kernel
theorem dX1_isPlace_4 : decode cX1_isPlace 4 = .ok (.sipush 1000, 3) := by decide +kernel
theorem dX1_isPlace_7 : decode cX1_isPlace 7 = .ok (.invokestatic 24, 3) := by decide +kernel
theorem dX1_isPlace_10 : decode cX1_isPlace 10 = .ok (.ireturn, 1) := by decide +kernel
set_option maxRecDepth 20000 in
theorem ggX1_isOffset_X7_within : GoodIn wsX1_isOffset wsX7_within := goodIn_r _ [3] rfl (by decide +kernel)
set_option maxRecDepth 20000 in
theorem gX1_isOffset_X7_within_n24 : GoodIn wsX1_isOffset (wsX7_within) := ggX1_isOffset_X7_within
theorem dX1_isOffset_0 : decode cX1_isOffset 0 = .ok (.iload_n 0, 1) := by decide +kernel
theorem dX1_isOffset_1 : decode cX1_isOffset 1 = .ok (.bipush (-100), 2) := by decide +kernel
theorem dX1_isOffset_3 : decode cX1_isOffset 3 = .ok (.bipush 100, 2) := by decide +kernel
theorem dX1_isOffset_5 : decode cX1_isOffset 5 = .ok (.invokestatic 24, 3) := by decide +kernel
theorem dX1_isOffset_8 : decode cX1_isOffset 8 = .ok (.ireturn, 1) := by decide +kernel
theorem dX1_has_0 : decode cX1_has 0 = .ok (.iload_n 1, 1) := by decide +kernel
theorem dX1_has_1 : decode cX1_has 1 = .ok (.ifCond .lt 15, 3) := by decide +kernel
theorem dX1_has_4 : decode cX1_has 4 = .ok (.iload_n 1, 1) := by decide +kernel
theorem dX1_has_5 : decode cX1_has 5 = .ok (.aload_n 0, 1) := by decide +kernel
theorem dX1_has_6 : decode cX1_has 6 = .ok (.getfield 28, 3) := by decide +kernel
theorem dX1_has_9 : decode cX1_has 9 = .ok (.if_icmp .ge 7, 3) := by decide +kernel
theorem dX1_has_12 : decode cX1_has 12 = .ok (.iconst 1, 1) := by decide +kernel
theorem dX1_has_13 : decode cX1_has 13 = .ok (.goto 4, 3) := by decide +kernel
theorem dX1_has_16 : decode cX1_has 16 = .ok (.iconst 0, 1) := by decide +kernel
theorem dX1_has_17 : decode cX1_has 17 = .ok (.ireturn, 1) := by decide +kernel
theorem dX1_isFull_0 : decode cX1_isFull 0 = .ok (.aload_n 0, 1) := by decide +kernel
theorem dX1_isFull_1 : decode cX1_isFull 1 = .ok (.getfield 28, 3) := by decide +kernel
theorem dX1_isFull_4 : decode cX1_isFull 4 = .ok (.bipush 8, 2) := by decide +kernel
theorem dX1_isFull_6 : decode cX1_isFull 6 = .ok (.if_icmp .lt 7, 3) := by decide +kernel
theorem dX1_isFull_9 : decode cX1_isFull 9 = .ok (.iconst 1, 1) := by decide +kernel
theorem dX1_isFull_10 : decode cX1_isFull 10 = .ok (.goto 4, 3) := by decide +kernel
theorem dX1_isFull_13 : decode cX1_isFull 13 = .ok (.iconst 0, 1) := by decide +kernel
theorem dX1_isFull_14 : decode cX1_isFull 14 = .ok (.ireturn, 1) := by decide +kernel
theorem dX1_add_0 : decode cX1_add 0 = .ok (.aload_n 0, 1) := by decide +kernel
theorem dX1_add_1 : decode cX1_add 1 = .ok (.getfield 11, 3) := by decide +kernel
theorem dX1_add_4 : decode cX1_add 4 = .ok (.aload_n 0, 1) := by decide +kernel
theorem dX1_add_5 : decode cX1_add 5 = .ok (.getfield 28, 3) := by decide +kernel
theorem dX1_add_8 : decode cX1_add 8 = .ok (.iload_n 1, 1) := by decide +kernel
theorem dX1_add_9 : decode cX1_add 9 = .ok (.iastore, 1) := by decide +kernel
theorem dX1_add_10 : decode cX1_add 10 = .ok (.aload_n 0, 1) := by decide +kernel
theorem dX1_add_11 : decode cX1_add 11 = .ok (.getfield 15, 3) := by decide +kernel
theorem dX1_add_14 : decode cX1_add 14 = .ok (.aload_n 0, 1) := by decide +kernel
theorem dX1_add_15 : decode cX1_add 15 = .ok (.getfield 28, 3) := by decide +kernel
theorem dX1_add_18 : decode cX1_add 18 = .ok (.iload_n 2, 1) := by decide +kernel
theorem dX1_add_19 : decode cX1_add 19 = .ok (.iastore, 1) := by decide +kernel
theorem dX1_add_20 : decode cX1_add 20 = .ok (.aload_n 0, 1) := by decide +kernel
theorem dX1_add_21 : decode cX1_add 21 = .ok (.getfield 18, 3) := by decide +kernel
theorem dX1_add_24 : decode cX1_add 24 = .ok (.aload_n 0, 1) := by decide +kernel
theorem dX1_add_25 : decode cX1_add 25 = .ok (.getfield 28, 3) := by decide +kernel
theorem dX1_add_28 : decode cX1_add 28 = .ok (.iload_n 3, 1) := by decide +kernel
theorem dX1_add_29 : decode cX1_add 29 = .ok (.iastore, 1) := by decide +kernel
theorem dX1_add_30 : decode cX1_add 30 = .ok (.aload_n 0, 1) := by decide +kernel
theorem dX1_add_31 : decode cX1_add 31 = .ok (.getfield 21, 3) := by decide +kernel
theorem dX1_add_34 : decode cX1_add 34 = .ok (.aload_n 0, 1) := by decide +kernel
theorem dX1_add_35 : decode cX1_add 35 = .ok (.getfield 28, 3) := by decide +kernel
theorem dX1_add_38 : decode cX1_add 38 = .ok (.iload 4, 2) := by decide +kernel
theorem dX1_add_40 : decode cX1_add 40 = .ok (.iastore, 1) := by decide +kernel
theorem dX1_add_41 : decode cX1_add 41 = .ok (.aload_n 0, 1) := by decide +kernel
theorem dX1_add_42 : decode cX1_add 42 = .ok (.dup, 1) := by decide +kernel
theorem dX1_add_43 : decode cX1_add 43 = .ok (.getfield 28, 3) := by decide +kernel
theorem dX1_add_46 : decode cX1_add 46 = .ok (.iconst 1, 1) := by decide +kernel
theorem dX1_add_47 : decode cX1_add 47 = .ok (.iadd, 1) := by decide +kernel
theorem dX1_add_48 : decode cX1_add 48 = .ok (.putfield 28, 3) := by decide +kernel
theorem dX1_add_51 : decode cX1_add 51 = .ok (.aload_n 0, 1) := by decide +kernel
theorem dX1_add_52 : decode cX1_add 52 = .ok (.dup, 1) := by decide +kernel
theorem dX1_add_53 : decode cX1_add 53 = .ok (.getfield 32, 3) := by decide +kernel
theorem dX1_add_56 : decode cX1_add 56 = .ok (.iload_n 1, 1) := by decide +kernel
theorem dX1_add_57 : decode cX1_add 57 = .ok (.i2l, 1) := by decide +kernel
theorem dX1_add_58 : decode cX1_add 58 = .ok (.ladd, 1) := by decide +kernel
theorem dX1_add_59 : decode cX1_add 59 = .ok (.putfield 32, 3) := by decide +kernel
theorem dX1_add_62 : decode cX1_add 62 = .ok (.aload_n 0, 1) := by decide +kernel
theorem dX1_add_63 : decode cX1_add 63 = .ok (.dup, 1) := by decide +kernel
theorem dX1_add_64 : decode cX1_add 64 = .ok (.getfield 36, 3) := by decide +kernel
theorem dX1_add_67 : decode cX1_add 67 = .ok (.iload_n 2, 1) := by decide +kernel
theorem dX1_add_68 : decode cX1_add 68 = .ok (.i2l, 1) := by decide +kernel
theorem dX1_add_69 : decode cX1_add 69 = .ok (.ladd, 1) := by decide +kernel
theorem dX1_add_70 : decode cX1_add 70 = .ok (.putfield 36, 3) := by decide +kernel
theorem dX1_add_73 : decode cX1_add 73 = .ok (.aload_n 0, 1) := by decide +kernel
theorem dX1_add_74 : decode cX1_add 74 = .ok (.dup, 1) := by decide +kernel
theorem dX1_add_75 : decode cX1_add 75 = .ok (.getfield 39, 3) := by decide +kernel
theorem dX1_add_78 : decode cX1_add 78 = .ok (.iload_n 3, 1) := by decide +kernel
theorem dX1_add_79 : decode cX1_add 79 = .ok (.i2l, 1) := by decide +kernel
theorem dX1_add_80 : decode cX1_add 80 = .ok (.ladd, 1) := by decide +kernel
theorem dX1_add_81 : decode cX1_add 81 = .ok (.putfield 39, 3) := by decide +kernel
theorem dX1_add_84 : decode cX1_add 84 = .ok (.aload_n 0, 1) := by decide +kernel
theorem dX1_add_85 : decode cX1_add 85 = .ok (.dup, 1) := by decide +kernel
theorem dX1_add_86 : decode cX1_add 86 = .ok (.getfield 42, 3) := by decide +kernel
theorem dX1_add_89 : decode cX1_add 89 = .ok (.iload 4, 2) := by decide +kernel
theorem dX1_add_91 : decode cX1_add 91 = .ok (.i2l, 1) := by decide +kernel
theorem dX1_add_92 : decode cX1_add 92 = .ok (.ladd, 1) := by decide +kernel
theorem dX1_add_93 : decode cX1_add 93 = .ok (.putfield 42, 3) := by decide +kernel
theorem dX1_add_96 : decode cX1_add 96 = .ok (.aload_n 0, 1) := by decide +kernel
theorem dX1_add_97 : decode cX1_add 97 = .ok (.dup, 1) := by decide +kernel
theorem dX1_add_98 : decode cX1_add 98 = .ok (.getfield 45, 3) := by decide +kernel
theorem dX1_add_101 : decode cX1_add 101 = .ok (.iload_n 1, 1) := by decide +kernel
theorem dX1_add_102 : decode cX1_add 102 = .ok (.iload_n 1, 1) := by decide +kernel
theorem dX1_add_103 : decode cX1_add 103 = .ok (.imul, 1) := by decide +kernel
theorem dX1_add_104 : decode cX1_add 104 = .ok (.iload_n 2, 1) := by decide +kernel
theorem dX1_add_105 : decode cX1_add 105 = .ok (.iload_n 2, 1) := by decide +kernel
theorem dX1_add_106 : decode cX1_add 106 = .ok (.imul, 1) := by decide +kernel
theorem dX1_add_107 : decode cX1_add 107 = .ok (.iadd, 1) := by decide +kernel
theorem dX1_add_108 : decode cX1_add 108 = .ok (.i2l, 1) := by decide +kernel
theorem dX1_add_109 : decode cX1_add 109 = .ok (.ladd, 1) := by decide +kernel
theorem dX1_add_110 : decode cX1_add 110 = .ok (.putfield 45, 3) := by decide +kernel
theorem dX1_add_113 : decode cX1_add 113 = .ok (.aload_n 0, 1) := by decide +kernel
theorem dX1_add_114 : decode cX1_add 114 = .ok (.dup, 1) := by decide +kernel
theorem dX1_add_115 : decode cX1_add 115 = .ok (.getfield 48, 3) := by decide +kernel
theorem dX1_add_118 : decode cX1_add 118 = .ok (.iload_n 1, 1) := by decide +kernel
theorem dX1_add_119 : decode cX1_add 119 = .ok (.iload_n 3, 1) := by decide +kernel
theorem dX1_add_120 : decode cX1_add 120 = .ok (.imul, 1) := by decide +kernel
theorem dX1_add_121 : decode cX1_add 121 = .ok (.iload_n 2, 1) := by decide +kernel
theorem dX1_add_122 : decode cX1_add 122 = .ok (.iload 4, 2) := by decide +kernel
theorem dX1_add_124 : decode cX1_add 124 = .ok (.imul, 1) := by decide +kernel
theorem dX1_add_125 : decode cX1_add 125 = .ok (.iadd, 1) := by decide +kernel
theorem dX1_add_126 : decode cX1_add 126 = .ok (.i2l, 1) := by decide +kernel
theorem dX1_add_127 : decode cX1_add 127 = .ok (.ladd, 1) := by decide +kernel
theorem dX1_add_128 : decode cX1_add 128 = .ok (.putfield 48, 3) := by decide +kernel
theorem dX1_add_131 : decode cX1_add 131 = .ok (.aload_n 0, 1) := by decide +kernel
theorem dX1_add_132 : decode cX1_add 132 = .ok (.dup, 1) := by decide +kernel
theorem dX1_add_133 : decode cX1_add 133 = .ok (.getfield 51, 3) := by decide +kernel
theorem dX1_add_136 : decode cX1_add 136 = .ok (.iload_n 1, 1) := by decide +kernel
theorem dX1_add_137 : decode cX1_add 137 = .ok (.iload 4, 2) := by decide +kernel
theorem dX1_add_139 : decode cX1_add 139 = .ok (.imul, 1) := by decide +kernel
theorem dX1_add_140 : decode cX1_add 140 = .ok (.iload_n 2, 1) := by decide +kernel
theorem dX1_add_141 : decode cX1_add 141 = .ok (.iload_n 3, 1) := by decide +kernel
theorem dX1_add_142 : decode cX1_add 142 = .ok (.imul, 1) := by decide +kernel
theorem dX1_add_143 : decode cX1_add 143 = .ok (.isub, 1) := by decide +kernel
theorem dX1_add_144 : decode cX1_add 144 = .ok (.i2l, 1) := by decide +kernel
theorem dX1_add_145 : decode cX1_add 145 = .ok (.ladd, 1) := by decide +kernel
theorem dX1_add_146 : decode cX1_add 146 = .ok (.putfield 51, 3) := by decide +kernel
theorem dX1_add_149 : decode cX1_add 149 = .ok (.aload_n 0, 1) := by decide +kernel
theorem dX1_add_150 : decode cX1_add 150 = .ok (.getfield 28, 3) := by decide +kernel
theorem dX1_add_153 : decode cX1_add 153 = .ok (.ireturn, 1) := by decide +kernel
theorem dX1_removeAll_0 : decode cX1_removeAll 0 = .ok (.aload_n 0, 1) := by decide +kernel
theorem dX1_removeAll_1 : decode cX1_removeAll 1 = .ok (.getfield 28, 3) := by decide +kernel
theorem dX1_removeAll_4 : decode cX1_removeAll 4 = .ok (.istore_n 1, 1) := by decide +kernel
theorem dX1_removeAll_5 : decode cX1_removeAll 5 = .ok (.aload_n 0, 1) := by decide +kernel
theorem dX1_removeAll_6 : decode cX1_removeAll 6 = .ok (.iconst 0, 1) := by decide +kernel
theorem dX1_removeAll_7 : decode cX1_removeAll 7 = .ok (.putfield 28, 3) := by decide +kernel
theorem dX1_removeAll_10 : decode cX1_removeAll 10 = .ok (.aload_n 0, 1) := by decide +kernel
theorem dX1_removeAll_11 : decode cX1_removeAll 11 = .ok (.lconst 0, 1) := by decide +kernel
theorem dX1_removeAll_12 : decode cX1_removeAll 12 = .ok (.putfield 32, 3) := by decide +kernel
theorem dX1_removeAll_15 : decode cX1_removeAll 15 = .ok (.aload_n 0, 1) := by decide +kernel
theorem dX1_removeAll_16 : decode cX1_removeAll 16 = .ok (.lconst 0, 1) := by decide +kernel
theorem dX1_removeAll_17 : decode cX1_removeAll 17 = .ok (.putfield 36, 3) := by decide +kernel
theorem dX1_removeAll_20 : decode cX1_removeAll 20 = .ok (.aload_n 0, 1) := by decide +kernel
theorem dX1_removeAll_21 : decode cX1_removeAll 21 = .ok (.lconst 0, 1) := by decide +kernel
theorem dX1_removeAll_22 : decode cX1_removeAll 22 = .ok (.putfield 39, 3) := by decide +kernel
theorem dX1_removeAll_25 : decode cX1_removeAll 25 = .ok (.aload_n 0, 1) := by decide +kernel
theorem dX1_removeAll_26 : decode cX1_removeAll 26 = .ok (.lconst 0, 1) := by decide +kernel
theorem dX1_removeAll_27 : decode cX1_removeAll 27 = .ok (.putfield 42, 3) := by decide +kernel
theorem dX1_removeAll_30 : decode cX1_removeAll 30 = .ok (.aload_n 0, 1) := by decide +kernel
theorem dX1_removeAll_31 : decode cX1_removeAll 31 = .ok (.lconst 0, 1) := by decide +kernel
theorem dX1_removeAll_32 : decode cX1_removeAll 32 = .ok (.putfield 45, 3) := by decide +kernel
theorem dX1_removeAll_35 : decode cX1_removeAll 35 = .ok (.aload_n 0, 1) := by decide +kernel
theorem dX1_removeAll_36 : decode cX1_removeAll 36 = .ok (.lconst 0, 1) := by decide +kernel
theorem dX1_removeAll_37 : decode cX1_removeAll 37 = .ok (.putfield 48, 3) := by decide +kernel
theorem dX1_removeAll_40 : decode cX1_removeAll 40 = .ok (.aload_n 0, 1) := by decide +kernel
theorem dX1_removeAll_41 : decode cX1_removeAll 41 = .ok (.lconst 0, 1) := by decide +kernel
theorem dX1_removeAll_42 : decode cX1_removeAll 42 = .ok (.putfield 51, 3) := by decide +kernel
theorem dX1_removeAll_45 : decode cX1_removeAll 45 = .ok (.iload_n 1, 1) := by decide +kernel
theorem dX1_removeAll_46 : decode cX1_removeAll 46 = .ok (.ireturn, 1) := by decide +kernel
set_option maxRecDepth 20000 in
theorem ggX1_isTold_X1_spread : GoodIn wsX1_isTold wsX1_spread := goodIn_r _ [5, 6, 7, 8, 9, 10, 11, 12, 13, 14, 15, 16, 17, 18, 19, 20, 21] rfl (by decide +kernel)
set_option maxRecDepth 20000 in
theorem gX1_isTold_X1_spread : GoodIn wsX1_isTold (wsV RX1 54 RX1 yX1_spread wsX1_spread) := goodIn_app (goodIn_of _ (by decide +kernel)) ggX1_isTold_X1_spread
theorem dX1_isTold_0 : decode cX1_isTold 0 = .ok (.aload_n 0, 1) := by decide +kernel
theorem dX1_isTold_1 : decode cX1_isTold 1 = .ok (.invokevirtual 54, 3) := by decide +kernel
theorem dX1_isTold_4 : decode cX1_isTold 4 = .ok (.lconst 0, 1) := by decide +kernel
theorem dX1_isTold_5 : decode cX1_isTold 5 = .ok (.lcmp, 1) := by decide +kernel
theorem dX1_isTold_6 : decode cX1_isTold 6 = .ok (.ifCond .le 7, 3) := by decide +kernel
theorem dX1_isTold_9 : decode cX1_isTold 9 = .ok (.iconst 1, 1) := by decide +kernel
theorem dX1_isTold_10 : decode cX1_isTold 10 = .ok (.goto 4, 3) := by decide +kernel
theorem dX1_isTold_13 : decode cX1_isTold 13 = .ok (.iconst 0, 1) := by decide +kernel
theorem dX1_isTold_14 : decode cX1_isTold 14 = .ok (.ireturn, 1) := by decide +kernel
set_option maxRecDepth 20000 in
theorem ggX1_upper_X1_stretch : GoodIn wsX1_upper wsX1_stretch := goodIn_r _ [5, 6, 7, 8, 9, 10, 11, 30, 31, 32, 33, 34, 35, 36, 37, 38, 39, 40, 41] rfl (by decide +kernel)
set_option maxRecDepth 20000 in
theorem gX1_upper_X1_stretch : GoodIn wsX1_upper (wsV RX1 58 RX1 yX1_stretch wsX1_stretch) := goodIn_app (goodIn_of _ (by decide +kernel)) ggX1_upper_X1_stretch
set_option maxRecDepth 20000 in
theorem ggX1_upper_X1_turn : GoodIn wsX1_upper wsX1_turn := goodIn_r _ [15, 6, 16, 8, 11, 10, 9, 30, 31, 32, 33, 34, 35, 36, 37, 38, 39, 40, 41] rfl (by decide +kernel)
set_option maxRecDepth 20000 in
theorem gX1_upper_X1_turn : GoodIn wsX1_upper (wsV RX1 61 RX1 yX1_turn wsX1_turn) := goodIn_app (goodIn_of _ (by decide +kernel)) ggX1_upper_X1_turn
set_option maxRecDepth 20000 in
theorem ggX1_upper_X1_across : GoodIn wsX1_upper wsX1_across := goodIn_r _ [20, 9, 8, 10, 21, 22, 23, 4, 24, 6, 25, 1, 2, 3, 5, 7, 11, 12, 13, 14, 15, 16, 30, 31, 32, 33, 34, 35, 36, 37, 38, 39, 40, 41] rfl (by decide +kernel)
set_option maxRecDepth 20000 in
theorem gX1_upper_X1_across : GoodIn wsX1_upper (wsV RX1 64 RX1 yX1_across wsX1_across) := goodIn_app (goodIn_of _ (by decide +kernel)) ggX1_upper_X1_across
set_option maxRecDepth 20000 in
theorem ggX1_upper_X1_up : GoodIn wsX1_upper wsX1_up := goodIn_r _ [29, 11, 10, 8, 21, 22, 23, 4, 24, 6, 25, 1, 2, 3, 5, 7, 9, 12, 13, 14, 15, 16, 30, 31, 32, 33, 34, 35, 36, 37, 38, 39, 40, 41] rfl (by decide +kernel)
set_option maxRecDepth 20000 in
theorem gX1_upper_X1_up : GoodIn wsX1_upper (wsV RX1 67 RX1 yX1_up wsX1_up) := goodIn_app (goodIn_of _ (by decide +kernel)) ggX1_upper_X1_up
theorem dX1_upper_0 : decode cX1_upper 0 = .ok (.iload_n 1, 1) := by decide +kernel
theorem dX1_upper_1 : decode cX1_upper 1 = .ok (.tableswitch 42 0 2 #[27, 32, 37], 27) := by decide +kernel
theorem dX1_upper_28 : decode cX1_upper 28 = .ok (.aload_n 0, 1) := by decide +kernel
theorem dX1_upper_29 : decode cX1_upper 29 = .ok (.invokevirtual 58, 3) := by decide +kernel
theorem dX1_upper_32 : decode cX1_upper 32 = .ok (.lreturn, 1) := by decide +kernel
theorem dX1_upper_33 : decode cX1_upper 33 = .ok (.aload_n 0, 1) := by decide +kernel
theorem dX1_upper_34 : decode cX1_upper 34 = .ok (.invokevirtual 61, 3) := by decide +kernel
theorem dX1_upper_37 : decode cX1_upper 37 = .ok (.lreturn, 1) := by decide +kernel
theorem dX1_upper_38 : decode cX1_upper 38 = .ok (.aload_n 0, 1) := by decide +kernel
theorem dX1_upper_39 : decode cX1_upper 39 = .ok (.invokevirtual 64, 3) := by decide +kernel
theorem dX1_upper_42 : decode cX1_upper 42 = .ok (.lreturn, 1) := by decide +kernel
theorem dX1_upper_43 : decode cX1_upper 43 = .ok (.aload_n 0, 1) := by decide +kernel
theorem dX1_upper_44 : decode cX1_upper 44 = .ok (.invokevirtual 67, 3) := by decide +kernel
theorem dX1_upper_47 : decode cX1_upper 47 = .ok (.lreturn, 1) := by decide +kernel
set_option maxRecDepth 20000 in
theorem ggX1_lower_X1_spread : GoodIn wsX1_lower wsX1_spread := goodIn_r _ [6, 1, 7, 8, 9, 10, 11, 12, 13, 14, 15, 16, 17, 18, 19, 20, 21] rfl (by decide +kernel)
set_option maxRecDepth 20000 in
theorem gX1_lower_X1_spread : GoodIn wsX1_lower (wsV RX1 54 RX1 yX1_spread wsX1_spread) := goodIn_app (goodIn_of _ (by decide +kernel)) ggX1_lower_X1_spread
theorem dX1_lower_0 : decode cX1_lower 0 = .ok (.iload_n 1, 1) := by decide +kernel
theorem dX1_lower_1 : decode cX1_lower 1 = .ok (.ifCond .eq 8, 3) := by decide +kernel
theorem dX1_lower_4 : decode cX1_lower 4 = .ok (.iload_n 1, 1) := by decide +kernel
theorem dX1_lower_5 : decode cX1_lower 5 = .ok (.iconst 1, 1) := by decide +kernel
theorem dX1_lower_6 : decode cX1_lower 6 = .ok (.if_icmp .ne 10, 3) := by decide +kernel
theorem dX1_lower_9 : decode cX1_lower 9 = .ok (.aload_n 0, 1) := by decide +kernel
theorem dX1_lower_10 : decode cX1_lower 10 = .ok (.invokevirtual 54, 3) := by decide +kernel
theorem dX1_lower_13 : decode cX1_lower 13 = .ok (.goto 13, 3) := by decide +kernel
theorem dX1_lower_16 : decode cX1_lower 16 = .ok (.aload_n 0, 1) := by decide +kernel
theorem dX1_lower_17 : decode cX1_lower 17 = .ok (.invokevirtual 54, 3) := by decide +kernel
theorem dX1_lower_20 : decode cX1_lower 20 = .ok (.aload_n 0, 1) := by decide +kernel
theorem dX1_lower_21 : decode cX1_lower 21 = .ok (.getfield 28, 3) := by decide +kernel
theorem dX1_lower_24 : decode cX1_lower 24 = .ok (.i2l, 1) := by decide +kernel
theorem dX1_lower_25 : decode cX1_lower 25 = .ok (.lmul, 1) := by decide +kernel
theorem dX1_lower_26 : decode cX1_lower 26 = .ok (.lreturn, 1) := by decide +kernel
set_option maxRecDepth 20000 in
theorem ggX1_offAcross_X1_stretch : GoodIn wsX1_offAcross wsX1_stretch := goodIn_r _ [9, 1, 10, 11, 12, 13, 14, 34, 35, 36, 37, 38, 39, 40, 41, 42, 43, 44, 45] rfl (by decide +kernel)
set_option maxRecDepth 20000 in
theorem gX1_offAcross_X1_stretch : GoodIn wsX1_offAcross (wsV RX1 58 RX1 yX1_stretch wsX1_stretch) := goodIn_app (goodIn_of _ (by decide +kernel)) ggX1_offAcross_X1_stretch
set_option maxRecDepth 20000 in
theorem ggX1_offAcross_X1_turn : GoodIn wsX1_offAcross wsX1_turn := goodIn_r _ [18, 1, 19, 11, 14, 13, 12, 34, 35, 36, 37, 38, 39, 40, 41, 42, 43, 44, 45] rfl (by decide +kernel)
set_option maxRecDepth 20000 in
theorem gX1_offAcross_X1_turn : GoodIn wsX1_offAcross (wsV RX1 61 RX1 yX1_turn wsX1_turn) := goodIn_app (goodIn_of _ (by decide +kernel)) ggX1_offAcross_X1_turn
set_option maxRecDepth 20000 in
theorem ggX1_offAcross_X1_across : GoodIn wsX1_offAcross wsX1_across := goodIn_r _ [23, 12, 11, 13, 24, 25, 26, 8, 27, 1, 28, 5, 6, 7, 9, 10, 14, 15, 16, 17, 18, 19, 34, 35, 36, 37, 38, 39, 40, 41, 42, 43, 44, 45] rfl (by decide +kernel)
set_option maxRecDepth 20000 in
theorem gX1_offAcross_X1_across : GoodIn wsX1_offAcross (wsV RX1 64 RX1 yX1_across wsX1_across) := goodIn_app (goodIn_of _ (by decide +kernel)) ggX1_offAcross_X1_across
set_option maxRecDepth 20000 in
theorem ggX1_offAcross_X1_inThousandths : GoodIn wsX1_offAcross wsX1_inThousandths := goodIn_r _ [32, 1, 33, 24, 25, 26, 8, 27, 28, 11, 13, 34, 35, 36, 37, 38, 39, 40, 41, 42, 43, 44, 45] rfl (by decide +kernel)
set_option maxRecDepth 20000 in
theorem gX1_offAcross_X1_inThousandths : GoodIn wsX1_offAcross (wsV RX1 70 RX1 yX1_inThousandths wsX1_inThousandths) := goodIn_app (goodIn_of _ (by decide +kernel)) ggX1_offAcross_X1_inThousandths
theorem dX1_offAcross_0 : decode cX1_offAcross 0 = .ok (.aload_n 0, 1) := by decide +kernel
theorem dX1_offAcross_1 : decode cX1_offAcross 1 = .ok (.getfield 28, 3) := by decide +kernel
theorem dX1_offAcross_4 : decode cX1_offAcross 4 = .ok (.i2l, 1) := by decide +kernel
theorem dX1_offAcross_5 : decode cX1_offAcross 5 = .ok (.aload_n 0, 1) := by decide +kernel
theorem dX1_offAcross_6 : decode cX1_offAcross 6 = .ok (.invokevirtual 58, 3) := by decide +kernel
theorem dX1_offAcross_9 : decode cX1_offAcross 9 = .ok (.aload_n 0, 1) := by decide +kernel
theorem dX1_offAcross_10 : decode cX1_offAcross 10 = .ok (.getfield 11, 3) := by decide +kernel
theorem dX1_offAcross_13 : decode cX1_offAcross 13 = .ok (.iload_n 1, 1) := by decide +kernel
theorem dX1_offAcross_14 : decode cX1_offAcross 14 = .ok (.iaload, 1) := by decide +kernel
theorem dX1_offAcross_15 : decode cX1_offAcross 15 = .ok (.i2l, 1) := by decide +kernel
theorem dX1_offAcross_16 : decode cX1_offAcross 16 = .ok (.lmul, 1) := by decide +kernel
theorem dX1_offAcross_17 : decode cX1_offAcross 17 = .ok (.aload_n 0, 1) := by decide +kernel
theorem dX1_offAcross_18 : decode cX1_offAcross 18 = .ok (.invokevirtual 61, 3) := by decide +kernel
theorem dX1_offAcross_21 : decode cX1_offAcross 21 = .ok (.aload_n 0, 1) := by decide +kernel
theorem dX1_offAcross_22 : decode cX1_offAcross 22 = .ok (.getfield 15, 3) := by decide +kernel
theorem dX1_offAcross_25 : decode cX1_offAcross 25 = .ok (.iload_n 1, 1) := by decide +kernel
theorem dX1_offAcross_26 : decode cX1_offAcross 26 = .ok (.iaload, 1) := by decide +kernel
theorem dX1_offAcross_27 : decode cX1_offAcross 27 = .ok (.i2l, 1) := by decide +kernel
theorem dX1_offAcross_28 : decode cX1_offAcross 28 = .ok (.lmul, 1) := by decide +kernel
theorem dX1_offAcross_29 : decode cX1_offAcross 29 = .ok (.lsub, 1) := by decide +kernel
theorem dX1_offAcross_30 : decode cX1_offAcross 30 = .ok (.lmul, 1) := by decide +kernel
theorem dX1_offAcross_31 : decode cX1_offAcross 31 = .ok (.aload_n 0, 1) := by decide +kernel
theorem dX1_offAcross_32 : decode cX1_offAcross 32 = .ok (.invokevirtual 64, 3) := by decide +kernel
theorem dX1_offAcross_35 : decode cX1_offAcross 35 = .ok (.ladd, 1) := by decide +kernel
theorem dX1_offAcross_36 : decode cX1_offAcross 36 = .ok (.lstore_n 2, 1) := by decide +kernel
theorem dX1_offAcross_37 : decode cX1_offAcross 37 = .ok (.aload_n 0, 1) := by decide +kernel
theorem dX1_offAcross_38 : decode cX1_offAcross 38 = .ok (.aload_n 0, 1) := by decide +kernel
theorem dX1_offAcross_39 : decode cX1_offAcross 39 = .ok (.getfield 18, 3) := by decide +kernel
theorem dX1_offAcross_42 : decode cX1_offAcross 42 = .ok (.iload_n 1, 1) := by decide +kernel
theorem dX1_offAcross_43 : decode cX1_offAcross 43 = .ok (.iaload, 1) := by decide +kernel
theorem dX1_offAcross_44 : decode cX1_offAcross 44 = .ok (.lload_n 2, 1) := by decide +kernel
theorem dX1_offAcross_45 : decode cX1_offAcross 45 = .ok (.invokevirtual 70, 3) := by decide +kernel
theorem dX1_offAcross_48 : decode cX1_offAcross 48 = .ok (.ireturn, 1) := by decide +kernel
set_option maxRecDepth 20000 in
theorem ggX1_offUp_X1_stretch : GoodIn wsX1_offUp wsX1_stretch := goodIn_r _ [9, 1, 10, 11, 12, 13, 14, 34, 35, 36, 37, 38, 39, 40, 41, 42, 43, 44, 45] rfl (by decide +kernel)
set_option maxRecDepth 20000 in
theorem gX1_offUp_X1_stretch : GoodIn wsX1_offUp (wsV RX1 58 RX1 yX1_stretch wsX1_stretch) := goodIn_app (goodIn_of _ (by decide +kernel)) ggX1_offUp_X1_stretch
set_option maxRecDepth 20000 in
theorem ggX1_offUp_X1_turn : GoodIn wsX1_offUp wsX1_turn := goodIn_r _ [18, 1, 19, 11, 14, 13, 12, 34, 35, 36, 37, 38, 39, 40, 41, 42, 43, 44, 45] rfl (by decide +kernel)
set_option maxRecDepth 20000 in
theorem gX1_offUp_X1_turn : GoodIn wsX1_offUp (wsV RX1 61 RX1 yX1_turn wsX1_turn) := goodIn_app (goodIn_of _ (by decide +kernel)) ggX1_offUp_X1_turn
set_option maxRecDepth 20000 in
theorem ggX1_offUp_X1_up : GoodIn wsX1_offUp wsX1_up := goodIn_r _ [23, 14, 13, 11, 24, 25, 26, 8, 27, 1, 28, 5, 6, 7, 9, 10, 12, 15, 16, 17, 18, 19, 34, 35, 36, 37, 38, 39, 40, 41, 42, 43, 44, 45] rfl (by decide +kernel)
set_option maxRecDepth 20000 in
theorem gX1_offUp_X1_up : GoodIn wsX1_offUp (wsV RX1 67 RX1 yX1_up wsX1_up) := goodIn_app (goodIn_of _ (by decide +kernel)) ggX1_offUp_X1_up
set_option maxRecDepth 20000 in
theorem ggX1_offUp_X1_inThousandths : GoodIn wsX1_offUp wsX1_inThousandths := goodIn_r _ [32, 1, 33, 24, 25, 26, 8, 27, 28, 11, 13, 34, 35, 36, 37, 38, 39, 40, 41, 42, 43, 44, 45] rfl (by decide +kernel)
set_option maxRecDepth 20000 in
theorem gX1_offUp_X1_inThousandths : GoodIn wsX1_offUp (wsV RX1 70 RX1 yX1_inThousandths wsX1_inThousandths) := goodIn_app (goodIn_of _ (by decide +kernel)) ggX1_offUp_X1_inThousandths
theorem dX1_offUp_0 : decode cX1_offUp 0 = .ok (.aload_n 0, 1) := by decide +kernel
theorem dX1_offUp_1 : decode cX1_offUp 1 = .ok (.getfield 28, 3) := by decide +kernel
theorem dX1_offUp_4 : decode cX1_offUp 4 = .ok (.i2l, 1) := by decide +kernel
theorem dX1_offUp_5 : decode cX1_offUp 5 = .ok (.aload_n 0, 1) := by decide +kernel
theorem dX1_offUp_6 : decode cX1_offUp 6 = .ok (.invokevirtual 58, 3) := by decide +kernel
theorem dX1_offUp_9 : decode cX1_offUp 9 = .ok (.aload_n 0, 1) := by decide +kernel
theorem dX1_offUp_10 : decode cX1_offUp 10 = .ok (.getfield 15, 3) := by decide +kernel
theorem dX1_offUp_13 : decode cX1_offUp 13 = .ok (.iload_n 1, 1) := by decide +kernel
theorem dX1_offUp_14 : decode cX1_offUp 14 = .ok (.iaload, 1) := by decide +kernel
theorem dX1_offUp_15 : decode cX1_offUp 15 = .ok (.i2l, 1) := by decide +kernel
theorem dX1_offUp_16 : decode cX1_offUp 16 = .ok (.lmul, 1) := by decide +kernel
theorem dX1_offUp_17 : decode cX1_offUp 17 = .ok (.aload_n 0, 1) := by decide +kernel
theorem dX1_offUp_18 : decode cX1_offUp 18 = .ok (.invokevirtual 61, 3) := by decide +kernel
theorem dX1_offUp_21 : decode cX1_offUp 21 = .ok (.aload_n 0, 1) := by decide +kernel
theorem dX1_offUp_22 : decode cX1_offUp 22 = .ok (.getfield 11, 3) := by decide +kernel
theorem dX1_offUp_25 : decode cX1_offUp 25 = .ok (.iload_n 1, 1) := by decide +kernel
theorem dX1_offUp_26 : decode cX1_offUp 26 = .ok (.iaload, 1) := by decide +kernel
theorem dX1_offUp_27 : decode cX1_offUp 27 = .ok (.i2l, 1) := by decide +kernel
theorem dX1_offUp_28 : decode cX1_offUp 28 = .ok (.lmul, 1) := by decide +kernel
theorem dX1_offUp_29 : decode cX1_offUp 29 = .ok (.ladd, 1) := by decide +kernel
theorem dX1_offUp_30 : decode cX1_offUp 30 = .ok (.lmul, 1) := by decide +kernel
theorem dX1_offUp_31 : decode cX1_offUp 31 = .ok (.aload_n 0, 1) := by decide +kernel
theorem dX1_offUp_32 : decode cX1_offUp 32 = .ok (.invokevirtual 67, 3) := by decide +kernel
theorem dX1_offUp_35 : decode cX1_offUp 35 = .ok (.ladd, 1) := by decide +kernel
theorem dX1_offUp_36 : decode cX1_offUp 36 = .ok (.lstore_n 2, 1) := by decide +kernel
theorem dX1_offUp_37 : decode cX1_offUp 37 = .ok (.aload_n 0, 1) := by decide +kernel
theorem dX1_offUp_38 : decode cX1_offUp 38 = .ok (.aload_n 0, 1) := by decide +kernel
theorem dX1_offUp_39 : decode cX1_offUp 39 = .ok (.getfield 21, 3) := by decide +kernel
theorem dX1_offUp_42 : decode cX1_offUp 42 = .ok (.iload_n 1, 1) := by decide +kernel
theorem dX1_offUp_43 : decode cX1_offUp 43 = .ok (.iaload, 1) := by decide +kernel
theorem dX1_offUp_44 : decode cX1_offUp 44 = .ok (.lload_n 2, 1) := by decide +kernel
theorem dX1_offUp_45 : decode cX1_offUp 45 = .ok (.invokevirtual 70, 3) := by decide +kernel
theorem dX1_offUp_48 : decode cX1_offUp 48 = .ok (.ireturn, 1) := by decide +kernel
set_option maxRecDepth 20000 in
theorem ggX1_inThousandths_X1_spread : GoodIn wsX1_inThousandths wsX1_spread := goodIn_r _ [7, 1, 8, 9, 10, 11, 12, 13, 14, 15, 16, 17, 18, 19, 20, 21, 22] rfl (by decide +kernel)
set_option maxRecDepth 20000 in
theorem gX1_inThousandths_X1_spread : GoodIn wsX1_inThousandths (wsV RX1 54 RX1 yX1_spread wsX1_spread) := goodIn_app (goodIn_of _ (by decide +kernel)) ggX1_inThousandths_X1_spread
theorem dX1_inThousandths_0 : decode cX1_inThousandths 0 = .ok (.aload_n 0, 1) := by decide +kernel
theorem dX1_inThousandths_1 : decode cX1_inThousandths 1 = .ok (.invokevirtual 54, 3) := by decide +kernel
theorem dX1_inThousandths_4 : decode cX1_inThousandths 4 = .ok (.aload_n 0, 1) := by decide +kernel
theorem dX1_inThousandths_5 : decode cX1_inThousandths 5 = .ok (.getfield 28, 3) := by decide +kernel
theorem dX1_inThousandths_8 : decode cX1_inThousandths 8 = .ok (.i2l, 1) := by decide +kernel
theorem dX1_inThousandths_9 : decode cX1_inThousandths 9 = .ok (.lmul, 1) := by decide +kernel
theorem dX1_inThousandths_10 : decode cX1_inThousandths 10 = .ok (.lstore 4, 2) := by decide +kernel
theorem dX1_inThousandths_12 : decode cX1_inThousandths 12 = .ok (.lload 4, 2) := by decide +kernel
theorem dX1_inThousandths_14 : decode cX1_inThousandths 14 = .ok (.lconst 0, 1) := by decide +kernel
theorem dX1_inThousandths_15 : decode cX1_inThousandths 15 = .ok (.lcmp, 1) := by decide +kernel
theorem dX1_inThousandths_16 : decode cX1_inThousandths 16 = .ok (.ifCond .le 21, 3) := by decide +kernel
theorem dX1_inThousandths_19 : decode cX1_inThousandths 19 = .ok (.ldc2_w 74, 3) := by decide +kernel
theorem dX1_inThousandths_22 : decode cX1_inThousandths 22 = .ok (.iload_n 1, 1) := by decide +kernel
theorem dX1_inThousandths_23 : decode cX1_inThousandths 23 = .ok (.i2l, 1) := by decide +kernel
theorem dX1_inThousandths_24 : decode cX1_inThousandths 24 = .ok (.lload 4, 2) := by decide +kernel
theorem dX1_inThousandths_26 : decode cX1_inThousandths 26 = .ok (.lmul, 1) := by decide +kernel
theorem dX1_inThousandths_27 : decode cX1_inThousandths 27 = .ok (.lload_n 2, 1) := by decide +kernel
theorem dX1_inThousandths_28 : decode cX1_inThousandths 28 = .ok (.lsub, 1) := by decide +kernel
theorem dX1_inThousandths_29 : decode cX1_inThousandths 29 = .ok (.lmul, 1) := by decide +kernel
theorem dX1_inThousandths_30 : decode cX1_inThousandths 30 = .ok (.lload 4, 2) := by decide +kernel
theorem dX1_inThousandths_32 : decode cX1_inThousandths 32 = .ok (.ldiv, 1) := by decide +kernel
theorem dX1_inThousandths_33 : decode cX1_inThousandths 33 = .ok (.l2i, 1) := by decide +kernel
theorem dX1_inThousandths_34 : decode cX1_inThousandths 34 = .ok (.goto 4, 3) := by decide +kernel
theorem dX1_inThousandths_37 : decode cX1_inThousandths 37 = .ok (.iconst 0, 1) := by decide +kernel
theorem dX1_inThousandths_38 : decode cX1_inThousandths 38 = .ok (.ireturn, 1) := by decide +kernel
theorem dX1_spread_0 : decode cX1_spread 0 = .ok (.aload_n 0, 1) := by decide +kernel
theorem dX1_spread_1 : decode cX1_spread 1 = .ok (.getfield 28, 3) := by decide +kernel
theorem dX1_spread_4 : decode cX1_spread 4 = .ok (.i2l, 1) := by decide +kernel
theorem dX1_spread_5 : decode cX1_spread 5 = .ok (.aload_n 0, 1) := by decide +kernel
theorem dX1_spread_6 : decode cX1_spread 6 = .ok (.getfield 45, 3) := by decide +kernel
theorem dX1_spread_9 : decode cX1_spread 9 = .ok (.lmul, 1) := by decide +kernel
theorem dX1_spread_10 : decode cX1_spread 10 = .ok (.aload_n 0, 1) := by decide +kernel
theorem dX1_spread_11 : decode cX1_spread 11 = .ok (.getfield 32, 3) := by decide +kernel
theorem dX1_spread_14 : decode cX1_spread 14 = .ok (.aload_n 0, 1) := by decide +kernel
theorem dX1_spread_15 : decode cX1_spread 15 = .ok (.getfield 32, 3) := by decide +kernel
theorem dX1_spread_18 : decode cX1_spread 18 = .ok (.lmul, 1) := by decide +kernel
theorem dX1_spread_19 : decode cX1_spread 19 = .ok (.lsub, 1) := by decide +kernel
theorem dX1_spread_20 : decode cX1_spread 20 = .ok (.aload_n 0, 1) := by decide +kernel
theorem dX1_spread_21 : decode cX1_spread 21 = .ok (.getfield 36, 3) := by decide +kernel
theorem dX1_spread_24 : decode cX1_spread 24 = .ok (.aload_n 0, 1) := by decide +kernel
theorem dX1_spread_25 : decode cX1_spread 25 = .ok (.getfield 36, 3) := by decide +kernel
theorem dX1_spread_28 : decode cX1_spread 28 = .ok (.lmul, 1) := by decide +kernel
theorem dX1_spread_29 : decode cX1_spread 29 = .ok (.lsub, 1) := by decide +kernel
theorem dX1_spread_30 : decode cX1_spread 30 = .ok (.lreturn, 1) := by decide +kernel
theorem dX1_stretch_0 : decode cX1_stretch 0 = .ok (.aload_n 0, 1) := by decide +kernel
theorem dX1_stretch_1 : decode cX1_stretch 1 = .ok (.getfield 28, 3) := by decide +kernel
theorem dX1_stretch_4 : decode cX1_stretch 4 = .ok (.i2l, 1) := by decide +kernel
theorem dX1_stretch_5 : decode cX1_stretch 5 = .ok (.aload_n 0, 1) := by decide +kernel
theorem dX1_stretch_6 : decode cX1_stretch 6 = .ok (.getfield 48, 3) := by decide +kernel
theorem dX1_stretch_9 : decode cX1_stretch 9 = .ok (.lmul, 1) := by decide +kernel
theorem dX1_stretch_10 : decode cX1_stretch 10 = .ok (.aload_n 0, 1) := by decide +kernel
theorem dX1_stretch_11 : decode cX1_stretch 11 = .ok (.getfield 32, 3) := by decide +kernel
theorem dX1_stretch_14 : decode cX1_stretch 14 = .ok (.aload_n 0, 1) := by decide +kernel
theorem dX1_stretch_15 : decode cX1_stretch 15 = .ok (.getfield 39, 3) := by decide +kernel
theorem dX1_stretch_18 : decode cX1_stretch 18 = .ok (.lmul, 1) := by decide +kernel
theorem dX1_stretch_19 : decode cX1_stretch 19 = .ok (.lsub, 1) := by decide +kernel
theorem dX1_stretch_20 : decode cX1_stretch 20 = .ok (.aload_n 0, 1) := by decide +kernel
theorem dX1_stretch_21 : decode cX1_stretch 21 = .ok (.getfield 36, 3) := by decide +kernel
theorem dX1_stretch_24 : decode cX1_stretch 24 = .ok (.aload_n 0, 1) := by decide +kernel
theorem dX1_stretch_25 : decode cX1_stretch 25 = .ok (.getfield 42, 3) := by decide +kernel
theorem dX1_stretch_28 : decode cX1_stretch 28 = .ok (.lmul, 1) := by decide +kernel
theorem dX1_stretch_29 : decode cX1_stretch 29 = .ok (.lsub, 1) := by decide +kernel
theorem dX1_stretch_30 : decode cX1_stretch 30 = .ok (.lreturn, 1) := by decide +kernel
theorem dX1_turn_0 : decode cX1_turn 0 = .ok (.aload_n 0, 1) := by decide +kernel
theorem dX1_turn_1 : decode cX1_turn 1 = .ok (.getfield 28, 3) := by decide +kernel
theorem dX1_turn_4 : decode cX1_turn 4 = .ok (.i2l, 1) := by decide +kernel
theorem dX1_turn_5 : decode cX1_turn 5 = .ok (.aload_n 0, 1) := by decide +kernel
theorem dX1_turn_6 : decode cX1_turn 6 = .ok (.getfield 51, 3) := by decide +kernel
theorem dX1_turn_9 : decode cX1_turn 9 = .ok (.lmul, 1) := by decide +kernel
theorem dX1_turn_10 : decode cX1_turn 10 = .ok (.aload_n 0, 1) := by decide +kernel
theorem dX1_turn_11 : decode cX1_turn 11 = .ok (.getfield 32, 3) := by decide +kernel
theorem dX1_turn_14 : decode cX1_turn 14 = .ok (.aload_n 0, 1) := by decide +kernel
theorem dX1_turn_15 : decode cX1_turn 15 = .ok (.getfield 42, 3) := by decide +kernel
theorem dX1_turn_18 : decode cX1_turn 18 = .ok (.lmul, 1) := by decide +kernel
theorem dX1_turn_19 : decode cX1_turn 19 = .ok (.lsub, 1) := by decide +kernel
theorem dX1_turn_20 : decode cX1_turn 20 = .ok (.aload_n 0, 1) := by decide +kernel
theorem dX1_turn_21 : decode cX1_turn 21 = .ok (.getfield 36, 3) := by decide +kernel
theorem dX1_turn_24 : decode cX1_turn 24 = .ok (.aload_n 0, 1) := by decide +kernel
theorem dX1_turn_25 : decode cX1_turn 25 = .ok (.getfield 39, 3) := by decide +kernel
theorem dX1_turn_28 : decode cX1_turn 28 = .ok (.lmul, 1) := by decide +kernel
theorem dX1_turn_29 : decode cX1_turn 29 = .ok (.ladd, 1) := by decide +kernel
theorem dX1_turn_30 : decode cX1_turn 30 = .ok (.lreturn, 1) := by decide +kernel
set_option maxRecDepth 20000 in
theorem ggX1_across_X1_spread : GoodIn wsX1_across wsX1_spread := goodIn_r _ [8, 9, 10, 2, 3, 22, 23, 24, 25, 26, 27, 28, 29, 30, 31, 32, 33] rfl (by decide +kernel)
set_option maxRecDepth 20000 in
theorem gX1_across_X1_spread : GoodIn wsX1_across (wsV RX1 54 RX1 yX1_spread wsX1_spread) := goodIn_app (goodIn_of _ (by decide +kernel)) ggX1_across_X1_spread
set_option maxRecDepth 20000 in
theorem ggX1_across_X1_stretch : GoodIn wsX1_across wsX1_stretch := goodIn_r _ [14, 9, 15, 2, 1, 3, 16, 22, 23, 24, 25, 26, 27, 28, 29, 30, 31, 32, 33] rfl (by decide +kernel)
set_option maxRecDepth 20000 in
theorem gX1_across_X1_stretch : GoodIn wsX1_across (wsV RX1 58 RX1 yX1_stretch wsX1_stretch) := goodIn_app (goodIn_of _ (by decide +kernel)) ggX1_across_X1_stretch
set_option maxRecDepth 20000 in
theorem ggX1_across_X1_turn : GoodIn wsX1_across wsX1_turn := goodIn_r _ [20, 9, 21, 2, 16, 3, 1, 22, 23, 24, 25, 26, 27, 28, 29, 30, 31, 32, 33] rfl (by decide +kernel)
set_option maxRecDepth 20000 in
theorem gX1_across_X1_turn : GoodIn wsX1_across (wsV RX1 61 RX1 yX1_turn wsX1_turn) := goodIn_app (goodIn_of _ (by decide +kernel)) ggX1_across_X1_turn
theorem dX1_across_0 : decode cX1_across 0 = .ok (.aload_n 0, 1) := by decide +kernel
theorem dX1_across_1 : decode cX1_across 1 = .ok (.getfield 39, 3) := by decide +kernel
theorem dX1_across_4 : decode cX1_across 4 = .ok (.aload_n 0, 1) := by decide +kernel
theorem dX1_across_5 : decode cX1_across 5 = .ok (.invokevirtual 54, 3) := by decide +kernel
theorem dX1_across_8 : decode cX1_across 8 = .ok (.lmul, 1) := by decide +kernel
theorem dX1_across_9 : decode cX1_across 9 = .ok (.aload_n 0, 1) := by decide +kernel
theorem dX1_across_10 : decode cX1_across 10 = .ok (.invokevirtual 58, 3) := by decide +kernel
theorem dX1_across_13 : decode cX1_across 13 = .ok (.aload_n 0, 1) := by decide +kernel
theorem dX1_across_14 : decode cX1_across 14 = .ok (.getfield 32, 3) := by decide +kernel
theorem dX1_across_17 : decode cX1_across 17 = .ok (.lmul, 1) := by decide +kernel
theorem dX1_across_18 : decode cX1_across 18 = .ok (.lsub, 1) := by decide +kernel
theorem dX1_across_19 : decode cX1_across 19 = .ok (.aload_n 0, 1) := by decide +kernel
theorem dX1_across_20 : decode cX1_across 20 = .ok (.invokevirtual 61, 3) := by decide +kernel
theorem dX1_across_23 : decode cX1_across 23 = .ok (.aload_n 0, 1) := by decide +kernel
theorem dX1_across_24 : decode cX1_across 24 = .ok (.getfield 36, 3) := by decide +kernel
theorem dX1_across_27 : decode cX1_across 27 = .ok (.lmul, 1) := by decide +kernel
theorem dX1_across_28 : decode cX1_across 28 = .ok (.ladd, 1) := by decide +kernel
theorem dX1_across_29 : decode cX1_across 29 = .ok (.lreturn, 1) := by decide +kernel
set_option maxRecDepth 20000 in
theorem ggX1_up_X1_spread : GoodIn wsX1_up wsX1_spread := goodIn_r _ [8, 9, 10, 3, 2, 22, 23, 24, 25, 26, 27, 28, 29, 30, 31, 32, 33] rfl (by decide +kernel)
set_option maxRecDepth 20000 in
theorem gX1_up_X1_spread : GoodIn wsX1_up (wsV RX1 54 RX1 yX1_spread wsX1_spread) := goodIn_app (goodIn_of _ (by decide +kernel)) ggX1_up_X1_spread
set_option maxRecDepth 20000 in
theorem ggX1_up_X1_stretch : GoodIn wsX1_up wsX1_stretch := goodIn_r _ [14, 9, 15, 3, 16, 2, 1, 22, 23, 24, 25, 26, 27, 28, 29, 30, 31, 32, 33] rfl (by decide +kernel)
set_option maxRecDepth 20000 in
theorem gX1_up_X1_stretch : GoodIn wsX1_up (wsV RX1 58 RX1 yX1_stretch wsX1_stretch) := goodIn_app (goodIn_of _ (by decide +kernel)) ggX1_up_X1_stretch
set_option maxRecDepth 20000 in
theorem ggX1_up_X1_turn : GoodIn wsX1_up wsX1_turn := goodIn_r _ [20, 9, 21, 3, 1, 2, 16, 22, 23, 24, 25, 26, 27, 28, 29, 30, 31, 32, 33] rfl (by decide +kernel)
set_option maxRecDepth 20000 in
theorem gX1_up_X1_turn : GoodIn wsX1_up (wsV RX1 61 RX1 yX1_turn wsX1_turn) := goodIn_app (goodIn_of _ (by decide +kernel)) ggX1_up_X1_turn
theorem dX1_up_0 : decode cX1_up 0 = .ok (.aload_n 0, 1) := by decide +kernel
theorem dX1_up_1 : decode cX1_up 1 = .ok (.getfield 42, 3) := by decide +kernel
theorem dX1_up_4 : decode cX1_up 4 = .ok (.aload_n 0, 1) := by decide +kernel
theorem dX1_up_5 : decode cX1_up 5 = .ok (.invokevirtual 54, 3) := by decide +kernel
theorem dX1_up_8 : decode cX1_up 8 = .ok (.lmul, 1) := by decide +kernel
theorem dX1_up_9 : decode cX1_up 9 = .ok (.aload_n 0, 1) := by decide +kernel
theorem dX1_up_10 : decode cX1_up 10 = .ok (.invokevirtual 58, 3) := by decide +kernel
theorem dX1_up_13 : decode cX1_up 13 = .ok (.aload_n 0, 1) := by decide +kernel
theorem dX1_up_14 : decode cX1_up 14 = .ok (.getfield 36, 3) := by decide +kernel
theorem dX1_up_17 : decode cX1_up 17 = .ok (.lmul, 1) := by decide +kernel
theorem dX1_up_18 : decode cX1_up 18 = .ok (.lsub, 1) := by decide +kernel
theorem dX1_up_19 : decode cX1_up 19 = .ok (.aload_n 0, 1) := by decide +kernel
theorem dX1_up_20 : decode cX1_up 20 = .ok (.invokevirtual 61, 3) := by decide +kernel
theorem dX1_up_23 : decode cX1_up 23 = .ok (.aload_n 0, 1) := by decide +kernel
theorem dX1_up_24 : decode cX1_up 24 = .ok (.getfield 32, 3) := by decide +kernel
theorem dX1_up_27 : decode cX1_up 27 = .ok (.lmul, 1) := by decide +kernel
theorem dX1_up_28 : decode cX1_up 28 = .ok (.lsub, 1) := by decide +kernel
theorem dX1_up_29 : decode cX1_up 29 = .ok (.lreturn, 1) := by decide +kernel
theorem dX2_init_0 : decode cX2_init 0 = .ok (.aload_n 0, 1) := by decide +kernel
theorem dX2_init_1 : decode cX2_init 1 = .ok (.invokespecial 3, 3) := by decide +kernel
theorem dX2_init_4 : decode cX2_init 4 = .ok (.aload_n 0, 1) := by decide +kernel
theorem dX2_init_5 : decode cX2_init 5 = .ok (.iconst 0, 1) := by decide +kernel
theorem dX2_init_6 : decode cX2_init 6 = .ok (.putfield 9, 3) := by decide +kernel
theorem dX2_init_9 : decode cX2_init 9 = .ok (.return_, 1) := by decide +kernel
theorem dX2_isEmpty_0 : decode cX2_isEmpty 0 = .ok (.aload_n 0, 1) := by decide +kernel
theorem dX2_isEmpty_1 : decode cX2_isEmpty 1 = .ok (.getfield 9, 3) := by decide +kernel
theorem dX2_isEmpty_4 : decode cX2_isEmpty 4 = .ok (.ifCond .ne 7, 3) := by decide +kernel
theorem dX2_isEmpty_7 : decode cX2_isEmpty 7 = .ok (.iconst 1, 1) := by decide +kernel
theorem dX2_isEmpty_8 : decode cX2_isEmpty 8 = .ok (.goto 4, 3) := by decide +kernel
theorem dX2_isEmpty_11 : decode cX2_isEmpty 11 = .ok (.iconst 0, 1) := by decide +kernel
theorem dX2_isEmpty_12 : decode cX2_isEmpty 12 = .ok (.ireturn, 1) := by decide +kernel
theorem dX2_isFull_0 : decode cX2_isFull 0 = .ok (.aload_n 0, 1) := by decide +kernel
theorem dX2_isFull_1 : decode cX2_isFull 1 = .ok (.getfield 9, 3) := by decide +kernel
theorem dX2_isFull_4 : decode cX2_isFull 4 = .ok (.bipush 30, 2) := by decide +kernel
theorem dX2_isFull_6 : decode cX2_isFull 6 = .ok (.if_icmp .lt 7, 3) := by decide +kernel
theorem dX2_isFull_9 : decode cX2_isFull 9 = .ok (.iconst 1, 1) := by decide +kernel
theorem dX2_isFull_10 : decode cX2_isFull 10 = .ok (.goto 4, 3) := by decide +kernel
theorem dX2_isFull_13 : decode cX2_isFull 13 = .ok (.iconst 0, 1) := by decide +kernel
theorem dX2_isFull_14 : decode cX2_isFull 14 = .ok (.ireturn, 1) := by decide +kernel
theorem dX2_add_0 : decode cX2_add 0 = .ok (.aload_n 0, 1) := by decide +kernel
theorem dX2_add_1 : decode cX2_add 1 = .ok (.dup, 1) := by decide +kernel
theorem dX2_add_2 : decode cX2_add 2 = .ok (.getfield 9, 3) := by decide +kernel
theorem dX2_add_5 : decode cX2_add 5 = .ok (.iconst 1, 1) := by decide +kernel
theorem dX2_add_6 : decode cX2_add 6 = .ok (.iadd, 1) := by decide +kernel
theorem dX2_add_7 : decode cX2_add 7 = .ok (.putfield 9, 3) := by decide +kernel
theorem dX2_add_10 : decode cX2_add 10 = .ok (.aload_n 0, 1) := by decide +kernel
theorem dX2_add_11 : decode cX2_add 11 = .ok (.dup, 1) := by decide +kernel
theorem dX2_add_12 : decode cX2_add 12 = .ok (.getfield 15, 3) := by decide +kernel
theorem dX2_add_15 : decode cX2_add 15 = .ok (.iload_n 1, 1) := by decide +kernel
theorem dX2_add_16 : decode cX2_add 16 = .ok (.i2l, 1) := by decide +kernel
theorem dX2_add_17 : decode cX2_add 17 = .ok (.ladd, 1) := by decide +kernel
theorem dX2_add_18 : decode cX2_add 18 = .ok (.putfield 15, 3) := by decide +kernel
theorem dX2_add_21 : decode cX2_add 21 = .ok (.aload_n 0, 1) := by decide +kernel
theorem dX2_add_22 : decode cX2_add 22 = .ok (.dup, 1) := by decide +kernel
theorem dX2_add_23 : decode cX2_add 23 = .ok (.getfield 19, 3) := by decide +kernel
theorem dX2_add_26 : decode cX2_add 26 = .ok (.iload_n 2, 1) := by decide +kernel
theorem dX2_add_27 : decode cX2_add 27 = .ok (.i2l, 1) := by decide +kernel
theorem dX2_add_28 : decode cX2_add 28 = .ok (.ladd, 1) := by decide +kernel
theorem dX2_add_29 : decode cX2_add 29 = .ok (.putfield 19, 3) := by decide +kernel
theorem dX2_add_32 : decode cX2_add 32 = .ok (.aload_n 0, 1) := by decide +kernel
theorem dX2_add_33 : decode cX2_add 33 = .ok (.dup, 1) := by decide +kernel
theorem dX2_add_34 : decode cX2_add 34 = .ok (.getfield 22, 3) := by decide +kernel
theorem dX2_add_37 : decode cX2_add 37 = .ok (.iload_n 1, 1) := by decide +kernel
theorem dX2_add_38 : decode cX2_add 38 = .ok (.iload_n 1, 1) := by decide +kernel
theorem dX2_add_39 : decode cX2_add 39 = .ok (.imul, 1) := by decide +kernel
theorem dX2_add_40 : decode cX2_add 40 = .ok (.i2l, 1) := by decide +kernel
theorem dX2_add_41 : decode cX2_add 41 = .ok (.ladd, 1) := by decide +kernel
theorem dX2_add_42 : decode cX2_add 42 = .ok (.putfield 22, 3) := by decide +kernel
theorem dX2_add_45 : decode cX2_add 45 = .ok (.aload_n 0, 1) := by decide +kernel
theorem dX2_add_46 : decode cX2_add 46 = .ok (.dup, 1) := by decide +kernel
theorem dX2_add_47 : decode cX2_add 47 = .ok (.getfield 25, 3) := by decide +kernel
theorem dX2_add_50 : decode cX2_add 50 = .ok (.iload_n 1, 1) := by decide +kernel
theorem dX2_add_51 : decode cX2_add 51 = .ok (.iload_n 2, 1) := by decide +kernel
theorem dX2_add_52 : decode cX2_add 52 = .ok (.imul, 1) := by decide +kernel
theorem dX2_add_53 : decode cX2_add 53 = .ok (.i2l, 1) := by decide +kernel
theorem dX2_add_54 : decode cX2_add 54 = .ok (.ladd, 1) := by decide +kernel
theorem dX2_add_55 : decode cX2_add 55 = .ok (.putfield 25, 3) := by decide +kernel
theorem dX2_add_58 : decode cX2_add 58 = .ok (.aload_n 0, 1) := by decide +kernel
theorem dX2_add_59 : decode cX2_add 59 = .ok (.getfield 9, 3) := by decide +kernel
theorem dX2_add_62 : decode cX2_add 62 = .ok (.ireturn, 1) := by decide +kernel
set_option maxRecDepth 20000 in
theorem ggX2_keyFor_X7_held : GoodIn wsX2_keyFor wsX7_held := goodIn_r _ [8, 9, 10, 11, 12, 13, 14, 15] rfl (by decide +kernel)
set_option maxRecDepth 20000 in
theorem gX2_keyFor_X7_held_n28 : GoodIn wsX2_keyFor (wsX7_held) := ggX2_keyFor_X7_held
theorem dX2_keyFor_0 : decode cX2_keyFor 0 = .ok (.aload_n 0, 1) := by decide +kernel
theorem dX2_keyFor_1 : decode cX2_keyFor 1 = .ok (.getfield 9, 3) := by decide +kernel
theorem dX2_keyFor_4 : decode cX2_keyFor 4 = .ok (.i2l, 1) := by decide +kernel
theorem dX2_keyFor_5 : decode cX2_keyFor 5 = .ok (.aload_n 0, 1) := by decide +kernel
theorem dX2_keyFor_6 : decode cX2_keyFor 6 = .ok (.getfield 22, 3) := by decide +kernel
theorem dX2_keyFor_9 : decode cX2_keyFor 9 = .ok (.lmul, 1) := by decide +kernel
theorem dX2_keyFor_10 : decode cX2_keyFor 10 = .ok (.aload_n 0, 1) := by decide +kernel
theorem dX2_keyFor_11 : decode cX2_keyFor 11 = .ok (.getfield 15, 3) := by decide +kernel
theorem dX2_keyFor_14 : decode cX2_keyFor 14 = .ok (.aload_n 0, 1) := by decide +kernel
theorem dX2_keyFor_15 : decode cX2_keyFor 15 = .ok (.getfield 15, 3) := by decide +kernel
theorem dX2_keyFor_18 : decode cX2_keyFor 18 = .ok (.lmul, 1) := by decide +kernel
theorem dX2_keyFor_19 : decode cX2_keyFor 19 = .ok (.lsub, 1) := by decide +kernel
theorem dX2_keyFor_20 : decode cX2_keyFor 20 = .ok (.lstore_n 2, 1) := by decide +kernel
theorem dX2_keyFor_21 : decode cX2_keyFor 21 = .ok (.lload_n 2, 1) := by decide +kernel
theorem dX2_keyFor_22 : decode cX2_keyFor 22 = .ok (.lconst 0, 1) := by decide +kernel
theorem dX2_keyFor_23 : decode cX2_keyFor 23 = .ok (.lcmp, 1) := by decide +kernel
theorem dX2_keyFor_24 : decode cX2_keyFor 24 = .ok (.ifCond .eq 63, 3) := by decide +kernel
theorem dX2_keyFor_27 : decode cX2_keyFor 27 = .ok (.aload_n 0, 1) := by decide +kernel
theorem dX2_keyFor_28 : decode cX2_keyFor 28 = .ok (.getfield 19, 3) := by decide +kernel
theorem dX2_keyFor_31 : decode cX2_keyFor 31 = .ok (.aload_n 0, 1) := by decide +kernel
theorem dX2_keyFor_32 : decode cX2_keyFor 32 = .ok (.getfield 22, 3) := by decide +kernel
