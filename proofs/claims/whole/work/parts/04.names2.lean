theorem dX2_keyFor_35 : decode cX2_keyFor 35 = .ok (.lmul, 1) := by decide +kernel
theorem dX2_keyFor_36 : decode cX2_keyFor 36 = .ok (.aload_n 0, 1) := by decide +kernel
theorem dX2_keyFor_37 : decode cX2_keyFor 37 = .ok (.getfield 15, 3) := by decide +kernel
theorem dX2_keyFor_40 : decode cX2_keyFor 40 = .ok (.aload_n 0, 1) := by decide +kernel
theorem dX2_keyFor_41 : decode cX2_keyFor 41 = .ok (.getfield 25, 3) := by decide +kernel
theorem dX2_keyFor_44 : decode cX2_keyFor 44 = .ok (.lmul, 1) := by decide +kernel
theorem dX2_keyFor_45 : decode cX2_keyFor 45 = .ok (.lsub, 1) := by decide +kernel
theorem dX2_keyFor_46 : decode cX2_keyFor 46 = .ok (.lstore 4, 2) := by decide +kernel
theorem dX2_keyFor_48 : decode cX2_keyFor 48 = .ok (.aload_n 0, 1) := by decide +kernel
theorem dX2_keyFor_49 : decode cX2_keyFor 49 = .ok (.getfield 9, 3) := by decide +kernel
theorem dX2_keyFor_52 : decode cX2_keyFor 52 = .ok (.i2l, 1) := by decide +kernel
theorem dX2_keyFor_53 : decode cX2_keyFor 53 = .ok (.aload_n 0, 1) := by decide +kernel
theorem dX2_keyFor_54 : decode cX2_keyFor 54 = .ok (.getfield 25, 3) := by decide +kernel
theorem dX2_keyFor_57 : decode cX2_keyFor 57 = .ok (.lmul, 1) := by decide +kernel
theorem dX2_keyFor_58 : decode cX2_keyFor 58 = .ok (.aload_n 0, 1) := by decide +kernel
theorem dX2_keyFor_59 : decode cX2_keyFor 59 = .ok (.getfield 15, 3) := by decide +kernel
theorem dX2_keyFor_62 : decode cX2_keyFor 62 = .ok (.aload_n 0, 1) := by decide +kernel
theorem dX2_keyFor_63 : decode cX2_keyFor 63 = .ok (.getfield 19, 3) := by decide +kernel
theorem dX2_keyFor_66 : decode cX2_keyFor 66 = .ok (.lmul, 1) := by decide +kernel
theorem dX2_keyFor_67 : decode cX2_keyFor 67 = .ok (.lsub, 1) := by decide +kernel
theorem dX2_keyFor_68 : decode cX2_keyFor 68 = .ok (.lstore 6, 2) := by decide +kernel
theorem dX2_keyFor_70 : decode cX2_keyFor 70 = .ok (.lload 4, 2) := by decide +kernel
theorem dX2_keyFor_72 : decode cX2_keyFor 72 = .ok (.iload_n 1, 1) := by decide +kernel
theorem dX2_keyFor_73 : decode cX2_keyFor 73 = .ok (.i2l, 1) := by decide +kernel
theorem dX2_keyFor_74 : decode cX2_keyFor 74 = .ok (.lload 6, 2) := by decide +kernel
theorem dX2_keyFor_76 : decode cX2_keyFor 76 = .ok (.lmul, 1) := by decide +kernel
theorem dX2_keyFor_77 : decode cX2_keyFor 77 = .ok (.ladd, 1) := by decide +kernel
theorem dX2_keyFor_78 : decode cX2_keyFor 78 = .ok (.lload_n 2, 1) := by decide +kernel
theorem dX2_keyFor_79 : decode cX2_keyFor 79 = .ok (.ldiv, 1) := by decide +kernel
theorem dX2_keyFor_80 : decode cX2_keyFor 80 = .ok (.iconst 0, 1) := by decide +kernel
theorem dX2_keyFor_81 : decode cX2_keyFor 81 = .ok (.bipush 100, 2) := by decide +kernel
theorem dX2_keyFor_83 : decode cX2_keyFor 83 = .ok (.invokestatic 28, 3) := by decide +kernel
theorem dX2_keyFor_86 : decode cX2_keyFor 86 = .ok (.ireturn, 1) := by decide +kernel
theorem dX2_keyFor_87 : decode cX2_keyFor 87 = .ok (.aload_n 0, 1) := by decide +kernel
theorem dX2_keyFor_88 : decode cX2_keyFor 88 = .ok (.getfield 9, 3) := by decide +kernel
theorem dX2_keyFor_91 : decode cX2_keyFor 91 = .ok (.ifCond .le 17, 3) := by decide +kernel
theorem dX2_keyFor_94 : decode cX2_keyFor 94 = .ok (.aload_n 0, 1) := by decide +kernel
theorem dX2_keyFor_95 : decode cX2_keyFor 95 = .ok (.getfield 19, 3) := by decide +kernel
theorem dX2_keyFor_98 : decode cX2_keyFor 98 = .ok (.aload_n 0, 1) := by decide +kernel
theorem dX2_keyFor_99 : decode cX2_keyFor 99 = .ok (.getfield 9, 3) := by decide +kernel
theorem dX2_keyFor_102 : decode cX2_keyFor 102 = .ok (.i2l, 1) := by decide +kernel
theorem dX2_keyFor_103 : decode cX2_keyFor 103 = .ok (.ldiv, 1) := by decide +kernel
theorem dX2_keyFor_104 : decode cX2_keyFor 104 = .ok (.l2i, 1) := by decide +kernel
theorem dX2_keyFor_105 : decode cX2_keyFor 105 = .ok (.goto 4, 3) := by decide +kernel
theorem dX2_keyFor_108 : decode cX2_keyFor 108 = .ok (.iconst 0, 1) := by decide +kernel
theorem dX2_keyFor_109 : decode cX2_keyFor 109 = .ok (.ireturn, 1) := by decide +kernel
theorem dX3_init_0 : decode cX3_init 0 = .ok (.aload_n 0, 1) := by decide +kernel
theorem dX3_init_1 : decode cX3_init 1 = .ok (.invokespecial 1, 3) := by decide +kernel
theorem dX3_init_4 : decode cX3_init 4 = .ok (.aload_n 0, 1) := by decide +kernel
theorem dX3_init_5 : decode cX3_init 5 = .ok (.getstatic 7, 3) := by decide +kernel
theorem dX3_init_8 : decode cX3_init 8 = .ok (.invokevirtual 13, 3) := by decide +kernel
theorem dX3_init_11 : decode cX3_init 11 = .ok (.checkcast 14, 3) := by decide +kernel
theorem dX3_init_14 : decode cX3_init 14 = .ok (.putfield 18, 3) := by decide +kernel
theorem dX3_init_17 : decode cX3_init 17 = .ok (.return_, 1) := by decide +kernel
theorem dX3_has_0 : decode cX3_has 0 = .ok (.iload_n 1, 1) := by decide +kernel
theorem dX3_has_1 : decode cX3_has 1 = .ok (.ifCond .lt 16, 3) := by decide +kernel
theorem dX3_has_4 : decode cX3_has 4 = .ok (.iload_n 1, 1) := by decide +kernel
theorem dX3_has_5 : decode cX3_has 5 = .ok (.aload_n 0, 1) := by decide +kernel
theorem dX3_has_6 : decode cX3_has 6 = .ok (.getfield 18, 3) := by decide +kernel
theorem dX3_has_9 : decode cX3_has 9 = .ok (.arraylength, 1) := by decide +kernel
theorem dX3_has_10 : decode cX3_has 10 = .ok (.if_icmp .ge 7, 3) := by decide +kernel
theorem dX3_has_13 : decode cX3_has 13 = .ok (.iconst 1, 1) := by decide +kernel
theorem dX3_has_14 : decode cX3_has 14 = .ok (.goto 4, 3) := by decide +kernel
theorem dX3_has_17 : decode cX3_has 17 = .ok (.iconst 0, 1) := by decide +kernel
theorem dX3_has_18 : decode cX3_has 18 = .ok (.ireturn, 1) := by decide +kernel
set_option maxRecDepth 20000 in
theorem ggX3_allows_X7_within : GoodIn wsX3_allows wsX7_within := goodIn_r _ [5] rfl (by decide +kernel)
set_option maxRecDepth 20000 in
theorem gX3_allows_X7_within_n27 : GoodIn wsX3_allows (wsX7_within) := ggX3_allows_X7_within
theorem dX3_allows_0 : decode cX3_allows 0 = .ok (.iload_n 2, 1) := by decide +kernel
theorem dX3_allows_1 : decode cX3_allows 1 = .ok (.getstatic 21, 3) := by decide +kernel
theorem dX3_allows_4 : decode cX3_allows 4 = .ok (.iload_n 1, 1) := by decide +kernel
theorem dX3_allows_5 : decode cX3_allows 5 = .ok (.iaload, 1) := by decide +kernel
theorem dX3_allows_6 : decode cX3_allows 6 = .ok (.getstatic 24, 3) := by decide +kernel
theorem dX3_allows_9 : decode cX3_allows 9 = .ok (.iload_n 1, 1) := by decide +kernel
theorem dX3_allows_10 : decode cX3_allows 10 = .ok (.iaload, 1) := by decide +kernel
theorem dX3_allows_11 : decode cX3_allows 11 = .ok (.invokestatic 27, 3) := by decide +kernel
theorem dX3_allows_14 : decode cX3_allows 14 = .ok (.ireturn, 1) := by decide +kernel
theorem dX3_valueOf_0 : decode cX3_valueOf 0 = .ok (.aload_n 0, 1) := by decide +kernel
theorem dX3_valueOf_1 : decode cX3_valueOf 1 = .ok (.getfield 18, 3) := by decide +kernel
theorem dX3_valueOf_4 : decode cX3_valueOf 4 = .ok (.iload_n 1, 1) := by decide +kernel
theorem dX3_valueOf_5 : decode cX3_valueOf 5 = .ok (.iaload, 1) := by decide +kernel
theorem dX3_valueOf_6 : decode cX3_valueOf 6 = .ok (.ireturn, 1) := by decide +kernel
theorem dX3_change_0 : decode cX3_change 0 = .ok (.aload_n 0, 1) := by decide +kernel
theorem dX3_change_1 : decode cX3_change 1 = .ok (.getfield 18, 3) := by decide +kernel
theorem dX3_change_4 : decode cX3_change 4 = .ok (.iload_n 1, 1) := by decide +kernel
theorem dX3_change_5 : decode cX3_change 5 = .ok (.iaload, 1) := by decide +kernel
theorem dX3_change_6 : decode cX3_change 6 = .ok (.istore_n 3, 1) := by decide +kernel
theorem dX3_change_7 : decode cX3_change 7 = .ok (.aload_n 0, 1) := by decide +kernel
theorem dX3_change_8 : decode cX3_change 8 = .ok (.getfield 18, 3) := by decide +kernel
theorem dX3_change_11 : decode cX3_change 11 = .ok (.iload_n 1, 1) := by decide +kernel
theorem dX3_change_12 : decode cX3_change 12 = .ok (.iload_n 2, 1) := by decide +kernel
theorem dX3_change_13 : decode cX3_change 13 = .ok (.iastore, 1) := by decide +kernel
theorem dX3_change_14 : decode cX3_change 14 = .ok (.iload_n 3, 1) := by decide +kernel
theorem dX3_change_15 : decode cX3_change 15 = .ok (.ireturn, 1) := by decide +kernel
set_option maxRecDepth 20000 in
theorem ggX4_init_X4_restart : GoodIn wsX4_init wsX4_restart := goodIn_r _ [12, 13, 14, 15, 16, 17, 18, 19, 20, 21, 22] rfl (by decide +kernel)
set_option maxRecDepth 20000 in
theorem gX4_init_X4_restart : GoodIn wsX4_init (wsV RX4 19 RX4 yX4_restart wsX4_restart) := goodIn_app (goodIn_of _ (by decide +kernel)) ggX4_init_X4_restart
theorem dX4_init_0 : decode cX4_init 0 = .ok (.aload_n 0, 1) := by decide +kernel
theorem dX4_init_1 : decode cX4_init 1 = .ok (.invokespecial 3, 3) := by decide +kernel
theorem dX4_init_4 : decode cX4_init 4 = .ok (.aload_n 0, 1) := by decide +kernel
theorem dX4_init_5 : decode cX4_init 5 = .ok (.sipush 8000, 3) := by decide +kernel
theorem dX4_init_8 : decode cX4_init 8 = .ok (.newarray .int, 2) := by decide +kernel
theorem dX4_init_10 : decode cX4_init 10 = .ok (.putfield 9, 3) := by decide +kernel
theorem dX4_init_13 : decode cX4_init 13 = .ok (.aload_n 0, 1) := by decide +kernel
theorem dX4_init_14 : decode cX4_init 14 = .ok (.sipush 1000, 3) := by decide +kernel
theorem dX4_init_17 : decode cX4_init 17 = .ok (.newarray .boolean, 2) := by decide +kernel
theorem dX4_init_19 : decode cX4_init 19 = .ok (.putfield 15, 3) := by decide +kernel
theorem dX4_init_22 : decode cX4_init 22 = .ok (.aload_n 0, 1) := by decide +kernel
theorem dX4_init_23 : decode cX4_init 23 = .ok (.invokevirtual 19, 3) := by decide +kernel
theorem dX4_init_26 : decode cX4_init 26 = .ok (.return_, 1) := by decide +kernel
theorem dX4_restart_0 : decode cX4_restart 0 = .ok (.aload_n 0, 1) := by decide +kernel
theorem dX4_restart_1 : decode cX4_restart 1 = .ok (.iconst 0, 1) := by decide +kernel
theorem dX4_restart_2 : decode cX4_restart 2 = .ok (.putfield 22, 3) := by decide +kernel
theorem dX4_restart_5 : decode cX4_restart 5 = .ok (.aload_n 0, 1) := by decide +kernel
theorem dX4_restart_6 : decode cX4_restart 6 = .ok (.iconst 0, 1) := by decide +kernel
theorem dX4_restart_7 : decode cX4_restart 7 = .ok (.putfield 26, 3) := by decide +kernel
theorem dX4_restart_10 : decode cX4_restart 10 = .ok (.aload_n 0, 1) := by decide +kernel
theorem dX4_restart_11 : decode cX4_restart 11 = .ok (.iconst 0, 1) := by decide +kernel
theorem dX4_restart_12 : decode cX4_restart 12 = .ok (.putfield 29, 3) := by decide +kernel
theorem dX4_restart_15 : decode cX4_restart 15 = .ok (.aload_n 0, 1) := by decide +kernel
theorem dX4_restart_16 : decode cX4_restart 16 = .ok (.bipush (-6), 2) := by decide +kernel
theorem dX4_restart_18 : decode cX4_restart 18 = .ok (.putfield 32, 3) := by decide +kernel
theorem dX4_restart_21 : decode cX4_restart 21 = .ok (.return_, 1) := by decide +kernel
theorem dX4_has_0 : decode cX4_has 0 = .ok (.iload_n 1, 1) := by decide +kernel
theorem dX4_has_1 : decode cX4_has 1 = .ok (.iconst 1, 1) := by decide +kernel
theorem dX4_has_2 : decode cX4_has 2 = .ok (.if_icmp .lt 15, 3) := by decide +kernel
theorem dX4_has_5 : decode cX4_has 5 = .ok (.iload_n 1, 1) := by decide +kernel
theorem dX4_has_6 : decode cX4_has 6 = .ok (.aload_n 0, 1) := by decide +kernel
theorem dX4_has_7 : decode cX4_has 7 = .ok (.getfield 22, 3) := by decide +kernel
theorem dX4_has_10 : decode cX4_has 10 = .ok (.if_icmp .gt 7, 3) := by decide +kernel
theorem dX4_has_13 : decode cX4_has 13 = .ok (.iconst 1, 1) := by decide +kernel
theorem dX4_has_14 : decode cX4_has 14 = .ok (.goto 4, 3) := by decide +kernel
theorem dX4_has_17 : decode cX4_has 17 = .ok (.iconst 0, 1) := by decide +kernel
theorem dX4_has_18 : decode cX4_has 18 = .ok (.ireturn, 1) := by decide +kernel
theorem dX4_begin_0 : decode cX4_begin 0 = .ok (.aload_n 0, 1) := by decide +kernel
theorem dX4_begin_1 : decode cX4_begin 1 = .ok (.dup, 1) := by decide +kernel
theorem dX4_begin_2 : decode cX4_begin 2 = .ok (.getfield 22, 3) := by decide +kernel
theorem dX4_begin_5 : decode cX4_begin 5 = .ok (.iconst 1, 1) := by decide +kernel
theorem dX4_begin_6 : decode cX4_begin 6 = .ok (.iadd, 1) := by decide +kernel
theorem dX4_begin_7 : decode cX4_begin 7 = .ok (.putfield 22, 3) := by decide +kernel
theorem dX4_begin_10 : decode cX4_begin 10 = .ok (.return_, 1) := by decide +kernel
theorem dX4_note_0 : decode cX4_note 0 = .ok (.aload_n 0, 1) := by decide +kernel
theorem dX4_note_1 : decode cX4_note 1 = .ok (.getfield 9, 3) := by decide +kernel
theorem dX4_note_4 : decode cX4_note 4 = .ok (.aload_n 0, 1) := by decide +kernel
theorem dX4_note_5 : decode cX4_note 5 = .ok (.getfield 22, 3) := by decide +kernel
theorem dX4_note_8 : decode cX4_note 8 = .ok (.iconst 1, 1) := by decide +kernel
theorem dX4_note_9 : decode cX4_note 9 = .ok (.isub, 1) := by decide +kernel
theorem dX4_note_10 : decode cX4_note 10 = .ok (.bipush 8, 2) := by decide +kernel
theorem dX4_note_12 : decode cX4_note 12 = .ok (.imul, 1) := by decide +kernel
theorem dX4_note_13 : decode cX4_note 13 = .ok (.iload_n 1, 1) := by decide +kernel
theorem dX4_note_14 : decode cX4_note 14 = .ok (.iadd, 1) := by decide +kernel
theorem dX4_note_15 : decode cX4_note 15 = .ok (.iload_n 2, 1) := by decide +kernel
theorem dX4_note_16 : decode cX4_note 16 = .ok (.iastore, 1) := by decide +kernel
theorem dX4_note_17 : decode cX4_note 17 = .ok (.return_, 1) := by decide +kernel
theorem dX4_judge_0 : decode cX4_judge 0 = .ok (.aload_n 0, 1) := by decide +kernel
theorem dX4_judge_1 : decode cX4_judge 1 = .ok (.getfield 15, 3) := by decide +kernel
theorem dX4_judge_4 : decode cX4_judge 4 = .ok (.aload_n 0, 1) := by decide +kernel
theorem dX4_judge_5 : decode cX4_judge 5 = .ok (.getfield 22, 3) := by decide +kernel
theorem dX4_judge_8 : decode cX4_judge 8 = .ok (.iconst 1, 1) := by decide +kernel
theorem dX4_judge_9 : decode cX4_judge 9 = .ok (.isub, 1) := by decide +kernel
theorem dX4_judge_10 : decode cX4_judge 10 = .ok (.iload_n 1, 1) := by decide +kernel
theorem dX4_judge_11 : decode cX4_judge 11 = .ok (.bastore, 1) := by decide +kernel
theorem dX4_judge_12 : decode cX4_judge 12 = .ok (.aload_n 0, 1) := by decide +kernel
theorem dX4_judge_13 : decode cX4_judge 13 = .ok (.iload_n 1, 1) := by decide +kernel
theorem dX4_judge_14 : decode cX4_judge 14 = .ok (.ifCond .eq 12, 3) := by decide +kernel
theorem dX4_judge_17 : decode cX4_judge 17 = .ok (.aload_n 0, 1) := by decide +kernel
theorem dX4_judge_18 : decode cX4_judge 18 = .ok (.getfield 29, 3) := by decide +kernel
theorem dX4_judge_21 : decode cX4_judge 21 = .ok (.iconst 1, 1) := by decide +kernel
theorem dX4_judge_22 : decode cX4_judge 22 = .ok (.iadd, 1) := by decide +kernel
theorem dX4_judge_23 : decode cX4_judge 23 = .ok (.goto 4, 3) := by decide +kernel
theorem dX4_judge_26 : decode cX4_judge 26 = .ok (.iconst 0, 1) := by decide +kernel
theorem dX4_judge_27 : decode cX4_judge 27 = .ok (.putfield 29, 3) := by decide +kernel
theorem dX4_judge_30 : decode cX4_judge 30 = .ok (.iload_n 1, 1) := by decide +kernel
theorem dX4_judge_31 : decode cX4_judge 31 = .ok (.ifCond .eq 13, 3) := by decide +kernel
theorem dX4_judge_34 : decode cX4_judge 34 = .ok (.aload_n 0, 1) := by decide +kernel
theorem dX4_judge_35 : decode cX4_judge 35 = .ok (.dup, 1) := by decide +kernel
theorem dX4_judge_36 : decode cX4_judge 36 = .ok (.getfield 26, 3) := by decide +kernel
theorem dX4_judge_39 : decode cX4_judge 39 = .ok (.iconst 1, 1) := by decide +kernel
theorem dX4_judge_40 : decode cX4_judge 40 = .ok (.iadd, 1) := by decide +kernel
theorem dX4_judge_41 : decode cX4_judge 41 = .ok (.putfield 26, 3) := by decide +kernel
theorem dX4_judge_44 : decode cX4_judge 44 = .ok (.aload_n 0, 1) := by decide +kernel
theorem dX4_judge_45 : decode cX4_judge 45 = .ok (.getfield 32, 3) := by decide +kernel
theorem dX4_judge_48 : decode cX4_judge 48 = .ok (.bipush (-6), 2) := by decide +kernel
theorem dX4_judge_50 : decode cX4_judge 50 = .ok (.if_icmp .ne 19, 3) := by decide +kernel
theorem dX4_judge_53 : decode cX4_judge 53 = .ok (.aload_n 0, 1) := by decide +kernel
theorem dX4_judge_54 : decode cX4_judge 54 = .ok (.getfield 29, 3) := by decide +kernel
theorem dX4_judge_57 : decode cX4_judge 57 = .ok (.iload_n 2, 1) := by decide +kernel
theorem dX4_judge_58 : decode cX4_judge 58 = .ok (.if_icmp .lt 11, 3) := by decide +kernel
theorem dX4_judge_61 : decode cX4_judge 61 = .ok (.aload_n 0, 1) := by decide +kernel
theorem dX4_judge_62 : decode cX4_judge 62 = .ok (.aload_n 0, 1) := by decide +kernel
theorem dX4_judge_63 : decode cX4_judge 63 = .ok (.getfield 22, 3) := by decide +kernel
theorem dX4_judge_66 : decode cX4_judge 66 = .ok (.putfield 32, 3) := by decide +kernel
theorem dX4_judge_69 : decode cX4_judge 69 = .ok (.return_, 1) := by decide +kernel
theorem dX4_wasGood_0 : decode cX4_wasGood 0 = .ok (.aload_n 0, 1) := by decide +kernel
theorem dX4_wasGood_1 : decode cX4_wasGood 1 = .ok (.getfield 15, 3) := by decide +kernel
theorem dX4_wasGood_4 : decode cX4_wasGood 4 = .ok (.iload_n 1, 1) := by decide +kernel
theorem dX4_wasGood_5 : decode cX4_wasGood 5 = .ok (.iconst 1, 1) := by decide +kernel
theorem dX4_wasGood_6 : decode cX4_wasGood 6 = .ok (.isub, 1) := by decide +kernel
theorem dX4_wasGood_7 : decode cX4_wasGood 7 = .ok (.baload, 1) := by decide +kernel
theorem dX4_wasGood_8 : decode cX4_wasGood 8 = .ok (.ireturn, 1) := by decide +kernel
theorem dX4_densityOn_0 : decode cX4_densityOn 0 = .ok (.aload_n 0, 1) := by decide +kernel
theorem dX4_densityOn_1 : decode cX4_densityOn 1 = .ok (.getfield 9, 3) := by decide +kernel
theorem dX4_densityOn_4 : decode cX4_densityOn 4 = .ok (.iload_n 1, 1) := by decide +kernel
theorem dX4_densityOn_5 : decode cX4_densityOn 5 = .ok (.iconst 1, 1) := by decide +kernel
theorem dX4_densityOn_6 : decode cX4_densityOn 6 = .ok (.isub, 1) := by decide +kernel
theorem dX4_densityOn_7 : decode cX4_densityOn 7 = .ok (.bipush 8, 2) := by decide +kernel
theorem dX4_densityOn_9 : decode cX4_densityOn 9 = .ok (.imul, 1) := by decide +kernel
theorem dX4_densityOn_10 : decode cX4_densityOn 10 = .ok (.iload_n 2, 1) := by decide +kernel
theorem dX4_densityOn_11 : decode cX4_densityOn 11 = .ok (.iadd, 1) := by decide +kernel
theorem dX4_densityOn_12 : decode cX4_densityOn 12 = .ok (.iaload, 1) := by decide +kernel
theorem dX4_densityOn_13 : decode cX4_densityOn 13 = .ok (.ireturn, 1) := by decide +kernel
set_option maxRecDepth 20000 in
theorem ggX4_latestDensity_X4_densityOn : GoodIn wsX4_latestDensity wsX4_densityOn := goodIn_r _ [6, 7, 8, 9, 10, 11, 12, 13] rfl (by decide +kernel)
set_option maxRecDepth 20000 in
theorem gX4_latestDensity_X4_densityOn : GoodIn wsX4_latestDensity (wsV RX4 35 RX4 yX4_densityOn wsX4_densityOn) := goodIn_app (goodIn_of _ (by decide +kernel)) ggX4_latestDensity_X4_densityOn
theorem dX4_latestDensity_0 : decode cX4_latestDensity 0 = .ok (.aload_n 0, 1) := by decide +kernel
theorem dX4_latestDensity_1 : decode cX4_latestDensity 1 = .ok (.getfield 22, 3) := by decide +kernel
theorem dX4_latestDensity_4 : decode cX4_latestDensity 4 = .ok (.ifCond .le 15, 3) := by decide +kernel
theorem dX4_latestDensity_7 : decode cX4_latestDensity 7 = .ok (.aload_n 0, 1) := by decide +kernel
theorem dX4_latestDensity_8 : decode cX4_latestDensity 8 = .ok (.aload_n 0, 1) := by decide +kernel
theorem dX4_latestDensity_9 : decode cX4_latestDensity 9 = .ok (.getfield 22, 3) := by decide +kernel
theorem dX4_latestDensity_12 : decode cX4_latestDensity 12 = .ok (.iload_n 1, 1) := by decide +kernel
theorem dX4_latestDensity_13 : decode cX4_latestDensity 13 = .ok (.invokevirtual 35, 3) := by decide +kernel
theorem dX4_latestDensity_16 : decode cX4_latestDensity 16 = .ok (.goto 4, 3) := by decide +kernel
theorem dX4_latestDensity_19 : decode cX4_latestDensity 19 = .ok (.iconst 0, 1) := by decide +kernel
theorem dX4_latestDensity_20 : decode cX4_latestDensity 20 = .ok (.ireturn, 1) := by decide +kernel
set_option maxRecDepth 20000 in
theorem ggX5_init_X5_restart : GoodIn wsX5_init wsX5_restart := goodIn_r _ [10, 11, 12, 13, 14, 15, 5, 16, 17, 18, 19, 20, 21] rfl (by decide +kernel)
set_option maxRecDepth 20000 in
theorem gX5_init_X5_restart : GoodIn wsX5_init (wsV RX5 15 RX5 yX5_restart wsX5_restart) := goodIn_app (goodIn_of _ (by decide +kernel)) ggX5_init_X5_restart
theorem dX5_init_0 : decode cX5_init 0 = .ok (.aload_n 0, 1) := by decide +kernel
theorem dX5_init_1 : decode cX5_init 1 = .ok (.invokespecial 3, 3) := by decide +kernel
theorem dX5_init_4 : decode cX5_init 4 = .ok (.aload_n 0, 1) := by decide +kernel
theorem dX5_init_5 : decode cX5_init 5 = .ok (.bipush 40, 2) := by decide +kernel
theorem dX5_init_7 : decode cX5_init 7 = .ok (.newarray .int, 2) := by decide +kernel
theorem dX5_init_9 : decode cX5_init 9 = .ok (.putfield 9, 3) := by decide +kernel
theorem dX5_init_12 : decode cX5_init 12 = .ok (.aload_n 0, 1) := by decide +kernel
theorem dX5_init_13 : decode cX5_init 13 = .ok (.iconst 4, 1) := by decide +kernel
theorem dX5_init_14 : decode cX5_init 14 = .ok (.iconst 3, 1) := by decide +kernel
theorem dX5_init_15 : decode cX5_init 15 = .ok (.invokevirtual 15, 3) := by decide +kernel
theorem dX5_init_18 : decode cX5_init 18 = .ok (.return_, 1) := by decide +kernel
theorem dX5_restart_0 : decode cX5_restart 0 = .ok (.aload_n 0, 1) := by decide +kernel
theorem dX5_restart_1 : decode cX5_restart 1 = .ok (.iload_n 1, 1) := by decide +kernel
theorem dX5_restart_2 : decode cX5_restart 2 = .ok (.putfield 19, 3) := by decide +kernel
theorem dX5_restart_5 : decode cX5_restart 5 = .ok (.aload_n 0, 1) := by decide +kernel
theorem dX5_restart_6 : decode cX5_restart 6 = .ok (.iload_n 2, 1) := by decide +kernel
theorem dX5_restart_7 : decode cX5_restart 7 = .ok (.putfield 23, 3) := by decide +kernel
theorem dX5_restart_10 : decode cX5_restart 10 = .ok (.aload_n 0, 1) := by decide +kernel
theorem dX5_restart_11 : decode cX5_restart 11 = .ok (.iconst 0, 1) := by decide +kernel
theorem dX5_restart_12 : decode cX5_restart 12 = .ok (.putfield 26, 3) := by decide +kernel
theorem dX5_restart_15 : decode cX5_restart 15 = .ok (.aload_n 0, 1) := by decide +kernel
theorem dX5_restart_16 : decode cX5_restart 16 = .ok (.iconst 0, 1) := by decide +kernel
theorem dX5_restart_17 : decode cX5_restart 17 = .ok (.putfield 29, 3) := by decide +kernel
theorem dX5_restart_20 : decode cX5_restart 20 = .ok (.aload_n 0, 1) := by decide +kernel
theorem dX5_restart_21 : decode cX5_restart 21 = .ok (.iconst 0, 1) := by decide +kernel
theorem dX5_restart_22 : decode cX5_restart 22 = .ok (.putfield 32, 3) := by decide +kernel
theorem dX5_restart_25 : decode cX5_restart 25 = .ok (.iconst 0, 1) := by decide +kernel
theorem dX5_restart_26 : decode cX5_restart 26 = .ok (.istore_n 3, 1) := by decide +kernel
theorem dX5_restart_27 : decode cX5_restart 27 = .ok (.iload_n 3, 1) := by decide +kernel
theorem dX5_restart_28 : decode cX5_restart 28 = .ok (.aload_n 0, 1) := by decide +kernel
theorem dX5_restart_29 : decode cX5_restart 29 = .ok (.getfield 9, 3) := by decide +kernel
theorem dX5_restart_32 : decode cX5_restart 32 = .ok (.arraylength, 1) := by decide +kernel
theorem dX5_restart_33 : decode cX5_restart 33 = .ok (.if_icmp .ge 16, 3) := by decide +kernel
theorem dX5_restart_36 : decode cX5_restart 36 = .ok (.aload_n 0, 1) := by decide +kernel
theorem dX5_restart_37 : decode cX5_restart 37 = .ok (.getfield 9, 3) := by decide +kernel
theorem dX5_restart_40 : decode cX5_restart 40 = .ok (.iload_n 3, 1) := by decide +kernel
theorem dX5_restart_41 : decode cX5_restart 41 = .ok (.iconst 0, 1) := by decide +kernel
theorem dX5_restart_42 : decode cX5_restart 42 = .ok (.iastore, 1) := by decide +kernel
theorem dX5_restart_43 : decode cX5_restart 43 = .ok (.iinc 3 1, 3) := by decide +kernel
theorem dX5_restart_46 : decode cX5_restart 46 = .ok (.goto (-19), 3) := by decide +kernel
theorem dX5_restart_49 : decode cX5_restart 49 = .ok (.return_, 1) := by decide +kernel
theorem dX5_has_0 : decode cX5_has 0 = .ok (.iload_n 1, 1) := by decide +kernel
theorem dX5_has_1 : decode cX5_has 1 = .ok (.ifCond .lt 15, 3) := by decide +kernel
theorem dX5_has_4 : decode cX5_has 4 = .ok (.iload_n 1, 1) := by decide +kernel
theorem dX5_has_5 : decode cX5_has 5 = .ok (.aload_n 0, 1) := by decide +kernel
theorem dX5_has_6 : decode cX5_has 6 = .ok (.getfield 23, 3) := by decide +kernel
theorem dX5_has_9 : decode cX5_has 9 = .ok (.if_icmp .ge 7, 3) := by decide +kernel
theorem dX5_has_12 : decode cX5_has 12 = .ok (.iconst 1, 1) := by decide +kernel
theorem dX5_has_13 : decode cX5_has 13 = .ok (.goto 4, 3) := by decide +kernel
theorem dX5_has_16 : decode cX5_has 16 = .ok (.iconst 0, 1) := by decide +kernel
theorem dX5_has_17 : decode cX5_has 17 = .ok (.ireturn, 1) := by decide +kernel
theorem dX5_inkAt_0 : decode cX5_inkAt 0 = .ok (.aload_n 0, 1) := by decide +kernel
theorem dX5_inkAt_1 : decode cX5_inkAt 1 = .ok (.getfield 9, 3) := by decide +kernel
theorem dX5_inkAt_4 : decode cX5_inkAt 4 = .ok (.iload_n 1, 1) := by decide +kernel
theorem dX5_inkAt_5 : decode cX5_inkAt 5 = .ok (.bipush 8, 2) := by decide +kernel
theorem dX5_inkAt_7 : decode cX5_inkAt 7 = .ok (.imul, 1) := by decide +kernel
theorem dX5_inkAt_8 : decode cX5_inkAt 8 = .ok (.iload_n 2, 1) := by decide +kernel
theorem dX5_inkAt_9 : decode cX5_inkAt 9 = .ok (.iadd, 1) := by decide +kernel
theorem dX5_inkAt_10 : decode cX5_inkAt 10 = .ok (.iaload, 1) := by decide +kernel
theorem dX5_inkAt_11 : decode cX5_inkAt 11 = .ok (.ireturn, 1) := by decide +kernel
theorem dX5_inkOn_0 : decode cX5_inkOn 0 = .ok (.iconst 0, 1) := by decide +kernel
theorem dX5_inkOn_1 : decode cX5_inkOn 1 = .ok (.istore_n 1, 1) := by decide +kernel
theorem dX5_inkOn_2 : decode cX5_inkOn 2 = .ok (.iconst 0, 1) := by decide +kernel
theorem dX5_inkOn_3 : decode cX5_inkOn 3 = .ok (.istore_n 2, 1) := by decide +kernel
theorem dX5_inkOn_4 : decode cX5_inkOn 4 = .ok (.iload_n 2, 1) := by decide +kernel
theorem dX5_inkOn_5 : decode cX5_inkOn 5 = .ok (.aload_n 0, 1) := by decide +kernel
theorem dX5_inkOn_6 : decode cX5_inkOn 6 = .ok (.getfield 9, 3) := by decide +kernel
theorem dX5_inkOn_9 : decode cX5_inkOn 9 = .ok (.arraylength, 1) := by decide +kernel
theorem dX5_inkOn_10 : decode cX5_inkOn 10 = .ok (.if_icmp .ge 18, 3) := by decide +kernel
theorem dX5_inkOn_13 : decode cX5_inkOn 13 = .ok (.iload_n 1, 1) := by decide +kernel
theorem dX5_inkOn_14 : decode cX5_inkOn 14 = .ok (.aload_n 0, 1) := by decide +kernel
theorem dX5_inkOn_15 : decode cX5_inkOn 15 = .ok (.getfield 9, 3) := by decide +kernel
theorem dX5_inkOn_18 : decode cX5_inkOn 18 = .ok (.iload_n 2, 1) := by decide +kernel
theorem dX5_inkOn_19 : decode cX5_inkOn 19 = .ok (.iaload, 1) := by decide +kernel
theorem dX5_inkOn_20 : decode cX5_inkOn 20 = .ok (.iadd, 1) := by decide +kernel
theorem dX5_inkOn_21 : decode cX5_inkOn 21 = .ok (.istore_n 1, 1) := by decide +kernel
theorem dX5_inkOn_22 : decode cX5_inkOn 22 = .ok (.iinc 2 1, 3) := by decide +kernel
theorem dX5_inkOn_25 : decode cX5_inkOn 25 = .ok (.goto (-21), 3) := by decide +kernel
theorem dX5_inkOn_28 : decode cX5_inkOn 28 = .ok (.iload_n 1, 1) := by decide +kernel
theorem dX5_inkOn_29 : decode cX5_inkOn 29 = .ok (.ireturn, 1) := by decide +kernel
theorem dX5_feedZone_0 : decode cX5_feedZone 0 = .ok (.aload_n 0, 1) := by decide +kernel
theorem dX5_feedZone_1 : decode cX5_feedZone 1 = .ok (.getfield 9, 3) := by decide +kernel
theorem dX5_feedZone_4 : decode cX5_feedZone 4 = .ok (.iload_n 1, 1) := by decide +kernel
theorem dX5_feedZone_5 : decode cX5_feedZone 5 = .ok (.dup2, 1) := by decide +kernel
theorem dX5_feedZone_6 : decode cX5_feedZone 6 = .ok (.iaload, 1) := by decide +kernel
theorem dX5_feedZone_7 : decode cX5_feedZone 7 = .ok (.iload_n 2, 1) := by decide +kernel
theorem dX5_feedZone_8 : decode cX5_feedZone 8 = .ok (.iadd, 1) := by decide +kernel
theorem dX5_feedZone_9 : decode cX5_feedZone 9 = .ok (.iastore, 1) := by decide +kernel
theorem dX5_feedZone_10 : decode cX5_feedZone 10 = .ok (.aload_n 0, 1) := by decide +kernel
theorem dX5_feedZone_11 : decode cX5_feedZone 11 = .ok (.dup, 1) := by decide +kernel
theorem dX5_feedZone_12 : decode cX5_feedZone 12 = .ok (.getfield 26, 3) := by decide +kernel
theorem dX5_feedZone_15 : decode cX5_feedZone 15 = .ok (.iload_n 2, 1) := by decide +kernel
theorem dX5_feedZone_16 : decode cX5_feedZone 16 = .ok (.iadd, 1) := by decide +kernel
theorem dX5_feedZone_17 : decode cX5_feedZone 17 = .ok (.putfield 26, 3) := by decide +kernel
theorem dX5_feedZone_20 : decode cX5_feedZone 20 = .ok (.return_, 1) := by decide +kernel
set_option maxRecDepth 20000 in
theorem ggX5_passOn_X5_share : GoodIn wsX5_passOn wsX5_share := goodIn_r _ [7] rfl (by decide +kernel)
set_option maxRecDepth 20000 in
theorem gX5_passOn_X5_share : GoodIn wsX5_passOn (va_wsS RX5 35 yX5_share wsX5_share) := goodIn_app (goodIn_of _ (by decide +kernel)) ggX5_passOn_X5_share
theorem dX5_passOn_0 : decode cX5_passOn 0 = .ok (.iconst 0, 1) := by decide +kernel
theorem dX5_passOn_1 : decode cX5_passOn 1 = .ok (.istore_n 2, 1) := by decide +kernel
theorem dX5_passOn_2 : decode cX5_passOn 2 = .ok (.iload_n 2, 1) := by decide +kernel
theorem dX5_passOn_3 : decode cX5_passOn 3 = .ok (.iconst 1, 1) := by decide +kernel
theorem dX5_passOn_4 : decode cX5_passOn 4 = .ok (.iadd, 1) := by decide +kernel
theorem dX5_passOn_5 : decode cX5_passOn 5 = .ok (.aload_n 0, 1) := by decide +kernel
theorem dX5_passOn_6 : decode cX5_passOn 6 = .ok (.getfield 23, 3) := by decide +kernel
theorem dX5_passOn_9 : decode cX5_passOn 9 = .ok (.if_icmp .ge 75, 3) := by decide +kernel
theorem dX5_passOn_12 : decode cX5_passOn 12 = .ok (.iconst 0, 1) := by decide +kernel
theorem dX5_passOn_13 : decode cX5_passOn 13 = .ok (.istore_n 3, 1) := by decide +kernel
theorem dX5_passOn_14 : decode cX5_passOn 14 = .ok (.iload_n 3, 1) := by decide +kernel
theorem dX5_passOn_15 : decode cX5_passOn 15 = .ok (.aload_n 0, 1) := by decide +kernel
theorem dX5_passOn_16 : decode cX5_passOn 16 = .ok (.getfield 19, 3) := by decide +kernel
theorem dX5_passOn_19 : decode cX5_passOn 19 = .ok (.if_icmp .ge 59, 3) := by decide +kernel
theorem dX5_passOn_22 : decode cX5_passOn 22 = .ok (.iload_n 2, 1) := by decide +kernel
theorem dX5_passOn_23 : decode cX5_passOn 23 = .ok (.bipush 8, 2) := by decide +kernel
theorem dX5_passOn_25 : decode cX5_passOn 25 = .ok (.imul, 1) := by decide +kernel
theorem dX5_passOn_26 : decode cX5_passOn 26 = .ok (.iload_n 3, 1) := by decide +kernel
theorem dX5_passOn_27 : decode cX5_passOn 27 = .ok (.iadd, 1) := by decide +kernel
theorem dX5_passOn_28 : decode cX5_passOn 28 = .ok (.istore 4, 2) := by decide +kernel
theorem dX5_passOn_30 : decode cX5_passOn 30 = .ok (.aload_n 0, 1) := by decide +kernel
theorem dX5_passOn_31 : decode cX5_passOn 31 = .ok (.getfield 9, 3) := by decide +kernel
theorem dX5_passOn_34 : decode cX5_passOn 34 = .ok (.iload 4, 2) := by decide +kernel
theorem dX5_passOn_36 : decode cX5_passOn 36 = .ok (.iaload, 1) := by decide +kernel
theorem dX5_passOn_37 : decode cX5_passOn 37 = .ok (.iload_n 1, 1) := by decide +kernel
theorem dX5_passOn_38 : decode cX5_passOn 38 = .ok (.bipush 100, 2) := by decide +kernel
theorem dX5_passOn_40 : decode cX5_passOn 40 = .ok (.invokestatic 35, 3) := by decide +kernel
theorem dX5_passOn_43 : decode cX5_passOn 43 = .ok (.istore 5, 2) := by decide +kernel
theorem dX5_passOn_45 : decode cX5_passOn 45 = .ok (.aload_n 0, 1) := by decide +kernel
theorem dX5_passOn_46 : decode cX5_passOn 46 = .ok (.getfield 9, 3) := by decide +kernel
theorem dX5_passOn_49 : decode cX5_passOn 49 = .ok (.iload 4, 2) := by decide +kernel
theorem dX5_passOn_51 : decode cX5_passOn 51 = .ok (.dup2, 1) := by decide +kernel
theorem dX5_passOn_52 : decode cX5_passOn 52 = .ok (.iaload, 1) := by decide +kernel
theorem dX5_passOn_53 : decode cX5_passOn 53 = .ok (.iload 5, 2) := by decide +kernel
theorem dX5_passOn_55 : decode cX5_passOn 55 = .ok (.isub, 1) := by decide +kernel
theorem dX5_passOn_56 : decode cX5_passOn 56 = .ok (.iastore, 1) := by decide +kernel
theorem dX5_passOn_57 : decode cX5_passOn 57 = .ok (.aload_n 0, 1) := by decide +kernel
theorem dX5_passOn_58 : decode cX5_passOn 58 = .ok (.getfield 9, 3) := by decide +kernel
theorem dX5_passOn_61 : decode cX5_passOn 61 = .ok (.iload 4, 2) := by decide +kernel
theorem dX5_passOn_63 : decode cX5_passOn 63 = .ok (.bipush 8, 2) := by decide +kernel
theorem dX5_passOn_65 : decode cX5_passOn 65 = .ok (.iadd, 1) := by decide +kernel
theorem dX5_passOn_66 : decode cX5_passOn 66 = .ok (.dup2, 1) := by decide +kernel
theorem dX5_passOn_67 : decode cX5_passOn 67 = .ok (.iaload, 1) := by decide +kernel
theorem dX5_passOn_68 : decode cX5_passOn 68 = .ok (.iload 5, 2) := by decide +kernel
theorem dX5_passOn_70 : decode cX5_passOn 70 = .ok (.iadd, 1) := by decide +kernel
theorem dX5_passOn_71 : decode cX5_passOn 71 = .ok (.iastore, 1) := by decide +kernel
theorem dX5_passOn_72 : decode cX5_passOn 72 = .ok (.iinc 3 1, 3) := by decide +kernel
theorem dX5_passOn_75 : decode cX5_passOn 75 = .ok (.goto (-61), 3) := by decide +kernel
theorem dX5_passOn_78 : decode cX5_passOn 78 = .ok (.iinc 2 1, 3) := by decide +kernel
theorem dX5_passOn_81 : decode cX5_passOn 81 = .ok (.goto (-79), 3) := by decide +kernel
theorem dX5_passOn_84 : decode cX5_passOn 84 = .ok (.return_, 1) := by decide +kernel
set_option maxRecDepth 20000 in
theorem ggX5_driftAside_X5_share : GoodIn wsX5_driftAside wsX5_share := goodIn_r _ [7] rfl (by decide +kernel)
set_option maxRecDepth 20000 in
theorem gX5_driftAside_X5_share : GoodIn wsX5_driftAside (va_wsS RX5 35 yX5_share wsX5_share) := goodIn_app (goodIn_of _ (by decide +kernel)) ggX5_driftAside_X5_share
theorem dX5_driftAside_0 : decode cX5_driftAside 0 = .ok (.iconst 0, 1) := by decide +kernel
theorem dX5_driftAside_1 : decode cX5_driftAside 1 = .ok (.istore_n 2, 1) := by decide +kernel
theorem dX5_driftAside_2 : decode cX5_driftAside 2 = .ok (.iload_n 2, 1) := by decide +kernel
theorem dX5_driftAside_3 : decode cX5_driftAside 3 = .ok (.aload_n 0, 1) := by decide +kernel
theorem dX5_driftAside_4 : decode cX5_driftAside 4 = .ok (.getfield 23, 3) := by decide +kernel
theorem dX5_driftAside_7 : decode cX5_driftAside 7 = .ok (.if_icmp .ge 105, 3) := by decide +kernel
theorem dX5_driftAside_10 : decode cX5_driftAside 10 = .ok (.iload_n 2, 1) := by decide +kernel
theorem dX5_driftAside_11 : decode cX5_driftAside 11 = .ok (.bipush 8, 2) := by decide +kernel
theorem dX5_driftAside_13 : decode cX5_driftAside 13 = .ok (.imul, 1) := by decide +kernel
theorem dX5_driftAside_14 : decode cX5_driftAside 14 = .ok (.istore_n 3, 1) := by decide +kernel
theorem dX5_driftAside_15 : decode cX5_driftAside 15 = .ok (.aload_n 0, 1) := by decide +kernel
theorem dX5_driftAside_16 : decode cX5_driftAside 16 = .ok (.getfield 9, 3) := by decide +kernel
theorem dX5_driftAside_19 : decode cX5_driftAside 19 = .ok (.iload_n 3, 1) := by decide +kernel
theorem dX5_driftAside_20 : decode cX5_driftAside 20 = .ok (.iaload, 1) := by decide +kernel
theorem dX5_driftAside_21 : decode cX5_driftAside 21 = .ok (.iload_n 1, 1) := by decide +kernel
theorem dX5_driftAside_22 : decode cX5_driftAside 22 = .ok (.sipush 200, 3) := by decide +kernel
theorem dX5_driftAside_25 : decode cX5_driftAside 25 = .ok (.invokestatic 35, 3) := by decide +kernel
theorem dX5_driftAside_28 : decode cX5_driftAside 28 = .ok (.istore 4, 2) := by decide +kernel
theorem dX5_driftAside_30 : decode cX5_driftAside 30 = .ok (.iconst 1, 1) := by decide +kernel
theorem dX5_driftAside_31 : decode cX5_driftAside 31 = .ok (.istore 5, 2) := by decide +kernel
theorem dX5_driftAside_33 : decode cX5_driftAside 33 = .ok (.iload 5, 2) := by decide +kernel
theorem dX5_driftAside_35 : decode cX5_driftAside 35 = .ok (.aload_n 0, 1) := by decide +kernel
theorem dX5_driftAside_36 : decode cX5_driftAside 36 = .ok (.getfield 19, 3) := by decide +kernel
theorem dX5_driftAside_39 : decode cX5_driftAside 39 = .ok (.if_icmp .ge 67, 3) := by decide +kernel
theorem dX5_driftAside_42 : decode cX5_driftAside 42 = .ok (.aload_n 0, 1) := by decide +kernel
theorem dX5_driftAside_43 : decode cX5_driftAside 43 = .ok (.getfield 9, 3) := by decide +kernel
theorem dX5_driftAside_46 : decode cX5_driftAside 46 = .ok (.iload_n 3, 1) := by decide +kernel
theorem dX5_driftAside_47 : decode cX5_driftAside 47 = .ok (.iload 5, 2) := by decide +kernel
theorem dX5_driftAside_49 : decode cX5_driftAside 49 = .ok (.iadd, 1) := by decide +kernel
theorem dX5_driftAside_50 : decode cX5_driftAside 50 = .ok (.iaload, 1) := by decide +kernel
theorem dX5_driftAside_51 : decode cX5_driftAside 51 = .ok (.iload_n 1, 1) := by decide +kernel
theorem dX5_driftAside_52 : decode cX5_driftAside 52 = .ok (.sipush 200, 3) := by decide +kernel
theorem dX5_driftAside_55 : decode cX5_driftAside 55 = .ok (.invokestatic 35, 3) := by decide +kernel
theorem dX5_driftAside_58 : decode cX5_driftAside 58 = .ok (.istore 6, 2) := by decide +kernel
theorem dX5_driftAside_60 : decode cX5_driftAside 60 = .ok (.aload_n 0, 1) := by decide +kernel
theorem dX5_driftAside_61 : decode cX5_driftAside 61 = .ok (.getfield 9, 3) := by decide +kernel
theorem dX5_driftAside_64 : decode cX5_driftAside 64 = .ok (.iload_n 3, 1) := by decide +kernel
theorem dX5_driftAside_65 : decode cX5_driftAside 65 = .ok (.iload 5, 2) := by decide +kernel
theorem dX5_driftAside_67 : decode cX5_driftAside 67 = .ok (.iadd, 1) := by decide +kernel
theorem dX5_driftAside_68 : decode cX5_driftAside 68 = .ok (.iconst 1, 1) := by decide +kernel
theorem dX5_driftAside_69 : decode cX5_driftAside 69 = .ok (.isub, 1) := by decide +kernel
theorem dX5_driftAside_70 : decode cX5_driftAside 70 = .ok (.dup2, 1) := by decide +kernel
theorem dX5_driftAside_71 : decode cX5_driftAside 71 = .ok (.iaload, 1) := by decide +kernel
theorem dX5_driftAside_72 : decode cX5_driftAside 72 = .ok (.iload 6, 2) := by decide +kernel
theorem dX5_driftAside_74 : decode cX5_driftAside 74 = .ok (.iload 4, 2) := by decide +kernel
theorem dX5_driftAside_76 : decode cX5_driftAside 76 = .ok (.isub, 1) := by decide +kernel
theorem dX5_driftAside_77 : decode cX5_driftAside 77 = .ok (.iadd, 1) := by decide +kernel
theorem dX5_driftAside_78 : decode cX5_driftAside 78 = .ok (.iastore, 1) := by decide +kernel
theorem dX5_driftAside_79 : decode cX5_driftAside 79 = .ok (.aload_n 0, 1) := by decide +kernel
theorem dX5_driftAside_80 : decode cX5_driftAside 80 = .ok (.getfield 9, 3) := by decide +kernel
theorem dX5_driftAside_83 : decode cX5_driftAside 83 = .ok (.iload_n 3, 1) := by decide +kernel
theorem dX5_driftAside_84 : decode cX5_driftAside 84 = .ok (.iload 5, 2) := by decide +kernel
theorem dX5_driftAside_86 : decode cX5_driftAside 86 = .ok (.iadd, 1) := by decide +kernel
theorem dX5_driftAside_87 : decode cX5_driftAside 87 = .ok (.dup2, 1) := by decide +kernel
theorem dX5_driftAside_88 : decode cX5_driftAside 88 = .ok (.iaload, 1) := by decide +kernel
theorem dX5_driftAside_89 : decode cX5_driftAside 89 = .ok (.iload 4, 2) := by decide +kernel
theorem dX5_driftAside_91 : decode cX5_driftAside 91 = .ok (.iload 6, 2) := by decide +kernel
theorem dX5_driftAside_93 : decode cX5_driftAside 93 = .ok (.isub, 1) := by decide +kernel
theorem dX5_driftAside_94 : decode cX5_driftAside 94 = .ok (.iadd, 1) := by decide +kernel
theorem dX5_driftAside_95 : decode cX5_driftAside 95 = .ok (.iastore, 1) := by decide +kernel
theorem dX5_driftAside_96 : decode cX5_driftAside 96 = .ok (.iload 6, 2) := by decide +kernel
theorem dX5_driftAside_98 : decode cX5_driftAside 98 = .ok (.istore 4, 2) := by decide +kernel
theorem dX5_driftAside_100 : decode cX5_driftAside 100 = .ok (.iinc 5 1, 3) := by decide +kernel
theorem dX5_driftAside_103 : decode cX5_driftAside 103 = .ok (.goto (-70), 3) := by decide +kernel
theorem dX5_driftAside_106 : decode cX5_driftAside 106 = .ok (.iinc 2 1, 3) := by decide +kernel
theorem dX5_driftAside_109 : decode cX5_driftAside 109 = .ok (.goto (-107), 3) := by decide +kernel
theorem dX5_driftAside_112 : decode cX5_driftAside 112 = .ok (.return_, 1) := by decide +kernel
set_option maxRecDepth 20000 in
theorem ggX5_takeOff_X5_share : GoodIn wsX5_takeOff wsX5_share := goodIn_r _ [8] rfl (by decide +kernel)
set_option maxRecDepth 20000 in
theorem gX5_takeOff_X5_share : GoodIn wsX5_takeOff (va_wsS RX5 35 yX5_share wsX5_share) := goodIn_app (goodIn_of _ (by decide +kernel)) ggX5_takeOff_X5_share
theorem dX5_takeOff_0 : decode cX5_takeOff 0 = .ok (.aload_n 0, 1) := by decide +kernel
theorem dX5_takeOff_1 : decode cX5_takeOff 1 = .ok (.getfield 23, 3) := by decide +kernel
theorem dX5_takeOff_4 : decode cX5_takeOff 4 = .ok (.iconst 1, 1) := by decide +kernel
theorem dX5_takeOff_5 : decode cX5_takeOff 5 = .ok (.isub, 1) := by decide +kernel
theorem dX5_takeOff_6 : decode cX5_takeOff 6 = .ok (.bipush 8, 2) := by decide +kernel
theorem dX5_takeOff_8 : decode cX5_takeOff 8 = .ok (.imul, 1) := by decide +kernel
theorem dX5_takeOff_9 : decode cX5_takeOff 9 = .ok (.iload_n 1, 1) := by decide +kernel
theorem dX5_takeOff_10 : decode cX5_takeOff 10 = .ok (.iadd, 1) := by decide +kernel
theorem dX5_takeOff_11 : decode cX5_takeOff 11 = .ok (.istore 4, 2) := by decide +kernel
theorem dX5_takeOff_13 : decode cX5_takeOff 13 = .ok (.aload_n 0, 1) := by decide +kernel
theorem dX5_takeOff_14 : decode cX5_takeOff 14 = .ok (.getfield 9, 3) := by decide +kernel
theorem dX5_takeOff_17 : decode cX5_takeOff 17 = .ok (.iload 4, 2) := by decide +kernel
theorem dX5_takeOff_19 : decode cX5_takeOff 19 = .ok (.iaload, 1) := by decide +kernel
theorem dX5_takeOff_20 : decode cX5_takeOff 20 = .ok (.iload_n 2, 1) := by decide +kernel
theorem dX5_takeOff_21 : decode cX5_takeOff 21 = .ok (.iload_n 3, 1) := by decide +kernel
theorem dX5_takeOff_22 : decode cX5_takeOff 22 = .ok (.imul, 1) := by decide +kernel
theorem dX5_takeOff_23 : decode cX5_takeOff 23 = .ok (.sipush 10000, 3) := by decide +kernel
theorem dX5_takeOff_26 : decode cX5_takeOff 26 = .ok (.invokestatic 35, 3) := by decide +kernel
theorem dX5_takeOff_29 : decode cX5_takeOff 29 = .ok (.istore 5, 2) := by decide +kernel
theorem dX5_takeOff_31 : decode cX5_takeOff 31 = .ok (.aload_n 0, 1) := by decide +kernel
theorem dX5_takeOff_32 : decode cX5_takeOff 32 = .ok (.getfield 9, 3) := by decide +kernel
theorem dX5_takeOff_35 : decode cX5_takeOff 35 = .ok (.iload 4, 2) := by decide +kernel
theorem dX5_takeOff_37 : decode cX5_takeOff 37 = .ok (.iaload, 1) := by decide +kernel
theorem dX5_takeOff_38 : decode cX5_takeOff 38 = .ok (.bipush 100, 2) := by decide +kernel
theorem dX5_takeOff_40 : decode cX5_takeOff 40 = .ok (.idiv, 1) := by decide +kernel
theorem dX5_takeOff_41 : decode cX5_takeOff 41 = .ok (.istore 6, 2) := by decide +kernel
theorem dX5_takeOff_43 : decode cX5_takeOff 43 = .ok (.aload_n 0, 1) := by decide +kernel
theorem dX5_takeOff_44 : decode cX5_takeOff 44 = .ok (.getfield 9, 3) := by decide +kernel
theorem dX5_takeOff_47 : decode cX5_takeOff 47 = .ok (.iload 4, 2) := by decide +kernel
theorem dX5_takeOff_49 : decode cX5_takeOff 49 = .ok (.dup2, 1) := by decide +kernel
theorem dX5_takeOff_50 : decode cX5_takeOff 50 = .ok (.iaload, 1) := by decide +kernel
theorem dX5_takeOff_51 : decode cX5_takeOff 51 = .ok (.iload 5, 2) := by decide +kernel
theorem dX5_takeOff_53 : decode cX5_takeOff 53 = .ok (.iload 6, 2) := by decide +kernel
theorem dX5_takeOff_55 : decode cX5_takeOff 55 = .ok (.iadd, 1) := by decide +kernel
theorem dX5_takeOff_56 : decode cX5_takeOff 56 = .ok (.isub, 1) := by decide +kernel
theorem dX5_takeOff_57 : decode cX5_takeOff 57 = .ok (.iastore, 1) := by decide +kernel
theorem dX5_takeOff_58 : decode cX5_takeOff 58 = .ok (.aload_n 0, 1) := by decide +kernel
theorem dX5_takeOff_59 : decode cX5_takeOff 59 = .ok (.dup, 1) := by decide +kernel
theorem dX5_takeOff_60 : decode cX5_takeOff 60 = .ok (.getfield 29, 3) := by decide +kernel
theorem dX5_takeOff_63 : decode cX5_takeOff 63 = .ok (.iload 5, 2) := by decide +kernel
theorem dX5_takeOff_65 : decode cX5_takeOff 65 = .ok (.iadd, 1) := by decide +kernel
theorem dX5_takeOff_66 : decode cX5_takeOff 66 = .ok (.putfield 29, 3) := by decide +kernel
theorem dX5_takeOff_69 : decode cX5_takeOff 69 = .ok (.aload_n 0, 1) := by decide +kernel
theorem dX5_takeOff_70 : decode cX5_takeOff 70 = .ok (.dup, 1) := by decide +kernel
theorem dX5_takeOff_71 : decode cX5_takeOff 71 = .ok (.getfield 32, 3) := by decide +kernel
theorem dX5_takeOff_74 : decode cX5_takeOff 74 = .ok (.iload 6, 2) := by decide +kernel
theorem dX5_takeOff_76 : decode cX5_takeOff 76 = .ok (.iadd, 1) := by decide +kernel
theorem dX5_takeOff_77 : decode cX5_takeOff 77 = .ok (.putfield 32, 3) := by decide +kernel
theorem dX5_takeOff_80 : decode cX5_takeOff 80 = .ok (.iload 6, 2) := by decide +kernel
theorem dX5_takeOff_82 : decode cX5_takeOff 82 = .ok (.ireturn, 1) := by decide +kernel
theorem dX5_share_0 : decode cX5_share 0 = .ok (.iload_n 2, 1) := by decide +kernel
theorem dX5_share_1 : decode cX5_share 1 = .ok (.ifCond .le 15, 3) := by decide +kernel
theorem dX5_share_4 : decode cX5_share 4 = .ok (.iload_n 0, 1) := by decide +kernel
theorem dX5_share_5 : decode cX5_share 5 = .ok (.i2l, 1) := by decide +kernel
theorem dX5_share_6 : decode cX5_share 6 = .ok (.iload_n 1, 1) := by decide +kernel
theorem dX5_share_7 : decode cX5_share 7 = .ok (.i2l, 1) := by decide +kernel
theorem dX5_share_8 : decode cX5_share 8 = .ok (.lmul, 1) := by decide +kernel
theorem dX5_share_9 : decode cX5_share 9 = .ok (.iload_n 2, 1) := by decide +kernel
theorem dX5_share_10 : decode cX5_share 10 = .ok (.i2l, 1) := by decide +kernel
theorem dX5_share_11 : decode cX5_share 11 = .ok (.ldiv, 1) := by decide +kernel
theorem dX5_share_12 : decode cX5_share 12 = .ok (.l2i, 1) := by decide +kernel
theorem dX5_share_13 : decode cX5_share 13 = .ok (.goto 4, 3) := by decide +kernel
theorem dX5_share_16 : decode cX5_share 16 = .ok (.iconst 0, 1) := by decide +kernel
theorem dX5_share_17 : decode cX5_share 17 = .ok (.ireturn, 1) := by decide +kernel
set_option maxRecDepth 20000 in
theorem ggX6_init_X6_restart : GoodIn wsX6_init wsX6_restart := goodIn_r _ [11, 12, 6, 4, 13, 14] rfl (by decide +kernel)
set_option maxRecDepth 20000 in
theorem gX6_init_X6_restart : GoodIn wsX6_init (wsV RX6 18 RX6 yX6_restart wsX6_restart) := goodIn_app (goodIn_of _ (by decide +kernel)) ggX6_init_X6_restart
theorem dX6_init_0 : decode cX6_init 0 = .ok (.aload_n 0, 1) := by decide +kernel
theorem dX6_init_1 : decode cX6_init 1 = .ok (.invokespecial 3, 3) := by decide +kernel
theorem dX6_init_4 : decode cX6_init 4 = .ok (.aload_n 0, 1) := by decide +kernel
theorem dX6_init_5 : decode cX6_init 5 = .ok (.getstatic 9, 3) := by decide +kernel
theorem dX6_init_8 : decode cX6_init 8 = .ok (.arraylength, 1) := by decide +kernel
theorem dX6_init_9 : decode cX6_init 9 = .ok (.bipush 8, 2) := by decide +kernel
theorem dX6_init_11 : decode cX6_init 11 = .ok (.imul, 1) := by decide +kernel
theorem dX6_init_12 : decode cX6_init 12 = .ok (.newarray .int, 2) := by decide +kernel
theorem dX6_init_14 : decode cX6_init 14 = .ok (.putfield 15, 3) := by decide +kernel
theorem dX6_init_17 : decode cX6_init 17 = .ok (.aload_n 0, 1) := by decide +kernel
theorem dX6_init_18 : decode cX6_init 18 = .ok (.iconst 4, 1) := by decide +kernel
theorem dX6_init_19 : decode cX6_init 19 = .ok (.invokevirtual 18, 3) := by decide +kernel
theorem dX6_init_22 : decode cX6_init 22 = .ok (.return_, 1) := by decide +kernel
theorem dX6_restart_0 : decode cX6_restart 0 = .ok (.aload_n 0, 1) := by decide +kernel
theorem dX6_restart_1 : decode cX6_restart 1 = .ok (.iload_n 1, 1) := by decide +kernel
theorem dX6_restart_2 : decode cX6_restart 2 = .ok (.putfield 22, 3) := by decide +kernel
theorem dX6_restart_5 : decode cX6_restart 5 = .ok (.iconst 0, 1) := by decide +kernel
theorem dX6_restart_6 : decode cX6_restart 6 = .ok (.istore_n 2, 1) := by decide +kernel
theorem dX6_restart_7 : decode cX6_restart 7 = .ok (.iload_n 2, 1) := by decide +kernel
theorem dX6_restart_8 : decode cX6_restart 8 = .ok (.aload_n 0, 1) := by decide +kernel
theorem dX6_restart_9 : decode cX6_restart 9 = .ok (.getfield 15, 3) := by decide +kernel
theorem dX6_restart_12 : decode cX6_restart 12 = .ok (.arraylength, 1) := by decide +kernel
theorem dX6_restart_13 : decode cX6_restart 13 = .ok (.if_icmp .ge 23, 3) := by decide +kernel
theorem dX6_restart_16 : decode cX6_restart 16 = .ok (.aload_n 0, 1) := by decide +kernel
theorem dX6_restart_17 : decode cX6_restart 17 = .ok (.getfield 15, 3) := by decide +kernel
theorem dX6_restart_20 : decode cX6_restart 20 = .ok (.iload_n 2, 1) := by decide +kernel
theorem dX6_restart_21 : decode cX6_restart 21 = .ok (.getstatic 9, 3) := by decide +kernel
theorem dX6_restart_24 : decode cX6_restart 24 = .ok (.iload_n 2, 1) := by decide +kernel
theorem dX6_restart_25 : decode cX6_restart 25 = .ok (.bipush 8, 2) := by decide +kernel
theorem dX6_restart_27 : decode cX6_restart 27 = .ok (.idiv, 1) := by decide +kernel
theorem dX6_restart_28 : decode cX6_restart 28 = .ok (.iaload, 1) := by decide +kernel
theorem dX6_restart_29 : decode cX6_restart 29 = .ok (.iastore, 1) := by decide +kernel
theorem dX6_restart_30 : decode cX6_restart 30 = .ok (.iinc 2 1, 3) := by decide +kernel
theorem dX6_restart_33 : decode cX6_restart 33 = .ok (.goto (-26), 3) := by decide +kernel
theorem dX6_restart_36 : decode cX6_restart 36 = .ok (.return_, 1) := by decide +kernel
theorem dX6_has_0 : decode cX6_has 0 = .ok (.iload_n 1, 1) := by decide +kernel
theorem dX6_has_1 : decode cX6_has 1 = .ok (.ifCond .lt 15, 3) := by decide +kernel
theorem dX6_has_4 : decode cX6_has 4 = .ok (.iload_n 1, 1) := by decide +kernel
theorem dX6_has_5 : decode cX6_has 5 = .ok (.aload_n 0, 1) := by decide +kernel
theorem dX6_has_6 : decode cX6_has 6 = .ok (.getfield 22, 3) := by decide +kernel
theorem dX6_has_9 : decode cX6_has 9 = .ok (.if_icmp .ge 7, 3) := by decide +kernel
theorem dX6_has_12 : decode cX6_has 12 = .ok (.iconst 1, 1) := by decide +kernel
theorem dX6_has_13 : decode cX6_has 13 = .ok (.goto 4, 3) := by decide +kernel
theorem dX6_has_16 : decode cX6_has 16 = .ok (.iconst 0, 1) := by decide +kernel
theorem dX6_has_17 : decode cX6_has 17 = .ok (.ireturn, 1) := by decide +kernel
set_option maxRecDepth 20000 in
theorem ggX6_allows_X7_within : GoodIn wsX6_allows wsX7_within := goodIn_r _ [4] rfl (by decide +kernel)
set_option maxRecDepth 20000 in
theorem gX6_allows_X7_within_n29 : GoodIn wsX6_allows (wsX7_within) := ggX6_allows_X7_within
theorem dX6_allows_0 : decode cX6_allows 0 = .ok (.iload_n 2, 1) := by decide +kernel
theorem dX6_allows_1 : decode cX6_allows 1 = .ok (.iconst 0, 1) := by decide +kernel
theorem dX6_allows_2 : decode cX6_allows 2 = .ok (.getstatic 26, 3) := by decide +kernel
theorem dX6_allows_5 : decode cX6_allows 5 = .ok (.iload_n 1, 1) := by decide +kernel
theorem dX6_allows_6 : decode cX6_allows 6 = .ok (.iaload, 1) := by decide +kernel
theorem dX6_allows_7 : decode cX6_allows 7 = .ok (.invokestatic 29, 3) := by decide +kernel
theorem dX6_allows_10 : decode cX6_allows 10 = .ok (.ireturn, 1) := by decide +kernel
theorem dX6_valueOf_0 : decode cX6_valueOf 0 = .ok (.aload_n 0, 1) := by decide +kernel
theorem dX6_valueOf_1 : decode cX6_valueOf 1 = .ok (.getfield 15, 3) := by decide +kernel
theorem dX6_valueOf_4 : decode cX6_valueOf 4 = .ok (.iload_n 2, 1) := by decide +kernel
theorem dX6_valueOf_5 : decode cX6_valueOf 5 = .ok (.bipush 8, 2) := by decide +kernel
theorem dX6_valueOf_7 : decode cX6_valueOf 7 = .ok (.imul, 1) := by decide +kernel
theorem dX6_valueOf_8 : decode cX6_valueOf 8 = .ok (.iload_n 1, 1) := by decide +kernel
theorem dX6_valueOf_9 : decode cX6_valueOf 9 = .ok (.iadd, 1) := by decide +kernel
theorem dX6_valueOf_10 : decode cX6_valueOf 10 = .ok (.iaload, 1) := by decide +kernel
theorem dX6_valueOf_11 : decode cX6_valueOf 11 = .ok (.ireturn, 1) := by decide +kernel
theorem dX6_change_0 : decode cX6_change 0 = .ok (.iload_n 2, 1) := by decide +kernel
theorem dX6_change_1 : decode cX6_change 1 = .ok (.bipush 8, 2) := by decide +kernel
theorem dX6_change_3 : decode cX6_change 3 = .ok (.imul, 1) := by decide +kernel
theorem dX6_change_4 : decode cX6_change 4 = .ok (.iload_n 1, 1) := by decide +kernel
theorem dX6_change_5 : decode cX6_change 5 = .ok (.iadd, 1) := by decide +kernel
theorem dX6_change_6 : decode cX6_change 6 = .ok (.istore 4, 2) := by decide +kernel
theorem dX6_change_8 : decode cX6_change 8 = .ok (.aload_n 0, 1) := by decide +kernel
theorem dX6_change_9 : decode cX6_change 9 = .ok (.getfield 15, 3) := by decide +kernel
theorem dX6_change_12 : decode cX6_change 12 = .ok (.iload 4, 2) := by decide +kernel
theorem dX6_change_14 : decode cX6_change 14 = .ok (.iaload, 1) := by decide +kernel
theorem dX6_change_15 : decode cX6_change 15 = .ok (.istore 5, 2) := by decide +kernel
theorem dX6_change_17 : decode cX6_change 17 = .ok (.aload_n 0, 1) := by decide +kernel
theorem dX6_change_18 : decode cX6_change 18 = .ok (.getfield 15, 3) := by decide +kernel
theorem dX6_change_21 : decode cX6_change 21 = .ok (.iload 4, 2) := by decide +kernel
theorem dX6_change_23 : decode cX6_change 23 = .ok (.iload_n 3, 1) := by decide +kernel
theorem dX6_change_24 : decode cX6_change 24 = .ok (.iastore, 1) := by decide +kernel
theorem dX6_change_25 : decode cX6_change 25 = .ok (.iload 5, 2) := by decide +kernel
theorem dX6_change_27 : decode cX6_change 27 = .ok (.ireturn, 1) := by decide +kernel
set_option maxRecDepth 20000 in
theorem ggX7_init_X3_init : GoodIn wsX7_init wsX3_init := goodIn_r _ [35, 36, 2, 3, 37, 38, 39, 40, 41, 42, 43, 44, 108] rfl (by decide +kernel)
set_option maxRecDepth 20000 in
theorem gX7_init_X3_init : GoodIn wsX7_init (wsX3_init) := ggX7_init_X3_init
set_option maxRecDepth 20000 in
theorem ggX7_init_X6_init : GoodIn wsX7_init wsX6_init := goodIn_r _ [47, 48, 2, 3, 49, 50, 51, 52, 53, 54, 10, 55, 56, 117, 118] rfl (by decide +kernel)
set_option maxRecDepth 20000 in
theorem gX7_init_X6_init : GoodIn wsX7_init (wsX6_init) := ggX7_init_X6_init
set_option maxRecDepth 20000 in
theorem ggX7_init_X5_init : GoodIn wsX7_init wsX5_init := goodIn_r _ [59, 60, 2, 3, 50, 61, 62, 63, 64, 14, 65, 66, 67, 68, 69, 70, 119, 120, 121, 122, 123, 124] rfl (by decide +kernel)
set_option maxRecDepth 20000 in
theorem gX7_init_X5_init : GoodIn wsX7_init (wsX5_init) := ggX7_init_X5_init
set_option maxRecDepth 20000 in
theorem ggX7_init_X4_init : GoodIn wsX7_init wsX4_init := goodIn_r _ [73, 74, 2, 3, 50, 75, 76, 77, 78, 79, 80, 18, 81, 82, 83, 84, 85, 125, 126, 127, 128, 129, 130] rfl (by decide +kernel)
set_option maxRecDepth 20000 in
theorem gX7_init_X4_init : GoodIn wsX7_init (wsX4_init) := ggX7_init_X4_init
set_option maxRecDepth 20000 in
theorem ggX7_init_X2_init : GoodIn wsX7_init wsX2_init := goodIn_r _ [88, 89, 2, 3, 90, 131, 132, 133, 134, 135] rfl (by decide +kernel)
set_option maxRecDepth 20000 in
theorem gX7_init_X2_init : GoodIn wsX7_init (wsX2_init) := ggX7_init_X2_init
set_option maxRecDepth 20000 in
theorem ggX7_init_X1_init : GoodIn wsX7_init wsX1_init := goodIn_r _ [93, 94, 2, 3, 50, 95, 96, 97, 98, 136, 137, 138, 139, 140, 141, 142, 143, 144, 145, 146, 147] rfl (by decide +kernel)
set_option maxRecDepth 20000 in
theorem gX7_init_X1_init : GoodIn wsX7_init (wsX1_init) := ggX7_init_X1_init
set_option maxRecDepth 20000 in
theorem ggX7_init_X0_init : GoodIn wsX7_init wsX0_init := goodIn_r _ [101, 102, 2, 3, 50, 103, 104, 105, 106, 107, 148, 149, 150, 151, 152, 153, 154] rfl (by decide +kernel)
set_option maxRecDepth 20000 in
theorem gX7_init_X0_init : GoodIn wsX7_init (wsX0_init) := ggX7_init_X0_init
theorem dX7_init_0 : decode cX7_init 0 = .ok (.aload_n 0, 1) := by decide +kernel
theorem dX7_init_1 : decode cX7_init 1 = .ok (.invokespecial 1, 3) := by decide +kernel
theorem dX7_init_4 : decode cX7_init 4 = .ok (.aload_n 0, 1) := by decide +kernel
theorem dX7_init_5 : decode cX7_init 5 = .ok (.new 7, 3) := by decide +kernel
theorem dX7_init_8 : decode cX7_init 8 = .ok (.dup, 1) := by decide +kernel
theorem dX7_init_9 : decode cX7_init 9 = .ok (.invokespecial 9, 3) := by decide +kernel
theorem dX7_init_12 : decode cX7_init 12 = .ok (.putfield 10, 3) := by decide +kernel
theorem dX7_init_15 : decode cX7_init 15 = .ok (.aload_n 0, 1) := by decide +kernel
theorem dX7_init_16 : decode cX7_init 16 = .ok (.new 16, 3) := by decide +kernel
theorem dX7_init_19 : decode cX7_init 19 = .ok (.dup, 1) := by decide +kernel
theorem dX7_init_20 : decode cX7_init 20 = .ok (.invokespecial 18, 3) := by decide +kernel
theorem dX7_init_23 : decode cX7_init 23 = .ok (.putfield 19, 3) := by decide +kernel
theorem dX7_init_26 : decode cX7_init 26 = .ok (.aload_n 0, 1) := by decide +kernel
theorem dX7_init_27 : decode cX7_init 27 = .ok (.new 23, 3) := by decide +kernel
theorem dX7_init_30 : decode cX7_init 30 = .ok (.dup, 1) := by decide +kernel
theorem dX7_init_31 : decode cX7_init 31 = .ok (.invokespecial 25, 3) := by decide +kernel
theorem dX7_init_34 : decode cX7_init 34 = .ok (.putfield 26, 3) := by decide +kernel
theorem dX7_init_37 : decode cX7_init 37 = .ok (.aload_n 0, 1) := by decide +kernel
theorem dX7_init_38 : decode cX7_init 38 = .ok (.new 30, 3) := by decide +kernel
theorem dX7_init_41 : decode cX7_init 41 = .ok (.dup, 1) := by decide +kernel
theorem dX7_init_42 : decode cX7_init 42 = .ok (.invokespecial 32, 3) := by decide +kernel
theorem dX7_init_45 : decode cX7_init 45 = .ok (.putfield 33, 3) := by decide +kernel
theorem dX7_init_48 : decode cX7_init 48 = .ok (.aload_n 0, 1) := by decide +kernel
theorem dX7_init_49 : decode cX7_init 49 = .ok (.new 37, 3) := by decide +kernel
theorem dX7_init_52 : decode cX7_init 52 = .ok (.dup, 1) := by decide +kernel
theorem dX7_init_53 : decode cX7_init 53 = .ok (.invokespecial 39, 3) := by decide +kernel
theorem dX7_init_56 : decode cX7_init 56 = .ok (.putfield 40, 3) := by decide +kernel
theorem dX7_init_59 : decode cX7_init 59 = .ok (.aload_n 0, 1) := by decide +kernel
theorem dX7_init_60 : decode cX7_init 60 = .ok (.new 44, 3) := by decide +kernel
theorem dX7_init_63 : decode cX7_init 63 = .ok (.dup, 1) := by decide +kernel
theorem dX7_init_64 : decode cX7_init 64 = .ok (.invokespecial 46, 3) := by decide +kernel
theorem dX7_init_67 : decode cX7_init 67 = .ok (.putfield 47, 3) := by decide +kernel
theorem dX7_init_70 : decode cX7_init 70 = .ok (.aload_n 0, 1) := by decide +kernel
theorem dX7_init_71 : decode cX7_init 71 = .ok (.new 51, 3) := by decide +kernel
theorem dX7_init_74 : decode cX7_init 74 = .ok (.dup, 1) := by decide +kernel
theorem dX7_init_75 : decode cX7_init 75 = .ok (.invokespecial 53, 3) := by decide +kernel
theorem dX7_init_78 : decode cX7_init 78 = .ok (.putfield 54, 3) := by decide +kernel
theorem dX7_init_81 : decode cX7_init 81 = .ok (.aload_n 0, 1) := by decide +kernel
theorem dX7_init_82 : decode cX7_init 82 = .ok (.iconst 0, 1) := by decide +kernel
theorem dX7_init_83 : decode cX7_init 83 = .ok (.putfield 58, 3) := by decide +kernel
theorem dX7_init_86 : decode cX7_init 86 = .ok (.return_, 1) := by decide +kernel
set_option maxRecDepth 20000 in
theorem ggX7_press_X7_within : GoodIn wsX7_press wsX7_within := goodIn_r _ [8] rfl (by decide +kernel)
set_option maxRecDepth 20000 in
theorem gX7_press_X7_within : GoodIn wsX7_press (va_wsS RX7 62 yX7_within wsX7_within) := goodIn_app (goodIn_of _ (by decide +kernel)) ggX7_press_X7_within
set_option maxRecDepth 20000 in
theorem ggX7_press_X6_restart : GoodIn wsX7_press wsX6_restart := goodIn_r _ [13, 14, 15, 16, 45, 46] rfl (by decide +kernel)
set_option maxRecDepth 20000 in
theorem gX7_press_X6_restart : GoodIn wsX7_press (wsV RX7 66 RX6 yX6_restart wsX6_restart) := goodIn_app (goodIn_of _ (by decide +kernel)) ggX7_press_X6_restart
set_option maxRecDepth 20000 in
theorem ggX7_press_X5_restart : GoodIn wsX7_press wsX5_restart := goodIn_r _ [21, 22, 23, 24, 25, 26, 27, 47, 48, 49, 50, 51, 52] rfl (by decide +kernel)
set_option maxRecDepth 20000 in
theorem gX7_press_X5_restart : GoodIn wsX7_press (wsV RX7 70 RX5 yX5_restart wsX5_restart) := goodIn_app (goodIn_of _ (by decide +kernel)) ggX7_press_X5_restart
set_option maxRecDepth 20000 in
theorem ggX7_press_X4_restart : GoodIn wsX7_press wsX4_restart := goodIn_r _ [32, 33, 34, 35, 36, 53, 54, 55, 56, 57, 58] rfl (by decide +kernel)
set_option maxRecDepth 20000 in
theorem gX7_press_X4_restart : GoodIn wsX7_press (wsV RX7 73 RX4 yX4_restart wsX4_restart) := goodIn_app (goodIn_of _ (by decide +kernel)) ggX7_press_X4_restart
theorem dX7_press_0 : decode cX7_press 0 = .ok (.iload_n 1, 1) := by decide +kernel
theorem dX7_press_1 : decode cX7_press 1 = .ok (.iconst 2, 1) := by decide +kernel
theorem dX7_press_2 : decode cX7_press 2 = .ok (.bipush 8, 2) := by decide +kernel
theorem dX7_press_4 : decode cX7_press 4 = .ok (.invokestatic 62, 3) := by decide +kernel
theorem dX7_press_7 : decode cX7_press 7 = .ok (.ifCond .eq 12, 3) := by decide +kernel
theorem dX7_press_10 : decode cX7_press 10 = .ok (.iload_n 2, 1) := by decide +kernel
theorem dX7_press_11 : decode cX7_press 11 = .ok (.iconst 2, 1) := by decide +kernel
theorem dX7_press_12 : decode cX7_press 12 = .ok (.iconst 5, 1) := by decide +kernel
theorem dX7_press_13 : decode cX7_press 13 = .ok (.invokestatic 62, 3) := by decide +kernel
theorem dX7_press_16 : decode cX7_press 16 = .ok (.ifCond .ne 6, 3) := by decide +kernel
theorem dX7_press_19 : decode cX7_press 19 = .ok (.bipush (-2), 2) := by decide +kernel
theorem dX7_press_21 : decode cX7_press 21 = .ok (.ireturn, 1) := by decide +kernel
theorem dX7_press_22 : decode cX7_press 22 = .ok (.aload_n 0, 1) := by decide +kernel
theorem dX7_press_23 : decode cX7_press 23 = .ok (.getfield 19, 3) := by decide +kernel
theorem dX7_press_26 : decode cX7_press 26 = .ok (.iload_n 1, 1) := by decide +kernel
theorem dX7_press_27 : decode cX7_press 27 = .ok (.invokevirtual 66, 3) := by decide +kernel
theorem dX7_press_30 : decode cX7_press 30 = .ok (.aload_n 0, 1) := by decide +kernel
theorem dX7_press_31 : decode cX7_press 31 = .ok (.getfield 26, 3) := by decide +kernel
theorem dX7_press_34 : decode cX7_press 34 = .ok (.iload_n 1, 1) := by decide +kernel
theorem dX7_press_35 : decode cX7_press 35 = .ok (.iload_n 2, 1) := by decide +kernel
theorem dX7_press_36 : decode cX7_press 36 = .ok (.invokevirtual 70, 3) := by decide +kernel
theorem dX7_press_39 : decode cX7_press 39 = .ok (.aload_n 0, 1) := by decide +kernel
theorem dX7_press_40 : decode cX7_press 40 = .ok (.getfield 33, 3) := by decide +kernel
theorem dX7_press_43 : decode cX7_press 43 = .ok (.invokevirtual 73, 3) := by decide +kernel
theorem dX7_press_46 : decode cX7_press 46 = .ok (.aload_n 0, 1) := by decide +kernel
theorem dX7_press_47 : decode cX7_press 47 = .ok (.iconst 0, 1) := by decide +kernel
theorem dX7_press_48 : decode cX7_press 48 = .ok (.putfield 58, 3) := by decide +kernel
theorem dX7_press_51 : decode cX7_press 51 = .ok (.iload_n 1, 1) := by decide +kernel
theorem dX7_press_52 : decode cX7_press 52 = .ok (.iload_n 2, 1) := by decide +kernel
theorem dX7_press_53 : decode cX7_press 53 = .ok (.imul, 1) := by decide +kernel
theorem dX7_press_54 : decode cX7_press 54 = .ok (.ireturn, 1) := by decide +kernel
set_option maxRecDepth 20000 in
theorem ggX7_rule_X3_has : GoodIn wsX7_rule wsX3_has := goodIn_r _ [8, 9, 31] rfl (by decide +kernel)
set_option maxRecDepth 20000 in
theorem gX7_rule_X3_has : GoodIn wsX7_rule (wsV RX7 75 RX3 yX3_has wsX3_has) := goodIn_app (goodIn_of _ (by decide +kernel)) ggX7_rule_X3_has
set_option maxRecDepth 20000 in
theorem ggX7_rule_X3_allows : GoodIn wsX7_rule wsX3_allows := goodIn_r _ [13, 14, 15, 16, 17, 18] rfl (by decide +kernel)
set_option maxRecDepth 20000 in
theorem gX7_rule_X3_allows : GoodIn wsX7_rule (wsV RX7 80 RX3 yX3_allows wsX3_allows) := goodIn_app (goodIn_of _ (by decide +kernel)) ggX7_rule_X3_allows
set_option maxRecDepth 20000 in
theorem ggX7_rule_X3_change : GoodIn wsX7_rule wsX3_change := goodIn_r _ [22, 9, 31] rfl (by decide +kernel)
set_option maxRecDepth 20000 in
theorem gX7_rule_X3_change : GoodIn wsX7_rule (wsV RX7 85 RX3 yX3_change wsX3_change) := goodIn_app (goodIn_of _ (by decide +kernel)) ggX7_rule_X3_change
theorem dX7_rule_0 : decode cX7_rule 0 = .ok (.aload_n 0, 1) := by decide +kernel
theorem dX7_rule_1 : decode cX7_rule 1 = .ok (.getfield 10, 3) := by decide +kernel
theorem dX7_rule_4 : decode cX7_rule 4 = .ok (.iload_n 1, 1) := by decide +kernel
theorem dX7_rule_5 : decode cX7_rule 5 = .ok (.invokevirtual 75, 3) := by decide +kernel
theorem dX7_rule_8 : decode cX7_rule 8 = .ok (.ifCond .ne 6, 3) := by decide +kernel
theorem dX7_rule_11 : decode cX7_rule 11 = .ok (.ldc 79, 2) := by decide +kernel
theorem dX7_rule_13 : decode cX7_rule 13 = .ok (.ireturn, 1) := by decide +kernel
theorem dX7_rule_14 : decode cX7_rule 14 = .ok (.aload_n 0, 1) := by decide +kernel
theorem dX7_rule_15 : decode cX7_rule 15 = .ok (.getfield 10, 3) := by decide +kernel
theorem dX7_rule_18 : decode cX7_rule 18 = .ok (.iload_n 1, 1) := by decide +kernel
theorem dX7_rule_19 : decode cX7_rule 19 = .ok (.iload_n 2, 1) := by decide +kernel
theorem dX7_rule_20 : decode cX7_rule 20 = .ok (.invokevirtual 80, 3) := by decide +kernel
theorem dX7_rule_23 : decode cX7_rule 23 = .ok (.ifCond .ne 6, 3) := by decide +kernel
theorem dX7_rule_26 : decode cX7_rule 26 = .ok (.ldc 84, 2) := by decide +kernel
theorem dX7_rule_28 : decode cX7_rule 28 = .ok (.ireturn, 1) := by decide +kernel
theorem dX7_rule_29 : decode cX7_rule 29 = .ok (.aload_n 0, 1) := by decide +kernel
theorem dX7_rule_30 : decode cX7_rule 30 = .ok (.getfield 10, 3) := by decide +kernel
theorem dX7_rule_33 : decode cX7_rule 33 = .ok (.iload_n 1, 1) := by decide +kernel
theorem dX7_rule_34 : decode cX7_rule 34 = .ok (.iload_n 2, 1) := by decide +kernel
theorem dX7_rule_35 : decode cX7_rule 35 = .ok (.invokevirtual 85, 3) := by decide +kernel
theorem dX7_rule_38 : decode cX7_rule 38 = .ok (.ireturn, 1) := by decide +kernel
set_option maxRecDepth 20000 in
theorem ggX7_set_X6_has : GoodIn wsX7_set wsX6_has := goodIn_r _ [6, 7, 30, 31] rfl (by decide +kernel)
set_option maxRecDepth 20000 in
theorem gX7_set_X6_has : GoodIn wsX7_set (wsV RX7 89 RX6 yX6_has wsX6_has) := goodIn_app (goodIn_of _ (by decide +kernel)) ggX7_set_X6_has
set_option maxRecDepth 20000 in
theorem ggX7_set_X7_within : GoodIn wsX7_set wsX7_within := goodIn_r _ [11] rfl (by decide +kernel)
set_option maxRecDepth 20000 in
theorem gX7_set_X7_within : GoodIn wsX7_set (va_wsS RX7 62 yX7_within wsX7_within) := goodIn_app (goodIn_of _ (by decide +kernel)) ggX7_set_X7_within
set_option maxRecDepth 20000 in
theorem ggX7_set_X6_allows : GoodIn wsX7_set wsX6_allows := goodIn_r _ [15, 16, 9, 10, 11] rfl (by decide +kernel)
set_option maxRecDepth 20000 in
theorem gX7_set_X6_allows : GoodIn wsX7_set (wsV RX7 90 RX6 yX6_allows wsX6_allows) := goodIn_app (goodIn_of _ (by decide +kernel)) ggX7_set_X6_allows
set_option maxRecDepth 20000 in
theorem ggX7_set_X6_change : GoodIn wsX7_set wsX6_change := goodIn_r _ [20, 21, 30, 31] rfl (by decide +kernel)
set_option maxRecDepth 20000 in
theorem gX7_set_X6_change : GoodIn wsX7_set (wsV RX7 91 RX6 yX6_change wsX6_change) := goodIn_app (goodIn_of _ (by decide +kernel)) ggX7_set_X6_change
theorem dX7_set_0 : decode cX7_set 0 = .ok (.aload_n 0, 1) := by decide +kernel
theorem dX7_set_1 : decode cX7_set 1 = .ok (.getfield 19, 3) := by decide +kernel
theorem dX7_set_4 : decode cX7_set 4 = .ok (.iload_n 1, 1) := by decide +kernel
theorem dX7_set_5 : decode cX7_set 5 = .ok (.invokevirtual 89, 3) := by decide +kernel
theorem dX7_set_8 : decode cX7_set 8 = .ok (.ifCond .ne 5, 3) := by decide +kernel
theorem dX7_set_11 : decode cX7_set 11 = .ok (.iconst (-1), 1) := by decide +kernel
theorem dX7_set_12 : decode cX7_set 12 = .ok (.ireturn, 1) := by decide +kernel
theorem dX7_set_13 : decode cX7_set 13 = .ok (.iload_n 2, 1) := by decide +kernel
theorem dX7_set_14 : decode cX7_set 14 = .ok (.iconst 0, 1) := by decide +kernel
theorem dX7_set_15 : decode cX7_set 15 = .ok (.iconst 2, 1) := by decide +kernel
theorem dX7_set_16 : decode cX7_set 16 = .ok (.invokestatic 62, 3) := by decide +kernel
theorem dX7_set_19 : decode cX7_set 19 = .ok (.ifCond .eq 15, 3) := by decide +kernel
theorem dX7_set_22 : decode cX7_set 22 = .ok (.aload_n 0, 1) := by decide +kernel
theorem dX7_set_23 : decode cX7_set 23 = .ok (.getfield 19, 3) := by decide +kernel
theorem dX7_set_26 : decode cX7_set 26 = .ok (.iload_n 2, 1) := by decide +kernel
theorem dX7_set_27 : decode cX7_set 27 = .ok (.iload_n 3, 1) := by decide +kernel
theorem dX7_set_28 : decode cX7_set 28 = .ok (.invokevirtual 90, 3) := by decide +kernel
theorem dX7_set_31 : decode cX7_set 31 = .ok (.ifCond .ne 6, 3) := by decide +kernel
theorem dX7_set_34 : decode cX7_set 34 = .ok (.bipush (-2), 2) := by decide +kernel
theorem dX7_set_36 : decode cX7_set 36 = .ok (.ireturn, 1) := by decide +kernel
theorem dX7_set_37 : decode cX7_set 37 = .ok (.aload_n 0, 1) := by decide +kernel
theorem dX7_set_38 : decode cX7_set 38 = .ok (.getfield 19, 3) := by decide +kernel
theorem dX7_set_41 : decode cX7_set 41 = .ok (.iload_n 1, 1) := by decide +kernel
theorem dX7_set_42 : decode cX7_set 42 = .ok (.iload_n 2, 1) := by decide +kernel
theorem dX7_set_43 : decode cX7_set 43 = .ok (.iload_n 3, 1) := by decide +kernel
theorem dX7_set_44 : decode cX7_set 44 = .ok (.invokevirtual 91, 3) := by decide +kernel
theorem dX7_set_47 : decode cX7_set 47 = .ok (.ireturn, 1) := by decide +kernel
set_option maxRecDepth 20000 in
theorem ggX7_zone_X6_has : GoodIn wsX7_zone wsX6_has := goodIn_r _ [7, 8, 37, 38] rfl (by decide +kernel)
set_option maxRecDepth 20000 in
theorem gX7_zone_X6_has : GoodIn wsX7_zone (wsV RX7 89 RX6 yX6_has wsX6_has) := goodIn_app (goodIn_of _ (by decide +kernel)) ggX7_zone_X6_has
set_option maxRecDepth 20000 in
theorem ggX7_zone_X7_within : GoodIn wsX7_zone wsX7_within := goodIn_r _ [12] rfl (by decide +kernel)
set_option maxRecDepth 20000 in
theorem gX7_zone_X7_within : GoodIn wsX7_zone (va_wsS RX7 62 yX7_within wsX7_within) := goodIn_app (goodIn_of _ (by decide +kernel)) ggX7_zone_X7_within
set_option maxRecDepth 20000 in
theorem ggX7_zone_X4_latestDensity : GoodIn wsX7_zone wsX4_latestDensity := goodIn_r _ [17, 18, 19, 20, 21, 16, 22, 23, 39, 40, 41, 42, 43, 44] rfl (by decide +kernel)
set_option maxRecDepth 20000 in
theorem gX7_zone_X4_latestDensity : GoodIn wsX7_zone (wsV RX7 94 RX4 yX4_latestDensity wsX4_latestDensity) := goodIn_app (goodIn_of _ (by decide +kernel)) ggX7_zone_X4_latestDensity
set_option maxRecDepth 20000 in
theorem ggX7_zone_X6_valueOf : GoodIn wsX7_zone wsX6_valueOf := goodIn_r _ [27, 28, 37, 38] rfl (by decide +kernel)
set_option maxRecDepth 20000 in
theorem gX7_zone_X6_valueOf : GoodIn wsX7_zone (wsV RX7 98 RX6 yX6_valueOf wsX6_valueOf) := goodIn_app (goodIn_of _ (by decide +kernel)) ggX7_zone_X6_valueOf
theorem dX7_zone_0 : decode cX7_zone 0 = .ok (.aload_n 0, 1) := by decide +kernel
theorem dX7_zone_1 : decode cX7_zone 1 = .ok (.getfield 19, 3) := by decide +kernel
theorem dX7_zone_4 : decode cX7_zone 4 = .ok (.iload_n 1, 1) := by decide +kernel
theorem dX7_zone_5 : decode cX7_zone 5 = .ok (.invokevirtual 89, 3) := by decide +kernel
theorem dX7_zone_8 : decode cX7_zone 8 = .ok (.ifCond .ne 5, 3) := by decide +kernel
theorem dX7_zone_11 : decode cX7_zone 11 = .ok (.iconst (-1), 1) := by decide +kernel
theorem dX7_zone_12 : decode cX7_zone 12 = .ok (.ireturn, 1) := by decide +kernel
theorem dX7_zone_13 : decode cX7_zone 13 = .ok (.iload_n 2, 1) := by decide +kernel
theorem dX7_zone_14 : decode cX7_zone 14 = .ok (.iconst 0, 1) := by decide +kernel
theorem dX7_zone_15 : decode cX7_zone 15 = .ok (.iconst 3, 1) := by decide +kernel
theorem dX7_zone_16 : decode cX7_zone 16 = .ok (.invokestatic 62, 3) := by decide +kernel
theorem dX7_zone_19 : decode cX7_zone 19 = .ok (.ifCond .ne 6, 3) := by decide +kernel
theorem dX7_zone_22 : decode cX7_zone 22 = .ok (.bipush (-2), 2) := by decide +kernel
theorem dX7_zone_24 : decode cX7_zone 24 = .ok (.ireturn, 1) := by decide +kernel
theorem dX7_zone_25 : decode cX7_zone 25 = .ok (.iload_n 2, 1) := by decide +kernel
theorem dX7_zone_26 : decode cX7_zone 26 = .ok (.iconst 3, 1) := by decide +kernel
theorem dX7_zone_27 : decode cX7_zone 27 = .ok (.if_icmp .ne 14, 3) := by decide +kernel
theorem dX7_zone_30 : decode cX7_zone 30 = .ok (.aload_n 0, 1) := by decide +kernel
theorem dX7_zone_31 : decode cX7_zone 31 = .ok (.getfield 33, 3) := by decide +kernel
theorem dX7_zone_34 : decode cX7_zone 34 = .ok (.iload_n 1, 1) := by decide +kernel
theorem dX7_zone_35 : decode cX7_zone 35 = .ok (.invokevirtual 94, 3) := by decide +kernel
theorem dX7_zone_38 : decode cX7_zone 38 = .ok (.goto 12, 3) := by decide +kernel
theorem dX7_zone_41 : decode cX7_zone 41 = .ok (.aload_n 0, 1) := by decide +kernel
theorem dX7_zone_42 : decode cX7_zone 42 = .ok (.getfield 19, 3) := by decide +kernel
theorem dX7_zone_45 : decode cX7_zone 45 = .ok (.iload_n 1, 1) := by decide +kernel
theorem dX7_zone_46 : decode cX7_zone 46 = .ok (.iload_n 2, 1) := by decide +kernel
theorem dX7_zone_47 : decode cX7_zone 47 = .ok (.invokevirtual 98, 3) := by decide +kernel
theorem dX7_zone_50 : decode cX7_zone 50 = .ok (.ireturn, 1) := by decide +kernel
set_option maxRecDepth 20000 in
theorem ggX7_ink_X5_has : GoodIn wsX7_ink wsX5_has := goodIn_r _ [7, 8, 28, 29, 30, 31, 32, 33] rfl (by decide +kernel)
set_option maxRecDepth 20000 in
theorem gX7_ink_X5_has : GoodIn wsX7_ink (wsV RX7 101 RX5 yX5_has wsX5_has) := goodIn_app (goodIn_of _ (by decide +kernel)) ggX7_ink_X5_has
set_option maxRecDepth 20000 in
theorem ggX7_ink_X6_has : GoodIn wsX7_ink wsX6_has := goodIn_r _ [13, 14, 34, 35] rfl (by decide +kernel)
set_option maxRecDepth 20000 in
theorem gX7_ink_X6_has : GoodIn wsX7_ink (wsV RX7 89 RX6 yX6_has wsX6_has) := goodIn_app (goodIn_of _ (by decide +kernel)) ggX7_ink_X6_has
set_option maxRecDepth 20000 in
theorem ggX7_ink_X5_inkAt : GoodIn wsX7_ink wsX5_inkAt := goodIn_r _ [18, 19, 28, 29, 30, 31, 32, 33] rfl (by decide +kernel)
set_option maxRecDepth 20000 in
theorem gX7_ink_X5_inkAt : GoodIn wsX7_ink (wsV RX7 102 RX5 yX5_inkAt wsX5_inkAt) := goodIn_app (goodIn_of _ (by decide +kernel)) ggX7_ink_X5_inkAt
theorem dX7_ink_0 : decode cX7_ink 0 = .ok (.aload_n 0, 1) := by decide +kernel
theorem dX7_ink_1 : decode cX7_ink 1 = .ok (.getfield 26, 3) := by decide +kernel
theorem dX7_ink_4 : decode cX7_ink 4 = .ok (.iload_n 1, 1) := by decide +kernel
theorem dX7_ink_5 : decode cX7_ink 5 = .ok (.invokevirtual 101, 3) := by decide +kernel
theorem dX7_ink_8 : decode cX7_ink 8 = .ok (.ifCond .eq 14, 3) := by decide +kernel
theorem dX7_ink_11 : decode cX7_ink 11 = .ok (.aload_n 0, 1) := by decide +kernel
theorem dX7_ink_12 : decode cX7_ink 12 = .ok (.getfield 19, 3) := by decide +kernel
theorem dX7_ink_15 : decode cX7_ink 15 = .ok (.iload_n 2, 1) := by decide +kernel
theorem dX7_ink_16 : decode cX7_ink 16 = .ok (.invokevirtual 89, 3) := by decide +kernel
theorem dX7_ink_19 : decode cX7_ink 19 = .ok (.ifCond .ne 5, 3) := by decide +kernel
theorem dX7_ink_22 : decode cX7_ink 22 = .ok (.iconst (-1), 1) := by decide +kernel
theorem dX7_ink_23 : decode cX7_ink 23 = .ok (.ireturn, 1) := by decide +kernel
theorem dX7_ink_24 : decode cX7_ink 24 = .ok (.aload_n 0, 1) := by decide +kernel
theorem dX7_ink_25 : decode cX7_ink 25 = .ok (.getfield 26, 3) := by decide +kernel
theorem dX7_ink_28 : decode cX7_ink 28 = .ok (.iload_n 1, 1) := by decide +kernel
theorem dX7_ink_29 : decode cX7_ink 29 = .ok (.iload_n 2, 1) := by decide +kernel
theorem dX7_ink_30 : decode cX7_ink 30 = .ok (.invokevirtual 102, 3) := by decide +kernel
theorem dX7_ink_33 : decode cX7_ink 33 = .ok (.ireturn, 1) := by decide +kernel
set_option maxRecDepth 20000 in
theorem ggX7_print_X7_within : GoodIn wsX7_print wsX7_within := goodIn_r _ [6] rfl (by decide +kernel)
set_option maxRecDepth 20000 in
theorem gX7_print_X7_within : GoodIn wsX7_print (va_wsS RX7 62 yX7_within wsX7_within) := goodIn_app (goodIn_of _ (by decide +kernel)) ggX7_print_X7_within
set_option maxRecDepth 20000 in
theorem ggX7_print_X7_printSheet : GoodIn wsX7_print wsX7_printSheet := goodIn_r _ [10, 11, 12, 13, 1, 14, 15, 16, 17, 18, 19, 20, 21, 22, 23, 24, 25, 26, 27, 28, 29, 30, 31, 32, 33, 34, 35, 36, 37, 38, 39, 40, 41, 42, 43, 44, 45, 46, 47, 48, 49, 50, 51, 52, 53, 54, 55, 56, 57, 58, 59, 60, 61, 62, 63, 64, 65, 66, 67, 68, 69, 70, 71, 72, 73, 74, 104, 105, 106, 107, 108, 109, 110, 111, 118, 119, 120, 121, 122, 123, 124, 125, 126, 112, 113, 114, 115, 116, 117] rfl (by decide +kernel)
set_option maxRecDepth 20000 in
theorem gX7_print_X7_printSheet : GoodIn wsX7_print (wsV RX7 109 RX7 yX7_printSheet wsX7_printSheet) := goodIn_app (goodIn_of _ (by decide +kernel)) ggX7_print_X7_printSheet
set_option maxRecDepth 20000 in
theorem ggX7_print_X7_isSteeringDue : GoodIn wsX7_print wsX7_isSteeringDue := goodIn_r _ [78, 13, 1, 24, 25, 26, 27, 28, 29, 104, 105, 106, 107, 108, 109, 110, 111, 112, 113, 114, 115, 116, 117, 120] rfl (by decide +kernel)
set_option maxRecDepth 20000 in
theorem gX7_print_X7_isSteeringDue : GoodIn wsX7_print (wsV RX7 112 RX7 yX7_isSteeringDue wsX7_isSteeringDue) := goodIn_app (goodIn_of _ (by decide +kernel)) ggX7_print_X7_isSteeringDue
set_option maxRecDepth 20000 in
theorem ggX7_print_X7_steerKeys : GoodIn wsX7_print wsX7_steerKeys := goodIn_r _ [82, 13, 11, 1, 24, 25, 26, 27, 28, 29, 18, 19, 20, 21, 22, 23, 83, 84, 85, 53, 86, 55, 87, 88, 89, 90, 66, 91, 92, 5, 93, 94, 95, 16, 96, 97, 98, 99, 100, 101, 102, 103, 104, 105, 106, 107, 108, 109, 110, 111, 118, 119, 120, 112, 113, 114, 115, 116, 117] rfl (by decide +kernel)
set_option maxRecDepth 20000 in
theorem gX7_print_X7_steerKeys : GoodIn wsX7_print (wsV RX7 116 RX7 yX7_steerKeys wsX7_steerKeys) := goodIn_app (goodIn_of _ (by decide +kernel)) ggX7_print_X7_steerKeys
theorem dX7_print_0 : decode cX7_print 0 = .ok (.iload_n 1, 1) := by decide +kernel
theorem dX7_print_1 : decode cX7_print 1 = .ok (.iconst 1, 1) := by decide +kernel
theorem dX7_print_2 : decode cX7_print 2 = .ok (.sipush 200, 3) := by decide +kernel
theorem dX7_print_5 : decode cX7_print 5 = .ok (.invokestatic 62, 3) := by decide +kernel
theorem dX7_print_8 : decode cX7_print 8 = .ok (.ifCond .ne 6, 3) := by decide +kernel
theorem dX7_print_11 : decode cX7_print 11 = .ok (.bipush (-2), 2) := by decide +kernel
theorem dX7_print_13 : decode cX7_print 13 = .ok (.ireturn, 1) := by decide +kernel
theorem dX7_print_14 : decode cX7_print 14 = .ok (.aload_n 0, 1) := by decide +kernel
theorem dX7_print_15 : decode cX7_print 15 = .ok (.getfield 33, 3) := by decide +kernel
theorem dX7_print_18 : decode cX7_print 18 = .ok (.getfield 105, 3) := by decide +kernel
theorem dX7_print_21 : decode cX7_print 21 = .ok (.iload_n 1, 1) := by decide +kernel
theorem dX7_print_22 : decode cX7_print 22 = .ok (.iadd, 1) := by decide +kernel
theorem dX7_print_23 : decode cX7_print 23 = .ok (.sipush 1000, 3) := by decide +kernel
theorem dX7_print_26 : decode cX7_print 26 = .ok (.if_icmp .le 6, 3) := by decide +kernel
theorem dX7_print_29 : decode cX7_print 29 = .ok (.bipush (-3), 2) := by decide +kernel
theorem dX7_print_31 : decode cX7_print 31 = .ok (.ireturn, 1) := by decide +kernel
theorem dX7_print_32 : decode cX7_print 32 = .ok (.iconst 0, 1) := by decide +kernel
theorem dX7_print_33 : decode cX7_print 33 = .ok (.istore_n 2, 1) := by decide +kernel
theorem dX7_print_34 : decode cX7_print 34 = .ok (.iload_n 2, 1) := by decide +kernel
theorem dX7_print_35 : decode cX7_print 35 = .ok (.iload_n 1, 1) := by decide +kernel
theorem dX7_print_36 : decode cX7_print 36 = .ok (.if_icmp .ge 31, 3) := by decide +kernel
theorem dX7_print_39 : decode cX7_print 39 = .ok (.aload_n 0, 1) := by decide +kernel
theorem dX7_print_40 : decode cX7_print 40 = .ok (.invokevirtual 109, 3) := by decide +kernel
theorem dX7_print_43 : decode cX7_print 43 = .ok (.aload_n 0, 1) := by decide +kernel
theorem dX7_print_44 : decode cX7_print 44 = .ok (.getfield 58, 3) := by decide +kernel
theorem dX7_print_47 : decode cX7_print 47 = .ok (.ifCond .eq 14, 3) := by decide +kernel
theorem dX7_print_50 : decode cX7_print 50 = .ok (.aload_n 0, 1) := by decide +kernel
theorem dX7_print_51 : decode cX7_print 51 = .ok (.invokevirtual 112, 3) := by decide +kernel
theorem dX7_print_54 : decode cX7_print 54 = .ok (.ifCond .eq 7, 3) := by decide +kernel
theorem dX7_print_57 : decode cX7_print 57 = .ok (.aload_n 0, 1) := by decide +kernel
theorem dX7_print_58 : decode cX7_print 58 = .ok (.invokevirtual 116, 3) := by decide +kernel
theorem dX7_print_61 : decode cX7_print 61 = .ok (.iinc 2 1, 3) := by decide +kernel
theorem dX7_print_64 : decode cX7_print 64 = .ok (.goto (-30), 3) := by decide +kernel
theorem dX7_print_67 : decode cX7_print 67 = .ok (.aload_n 0, 1) := by decide +kernel
theorem dX7_print_68 : decode cX7_print 68 = .ok (.getfield 33, 3) := by decide +kernel
theorem dX7_print_71 : decode cX7_print 71 = .ok (.getfield 105, 3) := by decide +kernel
theorem dX7_print_74 : decode cX7_print 74 = .ok (.ireturn, 1) := by decide +kernel
theorem dX7_steer_0 : decode cX7_steer 0 = .ok (.aload_n 0, 1) := by decide +kernel
theorem dX7_steer_1 : decode cX7_steer 1 = .ok (.getfield 58, 3) := by decide +kernel
theorem dX7_steer_4 : decode cX7_steer 4 = .ok (.ifCond .eq 7, 3) := by decide +kernel
theorem dX7_steer_7 : decode cX7_steer 7 = .ok (.iconst 1, 1) := by decide +kernel
theorem dX7_steer_8 : decode cX7_steer 8 = .ok (.goto 4, 3) := by decide +kernel
theorem dX7_steer_11 : decode cX7_steer 11 = .ok (.iconst 0, 1) := by decide +kernel
theorem dX7_steer_12 : decode cX7_steer 12 = .ok (.istore_n 2, 1) := by decide +kernel
theorem dX7_steer_13 : decode cX7_steer 13 = .ok (.aload_n 0, 1) := by decide +kernel
theorem dX7_steer_14 : decode cX7_steer 14 = .ok (.iload_n 1, 1) := by decide +kernel
theorem dX7_steer_15 : decode cX7_steer 15 = .ok (.putfield 58, 3) := by decide +kernel
theorem dX7_steer_18 : decode cX7_steer 18 = .ok (.iload_n 2, 1) := by decide +kernel
theorem dX7_steer_19 : decode cX7_steer 19 = .ok (.ireturn, 1) := by decide +kernel
set_option maxRecDepth 20000 in
theorem ggX7_good_X4_has : GoodIn wsX7_good wsX4_has := goodIn_r _ [6, 7, 21, 22, 23, 24, 25, 26] rfl (by decide +kernel)
set_option maxRecDepth 20000 in
theorem gX7_good_X4_has : GoodIn wsX7_good (wsV RX7 119 RX4 yX4_has wsX4_has) := goodIn_app (goodIn_of _ (by decide +kernel)) ggX7_good_X4_has
set_option maxRecDepth 20000 in
theorem ggX7_good_X4_wasGood : GoodIn wsX7_good wsX4_wasGood := goodIn_r _ [11, 12, 21, 22, 23, 24, 25, 26] rfl (by decide +kernel)
set_option maxRecDepth 20000 in
theorem gX7_good_X4_wasGood : GoodIn wsX7_good (wsV RX7 120 RX4 yX4_wasGood wsX4_wasGood) := goodIn_app (goodIn_of _ (by decide +kernel)) ggX7_good_X4_wasGood
theorem dX7_good_0 : decode cX7_good 0 = .ok (.aload_n 0, 1) := by decide +kernel
theorem dX7_good_1 : decode cX7_good 1 = .ok (.getfield 33, 3) := by decide +kernel
theorem dX7_good_4 : decode cX7_good 4 = .ok (.iload_n 1, 1) := by decide +kernel
theorem dX7_good_5 : decode cX7_good 5 = .ok (.invokevirtual 119, 3) := by decide +kernel
theorem dX7_good_8 : decode cX7_good 8 = .ok (.ifCond .ne 5, 3) := by decide +kernel
theorem dX7_good_11 : decode cX7_good 11 = .ok (.iconst (-1), 1) := by decide +kernel
theorem dX7_good_12 : decode cX7_good 12 = .ok (.ireturn, 1) := by decide +kernel
theorem dX7_good_13 : decode cX7_good 13 = .ok (.aload_n 0, 1) := by decide +kernel
theorem dX7_good_14 : decode cX7_good 14 = .ok (.getfield 33, 3) := by decide +kernel
theorem dX7_good_17 : decode cX7_good 17 = .ok (.iload_n 1, 1) := by decide +kernel
theorem dX7_good_18 : decode cX7_good 18 = .ok (.invokevirtual 120, 3) := by decide +kernel
theorem dX7_good_21 : decode cX7_good 21 = .ok (.ifCond .eq 7, 3) := by decide +kernel
theorem dX7_good_24 : decode cX7_good 24 = .ok (.iconst 1, 1) := by decide +kernel
theorem dX7_good_25 : decode cX7_good 25 = .ok (.goto 4, 3) := by decide +kernel
theorem dX7_good_28 : decode cX7_good 28 = .ok (.iconst 0, 1) := by decide +kernel
theorem dX7_good_29 : decode cX7_good 29 = .ok (.ireturn, 1) := by decide +kernel
set_option maxRecDepth 20000 in
theorem ggX7_density_X4_has : GoodIn wsX7_density wsX4_has := goodIn_r _ [7, 8, 28, 29, 30, 31, 32, 33] rfl (by decide +kernel)
set_option maxRecDepth 20000 in
theorem gX7_density_X4_has : GoodIn wsX7_density (wsV RX7 119 RX4 yX4_has wsX4_has) := goodIn_app (goodIn_of _ (by decide +kernel)) ggX7_density_X4_has
set_option maxRecDepth 20000 in
theorem ggX7_density_X6_has : GoodIn wsX7_density wsX6_has := goodIn_r _ [13, 14, 34, 35] rfl (by decide +kernel)
set_option maxRecDepth 20000 in
theorem gX7_density_X6_has : GoodIn wsX7_density (wsV RX7 89 RX6 yX6_has wsX6_has) := goodIn_app (goodIn_of _ (by decide +kernel)) ggX7_density_X6_has
set_option maxRecDepth 20000 in
theorem ggX7_density_X4_densityOn : GoodIn wsX7_density wsX4_densityOn := goodIn_r _ [18, 19, 28, 29, 30, 31, 32, 33] rfl (by decide +kernel)
set_option maxRecDepth 20000 in
theorem gX7_density_X4_densityOn : GoodIn wsX7_density (wsV RX7 123 RX4 yX4_densityOn wsX4_densityOn) := goodIn_app (goodIn_of _ (by decide +kernel)) ggX7_density_X4_densityOn
theorem dX7_density_0 : decode cX7_density 0 = .ok (.aload_n 0, 1) := by decide +kernel
theorem dX7_density_1 : decode cX7_density 1 = .ok (.getfield 33, 3) := by decide +kernel
theorem dX7_density_4 : decode cX7_density 4 = .ok (.iload_n 1, 1) := by decide +kernel
theorem dX7_density_5 : decode cX7_density 5 = .ok (.invokevirtual 119, 3) := by decide +kernel
theorem dX7_density_8 : decode cX7_density 8 = .ok (.ifCond .eq 14, 3) := by decide +kernel
theorem dX7_density_11 : decode cX7_density 11 = .ok (.aload_n 0, 1) := by decide +kernel
theorem dX7_density_12 : decode cX7_density 12 = .ok (.getfield 19, 3) := by decide +kernel
theorem dX7_density_15 : decode cX7_density 15 = .ok (.iload_n 2, 1) := by decide +kernel
theorem dX7_density_16 : decode cX7_density 16 = .ok (.invokevirtual 89, 3) := by decide +kernel
theorem dX7_density_19 : decode cX7_density 19 = .ok (.ifCond .ne 5, 3) := by decide +kernel
theorem dX7_density_22 : decode cX7_density 22 = .ok (.iconst (-1), 1) := by decide +kernel
