theorem dX8_press_16 : decode cX8_press 16 = .ok (.ldc2_w 107, 3) := by decide +kernel
theorem dX8_press_19 : decode cX8_press 19 = .ok (.ldc2_w 111, 3) := by decide +kernel
theorem dX8_press_22 : decode cX8_press 22 = .ok (.invokestatic 103, 3) := by decide +kernel
theorem dX8_press_25 : decode cX8_press 25 = .ok (.ifCond .ne 6, 3) := by decide +kernel
theorem dX8_press_28 : decode cX8_press 28 = .ok (.bipush (-2), 2) := by decide +kernel
theorem dX8_press_30 : decode cX8_press 30 = .ok (.ireturn, 1) := by decide +kernel
theorem dX8_press_31 : decode cX8_press 31 = .ok (.aload_n 0, 1) := by decide +kernel
theorem dX8_press_32 : decode cX8_press 32 = .ok (.iload_n 1, 1) := by decide +kernel
theorem dX8_press_33 : decode cX8_press 33 = .ok (.putfield 7, 3) := by decide +kernel
theorem dX8_press_36 : decode cX8_press 36 = .ok (.aload_n 0, 1) := by decide +kernel
theorem dX8_press_37 : decode cX8_press 37 = .ok (.iload_n 2, 1) := by decide +kernel
theorem dX8_press_38 : decode cX8_press 38 = .ok (.putfield 13, 3) := by decide +kernel
theorem dX8_press_41 : decode cX8_press 41 = .ok (.aload_n 0, 1) := by decide +kernel
theorem dX8_press_42 : decode cX8_press 42 = .ok (.invokevirtual 78, 3) := by decide +kernel
theorem dX8_press_45 : decode cX8_press 45 = .ok (.iload_n 1, 1) := by decide +kernel
theorem dX8_press_46 : decode cX8_press 46 = .ok (.iload_n 2, 1) := by decide +kernel
theorem dX8_press_47 : decode cX8_press 47 = .ok (.imul, 1) := by decide +kernel
theorem dX8_press_48 : decode cX8_press 48 = .ok (.ireturn, 1) := by decide +kernel
theorem dX8_mostOf_0 : decode cX8_mostOf 0 = .ok (.iload_n 0, 1) := by decide +kernel
theorem dX8_mostOf_1 : decode cX8_mostOf 1 = .ok (.tableswitch 74 0 8 #[51, 74, 54, 74, 57, 61, 64, 68, 71], 51) := by decide +kernel
theorem dX8_mostOf_52 : decode cX8_mostOf 52 = .ok (.bipush 20, 2) := by decide +kernel
theorem dX8_mostOf_54 : decode cX8_mostOf 54 = .ok (.ireturn, 1) := by decide +kernel
theorem dX8_mostOf_55 : decode cX8_mostOf 55 = .ok (.bipush 40, 2) := by decide +kernel
theorem dX8_mostOf_57 : decode cX8_mostOf 57 = .ok (.ireturn, 1) := by decide +kernel
theorem dX8_mostOf_58 : decode cX8_mostOf 58 = .ok (.sipush 200, 3) := by decide +kernel
theorem dX8_mostOf_61 : decode cX8_mostOf 61 = .ok (.ireturn, 1) := by decide +kernel
theorem dX8_mostOf_62 : decode cX8_mostOf 62 = .ok (.bipush 100, 2) := by decide +kernel
theorem dX8_mostOf_64 : decode cX8_mostOf 64 = .ok (.ireturn, 1) := by decide +kernel
theorem dX8_mostOf_65 : decode cX8_mostOf 65 = .ok (.sipush 500, 3) := by decide +kernel
theorem dX8_mostOf_68 : decode cX8_mostOf 68 = .ok (.ireturn, 1) := by decide +kernel
theorem dX8_mostOf_69 : decode cX8_mostOf 69 = .ok (.bipush 50, 2) := by decide +kernel
theorem dX8_mostOf_71 : decode cX8_mostOf 71 = .ok (.ireturn, 1) := by decide +kernel
theorem dX8_mostOf_72 : decode cX8_mostOf 72 = .ok (.bipush 20, 2) := by decide +kernel
theorem dX8_mostOf_74 : decode cX8_mostOf 74 = .ok (.ireturn, 1) := by decide +kernel
theorem dX8_mostOf_75 : decode cX8_mostOf 75 = .ok (.bipush 90, 2) := by decide +kernel
theorem dX8_mostOf_77 : decode cX8_mostOf 77 = .ok (.ireturn, 1) := by decide +kernel
set_option maxRecDepth 20000 in
theorem ggX8_rule_X8_in : GoodIn wsX8_rule wsX8_in := goodIn_r _ [8] rfl (by decide +kernel)
set_option maxRecDepth 20000 in
theorem gX8_rule_X8_in : GoodIn wsX8_rule (va_wsS RX8 103 yX8_in wsX8_in) := goodIn_app (goodIn_of _ (by decide +kernel)) ggX8_rule_X8_in
set_option maxRecDepth 20000 in
theorem ggX8_rule_X8_mostOf : GoodIn wsX8_rule wsX8_mostOf := goodIn_r _ [11] rfl (by decide +kernel)
set_option maxRecDepth 20000 in
theorem gX8_rule_X8_mostOf : GoodIn wsX8_rule (va_wsS RX8 114 yX8_mostOf wsX8_mostOf) := goodIn_app (goodIn_of _ (by decide +kernel)) ggX8_rule_X8_mostOf
theorem dX8_rule_0 : decode cX8_rule 0 = .ok (.iload_n 1, 1) := by decide +kernel
theorem dX8_rule_1 : decode cX8_rule 1 = .ok (.i2l, 1) := by decide +kernel
theorem dX8_rule_2 : decode cX8_rule 2 = .ok (.lconst 0, 1) := by decide +kernel
theorem dX8_rule_3 : decode cX8_rule 3 = .ok (.ldc2_w 109, 3) := by decide +kernel
theorem dX8_rule_6 : decode cX8_rule 6 = .ok (.invokestatic 103, 3) := by decide +kernel
theorem dX8_rule_9 : decode cX8_rule 9 = .ok (.ifCond .ne 6, 3) := by decide +kernel
theorem dX8_rule_12 : decode cX8_rule 12 = .ok (.ldc 113, 2) := by decide +kernel
theorem dX8_rule_14 : decode cX8_rule 14 = .ok (.ireturn, 1) := by decide +kernel
theorem dX8_rule_15 : decode cX8_rule 15 = .ok (.iload_n 2, 1) := by decide +kernel
theorem dX8_rule_16 : decode cX8_rule 16 = .ok (.i2l, 1) := by decide +kernel
theorem dX8_rule_17 : decode cX8_rule 17 = .ok (.iload_n 1, 1) := by decide +kernel
theorem dX8_rule_18 : decode cX8_rule 18 = .ok (.iconst 2, 1) := by decide +kernel
theorem dX8_rule_19 : decode cX8_rule 19 = .ok (.if_icmp .eq 9, 3) := by decide +kernel
theorem dX8_rule_22 : decode cX8_rule 22 = .ok (.iload_n 1, 1) := by decide +kernel
theorem dX8_rule_23 : decode cX8_rule 23 = .ok (.bipush 6, 2) := by decide +kernel
theorem dX8_rule_25 : decode cX8_rule 25 = .ok (.if_icmp .ne 7, 3) := by decide +kernel
theorem dX8_rule_28 : decode cX8_rule 28 = .ok (.lconst 0, 1) := by decide +kernel
theorem dX8_rule_29 : decode cX8_rule 29 = .ok (.goto 4, 3) := by decide +kernel
theorem dX8_rule_32 : decode cX8_rule 32 = .ok (.lconst 1, 1) := by decide +kernel
theorem dX8_rule_33 : decode cX8_rule 33 = .ok (.iload_n 1, 1) := by decide +kernel
theorem dX8_rule_34 : decode cX8_rule 34 = .ok (.invokestatic 114, 3) := by decide +kernel
theorem dX8_rule_37 : decode cX8_rule 37 = .ok (.i2l, 1) := by decide +kernel
theorem dX8_rule_38 : decode cX8_rule 38 = .ok (.invokestatic 103, 3) := by decide +kernel
theorem dX8_rule_41 : decode cX8_rule 41 = .ok (.ifCond .ne 6, 3) := by decide +kernel
theorem dX8_rule_44 : decode cX8_rule 44 = .ok (.ldc 118, 2) := by decide +kernel
theorem dX8_rule_46 : decode cX8_rule 46 = .ok (.ireturn, 1) := by decide +kernel
theorem dX8_rule_47 : decode cX8_rule 47 = .ok (.aload_n 0, 1) := by decide +kernel
theorem dX8_rule_48 : decode cX8_rule 48 = .ok (.getfield 16, 3) := by decide +kernel
theorem dX8_rule_51 : decode cX8_rule 51 = .ok (.iload_n 1, 1) := by decide +kernel
theorem dX8_rule_52 : decode cX8_rule 52 = .ok (.iaload, 1) := by decide +kernel
theorem dX8_rule_53 : decode cX8_rule 53 = .ok (.istore_n 3, 1) := by decide +kernel
theorem dX8_rule_54 : decode cX8_rule 54 = .ok (.aload_n 0, 1) := by decide +kernel
theorem dX8_rule_55 : decode cX8_rule 55 = .ok (.getfield 16, 3) := by decide +kernel
theorem dX8_rule_58 : decode cX8_rule 58 = .ok (.iload_n 1, 1) := by decide +kernel
theorem dX8_rule_59 : decode cX8_rule 59 = .ok (.iload_n 2, 1) := by decide +kernel
theorem dX8_rule_60 : decode cX8_rule 60 = .ok (.iastore, 1) := by decide +kernel
theorem dX8_rule_61 : decode cX8_rule 61 = .ok (.iload_n 3, 1) := by decide +kernel
theorem dX8_rule_62 : decode cX8_rule 62 = .ok (.ireturn, 1) := by decide +kernel
set_option maxRecDepth 20000 in
theorem ggX8_set_X8_isZone : GoodIn wsX8_set wsX8_isZone := goodIn_r _ [11, 12, 13, 14, 10, 15, 16, 17, 18, 19, 20, 21, 22, 23, 24, 25, 26, 27, 28, 29, 30, 31, 32, 33, 34, 35, 36, 37, 38, 39, 40, 41, 42, 43, 44, 45, 46, 47, 48, 49, 50, 51, 52] rfl (by decide +kernel)
set_option maxRecDepth 20000 in
theorem gX8_set_X8_isZone : GoodIn wsX8_set (wsV RX8 119 RX8 yX8_isZone wsX8_isZone) := goodIn_app (goodIn_of _ (by decide +kernel)) ggX8_set_X8_isZone
set_option maxRecDepth 20000 in
theorem ggX8_set_X8_in : GoodIn wsX8_set wsX8_in := goodIn_r _ [15] rfl (by decide +kernel)
set_option maxRecDepth 20000 in
theorem gX8_set_X8_in : GoodIn wsX8_set (va_wsS RX8 103 yX8_in wsX8_in) := goodIn_app (goodIn_of _ (by decide +kernel)) ggX8_set_X8_in
theorem dX8_set_0 : decode cX8_set 0 = .ok (.aload_n 0, 1) := by decide +kernel
theorem dX8_set_1 : decode cX8_set 1 = .ok (.iload_n 1, 1) := by decide +kernel
theorem dX8_set_2 : decode cX8_set 2 = .ok (.invokevirtual 119, 3) := by decide +kernel
theorem dX8_set_5 : decode cX8_set 5 = .ok (.ifCond .ne 5, 3) := by decide +kernel
theorem dX8_set_8 : decode cX8_set 8 = .ok (.iconst (-1), 1) := by decide +kernel
theorem dX8_set_9 : decode cX8_set 9 = .ok (.ireturn, 1) := by decide +kernel
theorem dX8_set_10 : decode cX8_set 10 = .ok (.iload_n 2, 1) := by decide +kernel
theorem dX8_set_11 : decode cX8_set 11 = .ok (.i2l, 1) := by decide +kernel
theorem dX8_set_12 : decode cX8_set 12 = .ok (.lconst 0, 1) := by decide +kernel
theorem dX8_set_13 : decode cX8_set 13 = .ok (.ldc2_w 107, 3) := by decide +kernel
theorem dX8_set_16 : decode cX8_set 16 = .ok (.invokestatic 103, 3) := by decide +kernel
theorem dX8_set_19 : decode cX8_set 19 = .ok (.ifCond .eq 26, 3) := by decide +kernel
theorem dX8_set_22 : decode cX8_set 22 = .ok (.iload_n 3, 1) := by decide +kernel
theorem dX8_set_23 : decode cX8_set 23 = .ok (.i2l, 1) := by decide +kernel
theorem dX8_set_24 : decode cX8_set 24 = .ok (.lconst 0, 1) := by decide +kernel
theorem dX8_set_25 : decode cX8_set 25 = .ok (.iload_n 2, 1) := by decide +kernel
theorem dX8_set_26 : decode cX8_set 26 = .ok (.iconst 2, 1) := by decide +kernel
theorem dX8_set_27 : decode cX8_set 27 = .ok (.if_icmp .ne 9, 3) := by decide +kernel
theorem dX8_set_30 : decode cX8_set 30 = .ok (.ldc2_w 123, 3) := by decide +kernel
theorem dX8_set_33 : decode cX8_set 33 = .ok (.goto 6, 3) := by decide +kernel
theorem dX8_set_36 : decode cX8_set 36 = .ok (.ldc2_w 125, 3) := by decide +kernel
theorem dX8_set_39 : decode cX8_set 39 = .ok (.invokestatic 103, 3) := by decide +kernel
theorem dX8_set_42 : decode cX8_set 42 = .ok (.ifCond .ne 6, 3) := by decide +kernel
theorem dX8_set_45 : decode cX8_set 45 = .ok (.bipush (-2), 2) := by decide +kernel
theorem dX8_set_47 : decode cX8_set 47 = .ok (.ireturn, 1) := by decide +kernel
theorem dX8_set_48 : decode cX8_set 48 = .ok (.iload_n 2, 1) := by decide +kernel
theorem dX8_set_49 : decode cX8_set 49 = .ok (.ifCond .ne 12, 3) := by decide +kernel
theorem dX8_set_52 : decode cX8_set 52 = .ok (.aload_n 0, 1) := by decide +kernel
theorem dX8_set_53 : decode cX8_set 53 = .ok (.getfield 20, 3) := by decide +kernel
theorem dX8_set_56 : decode cX8_set 56 = .ok (.iload_n 1, 1) := by decide +kernel
theorem dX8_set_57 : decode cX8_set 57 = .ok (.iaload, 1) := by decide +kernel
theorem dX8_set_58 : decode cX8_set 58 = .ok (.goto 23, 3) := by decide +kernel
theorem dX8_set_61 : decode cX8_set 61 = .ok (.iload_n 2, 1) := by decide +kernel
theorem dX8_set_62 : decode cX8_set 62 = .ok (.iconst 1, 1) := by decide +kernel
theorem dX8_set_63 : decode cX8_set 63 = .ok (.if_icmp .ne 12, 3) := by decide +kernel
theorem dX8_set_66 : decode cX8_set 66 = .ok (.aload_n 0, 1) := by decide +kernel
theorem dX8_set_67 : decode cX8_set 67 = .ok (.getfield 23, 3) := by decide +kernel
theorem dX8_set_70 : decode cX8_set 70 = .ok (.iload_n 1, 1) := by decide +kernel
theorem dX8_set_71 : decode cX8_set 71 = .ok (.iaload, 1) := by decide +kernel
theorem dX8_set_72 : decode cX8_set 72 = .ok (.goto 9, 3) := by decide +kernel
theorem dX8_set_75 : decode cX8_set 75 = .ok (.aload_n 0, 1) := by decide +kernel
theorem dX8_set_76 : decode cX8_set 76 = .ok (.getfield 26, 3) := by decide +kernel
theorem dX8_set_79 : decode cX8_set 79 = .ok (.iload_n 1, 1) := by decide +kernel
theorem dX8_set_80 : decode cX8_set 80 = .ok (.iaload, 1) := by decide +kernel
theorem dX8_set_81 : decode cX8_set 81 = .ok (.istore 4, 2) := by decide +kernel
theorem dX8_set_83 : decode cX8_set 83 = .ok (.iload_n 2, 1) := by decide +kernel
theorem dX8_set_84 : decode cX8_set 84 = .ok (.ifCond .ne 13, 3) := by decide +kernel
theorem dX8_set_87 : decode cX8_set 87 = .ok (.aload_n 0, 1) := by decide +kernel
theorem dX8_set_88 : decode cX8_set 88 = .ok (.getfield 20, 3) := by decide +kernel
theorem dX8_set_91 : decode cX8_set 91 = .ok (.iload_n 1, 1) := by decide +kernel
theorem dX8_set_92 : decode cX8_set 92 = .ok (.iload_n 3, 1) := by decide +kernel
theorem dX8_set_93 : decode cX8_set 93 = .ok (.iastore, 1) := by decide +kernel
theorem dX8_set_94 : decode cX8_set 94 = .ok (.goto 25, 3) := by decide +kernel
theorem dX8_set_97 : decode cX8_set 97 = .ok (.iload_n 2, 1) := by decide +kernel
theorem dX8_set_98 : decode cX8_set 98 = .ok (.iconst 1, 1) := by decide +kernel
theorem dX8_set_99 : decode cX8_set 99 = .ok (.if_icmp .ne 13, 3) := by decide +kernel
theorem dX8_set_102 : decode cX8_set 102 = .ok (.aload_n 0, 1) := by decide +kernel
theorem dX8_set_103 : decode cX8_set 103 = .ok (.getfield 23, 3) := by decide +kernel
theorem dX8_set_106 : decode cX8_set 106 = .ok (.iload_n 1, 1) := by decide +kernel
theorem dX8_set_107 : decode cX8_set 107 = .ok (.iload_n 3, 1) := by decide +kernel
theorem dX8_set_108 : decode cX8_set 108 = .ok (.iastore, 1) := by decide +kernel
theorem dX8_set_109 : decode cX8_set 109 = .ok (.goto 10, 3) := by decide +kernel
theorem dX8_set_112 : decode cX8_set 112 = .ok (.aload_n 0, 1) := by decide +kernel
theorem dX8_set_113 : decode cX8_set 113 = .ok (.getfield 26, 3) := by decide +kernel
theorem dX8_set_116 : decode cX8_set 116 = .ok (.iload_n 1, 1) := by decide +kernel
theorem dX8_set_117 : decode cX8_set 117 = .ok (.iload_n 3, 1) := by decide +kernel
theorem dX8_set_118 : decode cX8_set 118 = .ok (.iastore, 1) := by decide +kernel
theorem dX8_set_119 : decode cX8_set 119 = .ok (.iload 4, 2) := by decide +kernel
theorem dX8_set_121 : decode cX8_set 121 = .ok (.ireturn, 1) := by decide +kernel
theorem dX8_densityOf_0 : decode cX8_densityOf 0 = .ok (.iload_n 1, 1) := by decide +kernel
theorem dX8_densityOf_1 : decode cX8_densityOf 1 = .ok (.ifCond .ne 7, 3) := by decide +kernel
theorem dX8_densityOf_4 : decode cX8_densityOf 4 = .ok (.iconst 0, 1) := by decide +kernel
theorem dX8_densityOf_5 : decode cX8_densityOf 5 = .ok (.goto 16, 3) := by decide +kernel
theorem dX8_densityOf_8 : decode cX8_densityOf 8 = .ok (.aload_n 0, 1) := by decide +kernel
theorem dX8_densityOf_9 : decode cX8_densityOf 9 = .ok (.getfield 32, 3) := by decide +kernel
theorem dX8_densityOf_12 : decode cX8_densityOf 12 = .ok (.bipush 8, 2) := by decide +kernel
theorem dX8_densityOf_14 : decode cX8_densityOf 14 = .ok (.iload_n 1, 1) := by decide +kernel
theorem dX8_densityOf_15 : decode cX8_densityOf 15 = .ok (.iconst 1, 1) := by decide +kernel
theorem dX8_densityOf_16 : decode cX8_densityOf 16 = .ok (.isub, 1) := by decide +kernel
theorem dX8_densityOf_17 : decode cX8_densityOf 17 = .ok (.imul, 1) := by decide +kernel
theorem dX8_densityOf_18 : decode cX8_densityOf 18 = .ok (.iload_n 2, 1) := by decide +kernel
theorem dX8_densityOf_19 : decode cX8_densityOf 19 = .ok (.iadd, 1) := by decide +kernel
theorem dX8_densityOf_20 : decode cX8_densityOf 20 = .ok (.iaload, 1) := by decide +kernel
theorem dX8_densityOf_21 : decode cX8_densityOf 21 = .ok (.ireturn, 1) := by decide +kernel
set_option maxRecDepth 20000 in
theorem ggX8_zone_X8_isZone : GoodIn wsX8_zone wsX8_isZone := goodIn_r _ [9, 10, 11, 12, 8, 13, 19, 20, 21, 22, 23, 24, 25, 26, 27, 28, 29, 30, 31, 32, 33, 34, 35, 36, 37, 38, 39, 40, 41, 42, 43, 44, 45, 46, 47, 48, 49, 50, 51, 52, 53, 54, 55] rfl (by decide +kernel)
set_option maxRecDepth 20000 in
theorem gX8_zone_X8_isZone : GoodIn wsX8_zone (wsV RX8 119 RX8 yX8_isZone wsX8_isZone) := goodIn_app (goodIn_of _ (by decide +kernel)) ggX8_zone_X8_isZone
set_option maxRecDepth 20000 in
theorem ggX8_zone_X8_densityOf : GoodIn wsX8_zone wsX8_densityOf := goodIn_r _ [17, 18, 19, 20, 21, 22, 23, 24, 25, 26, 27, 28, 29, 30, 31, 32, 33, 34, 35, 36, 37, 38, 39, 40, 41, 42, 43, 44, 45, 46, 47, 48, 49, 50, 51, 52, 53, 54, 55] rfl (by decide +kernel)
set_option maxRecDepth 20000 in
theorem gX8_zone_X8_densityOf : GoodIn wsX8_zone (wsV RX8 127 RX8 yX8_densityOf wsX8_densityOf) := goodIn_app (goodIn_of _ (by decide +kernel)) ggX8_zone_X8_densityOf
theorem dX8_zone_0 : decode cX8_zone 0 = .ok (.aload_n 0, 1) := by decide +kernel
theorem dX8_zone_1 : decode cX8_zone 1 = .ok (.iload_n 1, 1) := by decide +kernel
theorem dX8_zone_2 : decode cX8_zone 2 = .ok (.invokevirtual 119, 3) := by decide +kernel
theorem dX8_zone_5 : decode cX8_zone 5 = .ok (.ifCond .ne 5, 3) := by decide +kernel
theorem dX8_zone_8 : decode cX8_zone 8 = .ok (.iconst (-1), 1) := by decide +kernel
theorem dX8_zone_9 : decode cX8_zone 9 = .ok (.ireturn, 1) := by decide +kernel
theorem dX8_zone_10 : decode cX8_zone 10 = .ok (.iload_n 2, 1) := by decide +kernel
theorem dX8_zone_11 : decode cX8_zone 11 = .ok (.ifCond .ne 12, 3) := by decide +kernel
theorem dX8_zone_14 : decode cX8_zone 14 = .ok (.aload_n 0, 1) := by decide +kernel
theorem dX8_zone_15 : decode cX8_zone 15 = .ok (.getfield 20, 3) := by decide +kernel
theorem dX8_zone_18 : decode cX8_zone 18 = .ok (.iload_n 1, 1) := by decide +kernel
theorem dX8_zone_19 : decode cX8_zone 19 = .ok (.iaload, 1) := by decide +kernel
theorem dX8_zone_20 : decode cX8_zone 20 = .ok (.goto 50, 3) := by decide +kernel
theorem dX8_zone_23 : decode cX8_zone 23 = .ok (.iload_n 2, 1) := by decide +kernel
theorem dX8_zone_24 : decode cX8_zone 24 = .ok (.iconst 1, 1) := by decide +kernel
theorem dX8_zone_25 : decode cX8_zone 25 = .ok (.if_icmp .ne 12, 3) := by decide +kernel
theorem dX8_zone_28 : decode cX8_zone 28 = .ok (.aload_n 0, 1) := by decide +kernel
theorem dX8_zone_29 : decode cX8_zone 29 = .ok (.getfield 23, 3) := by decide +kernel
theorem dX8_zone_32 : decode cX8_zone 32 = .ok (.iload_n 1, 1) := by decide +kernel
theorem dX8_zone_33 : decode cX8_zone 33 = .ok (.iaload, 1) := by decide +kernel
theorem dX8_zone_34 : decode cX8_zone 34 = .ok (.goto 36, 3) := by decide +kernel
theorem dX8_zone_37 : decode cX8_zone 37 = .ok (.iload_n 2, 1) := by decide +kernel
theorem dX8_zone_38 : decode cX8_zone 38 = .ok (.iconst 2, 1) := by decide +kernel
theorem dX8_zone_39 : decode cX8_zone 39 = .ok (.if_icmp .ne 12, 3) := by decide +kernel
theorem dX8_zone_42 : decode cX8_zone 42 = .ok (.aload_n 0, 1) := by decide +kernel
theorem dX8_zone_43 : decode cX8_zone 43 = .ok (.getfield 26, 3) := by decide +kernel
theorem dX8_zone_46 : decode cX8_zone 46 = .ok (.iload_n 1, 1) := by decide +kernel
theorem dX8_zone_47 : decode cX8_zone 47 = .ok (.iaload, 1) := by decide +kernel
theorem dX8_zone_48 : decode cX8_zone 48 = .ok (.goto 22, 3) := by decide +kernel
theorem dX8_zone_51 : decode cX8_zone 51 = .ok (.iload_n 2, 1) := by decide +kernel
theorem dX8_zone_52 : decode cX8_zone 52 = .ok (.iconst 3, 1) := by decide +kernel
theorem dX8_zone_53 : decode cX8_zone 53 = .ok (.if_icmp .ne 15, 3) := by decide +kernel
theorem dX8_zone_56 : decode cX8_zone 56 = .ok (.aload_n 0, 1) := by decide +kernel
theorem dX8_zone_57 : decode cX8_zone 57 = .ok (.aload_n 0, 1) := by decide +kernel
theorem dX8_zone_58 : decode cX8_zone 58 = .ok (.getfield 81, 3) := by decide +kernel
theorem dX8_zone_61 : decode cX8_zone 61 = .ok (.iload_n 1, 1) := by decide +kernel
theorem dX8_zone_62 : decode cX8_zone 62 = .ok (.invokevirtual 127, 3) := by decide +kernel
theorem dX8_zone_65 : decode cX8_zone 65 = .ok (.goto 5, 3) := by decide +kernel
theorem dX8_zone_68 : decode cX8_zone 68 = .ok (.bipush (-2), 2) := by decide +kernel
theorem dX8_zone_70 : decode cX8_zone 70 = .ok (.ireturn, 1) := by decide +kernel
set_option maxRecDepth 20000 in
theorem ggX8_ink_X8_in : GoodIn wsX8_ink wsX8_in := goodIn_r _ [6] rfl (by decide +kernel)
set_option maxRecDepth 20000 in
theorem gX8_ink_X8_in : GoodIn wsX8_ink (va_wsS RX8 103 yX8_in wsX8_in) := goodIn_app (goodIn_of _ (by decide +kernel)) ggX8_ink_X8_in
set_option maxRecDepth 20000 in
theorem ggX8_ink_X8_isZone : GoodIn wsX8_ink wsX8_isZone := goodIn_r _ [10, 11, 3, 4, 5, 6, 12, 13, 14, 15, 16, 17, 18, 19, 20, 21, 22, 23, 24, 25, 26, 27, 28, 29, 30, 31, 32, 33, 34, 35, 36, 37, 38, 39, 40, 41, 42, 43, 44, 45, 46, 47, 48] rfl (by decide +kernel)
set_option maxRecDepth 20000 in
theorem gX8_ink_X8_isZone : GoodIn wsX8_ink (wsV RX8 119 RX8 yX8_isZone wsX8_isZone) := goodIn_app (goodIn_of _ (by decide +kernel)) ggX8_ink_X8_isZone
theorem dX8_ink_0 : decode cX8_ink 0 = .ok (.iload_n 1, 1) := by decide +kernel
theorem dX8_ink_1 : decode cX8_ink 1 = .ok (.i2l, 1) := by decide +kernel
theorem dX8_ink_2 : decode cX8_ink 2 = .ok (.lconst 0, 1) := by decide +kernel
theorem dX8_ink_3 : decode cX8_ink 3 = .ok (.aload_n 0, 1) := by decide +kernel
theorem dX8_ink_4 : decode cX8_ink 4 = .ok (.getfield 13, 3) := by decide +kernel
theorem dX8_ink_7 : decode cX8_ink 7 = .ok (.iconst 1, 1) := by decide +kernel
theorem dX8_ink_8 : decode cX8_ink 8 = .ok (.isub, 1) := by decide +kernel
theorem dX8_ink_9 : decode cX8_ink 9 = .ok (.i2l, 1) := by decide +kernel
theorem dX8_ink_10 : decode cX8_ink 10 = .ok (.invokestatic 103, 3) := by decide +kernel
theorem dX8_ink_13 : decode cX8_ink 13 = .ok (.ifCond .eq 25, 3) := by decide +kernel
theorem dX8_ink_16 : decode cX8_ink 16 = .ok (.aload_n 0, 1) := by decide +kernel
theorem dX8_ink_17 : decode cX8_ink 17 = .ok (.iload_n 2, 1) := by decide +kernel
theorem dX8_ink_18 : decode cX8_ink 18 = .ok (.invokevirtual 119, 3) := by decide +kernel
theorem dX8_ink_21 : decode cX8_ink 21 = .ok (.ifCond .eq 17, 3) := by decide +kernel
theorem dX8_ink_24 : decode cX8_ink 24 = .ok (.aload_n 0, 1) := by decide +kernel
theorem dX8_ink_25 : decode cX8_ink 25 = .ok (.getfield 29, 3) := by decide +kernel
theorem dX8_ink_28 : decode cX8_ink 28 = .ok (.bipush 8, 2) := by decide +kernel
theorem dX8_ink_30 : decode cX8_ink 30 = .ok (.iload_n 1, 1) := by decide +kernel
theorem dX8_ink_31 : decode cX8_ink 31 = .ok (.imul, 1) := by decide +kernel
theorem dX8_ink_32 : decode cX8_ink 32 = .ok (.iload_n 2, 1) := by decide +kernel
theorem dX8_ink_33 : decode cX8_ink 33 = .ok (.iadd, 1) := by decide +kernel
theorem dX8_ink_34 : decode cX8_ink 34 = .ok (.iaload, 1) := by decide +kernel
theorem dX8_ink_35 : decode cX8_ink 35 = .ok (.goto 4, 3) := by decide +kernel
theorem dX8_ink_38 : decode cX8_ink 38 = .ok (.iconst (-1), 1) := by decide +kernel
theorem dX8_ink_39 : decode cX8_ink 39 = .ok (.ireturn, 1) := by decide +kernel
theorem dX8_drift_0 : decode cX8_drift 0 = .ok (.iconst 0, 1) := by decide +kernel
theorem dX8_drift_1 : decode cX8_drift 1 = .ok (.istore_n 2, 1) := by decide +kernel
theorem dX8_drift_2 : decode cX8_drift 2 = .ok (.iload_n 2, 1) := by decide +kernel
theorem dX8_drift_3 : decode cX8_drift 3 = .ok (.aload_n 0, 1) := by decide +kernel
theorem dX8_drift_4 : decode cX8_drift 4 = .ok (.getfield 7, 3) := by decide +kernel
theorem dX8_drift_7 : decode cX8_drift 7 = .ok (.if_icmp .ge 37, 3) := by decide +kernel
theorem dX8_drift_10 : decode cX8_drift 10 = .ok (.aload_n 0, 1) := by decide +kernel
theorem dX8_drift_11 : decode cX8_drift 11 = .ok (.getfield 42, 3) := by decide +kernel
theorem dX8_drift_14 : decode cX8_drift 14 = .ok (.iload_n 2, 1) := by decide +kernel
theorem dX8_drift_15 : decode cX8_drift 15 = .ok (.aload_n 0, 1) := by decide +kernel
theorem dX8_drift_16 : decode cX8_drift 16 = .ok (.getfield 29, 3) := by decide +kernel
theorem dX8_drift_19 : decode cX8_drift 19 = .ok (.bipush 8, 2) := by decide +kernel
theorem dX8_drift_21 : decode cX8_drift 21 = .ok (.iload_n 1, 1) := by decide +kernel
theorem dX8_drift_22 : decode cX8_drift 22 = .ok (.imul, 1) := by decide +kernel
theorem dX8_drift_23 : decode cX8_drift 23 = .ok (.iload_n 2, 1) := by decide +kernel
theorem dX8_drift_24 : decode cX8_drift 24 = .ok (.iadd, 1) := by decide +kernel
theorem dX8_drift_25 : decode cX8_drift 25 = .ok (.iaload, 1) := by decide +kernel
theorem dX8_drift_26 : decode cX8_drift 26 = .ok (.aload_n 0, 1) := by decide +kernel
theorem dX8_drift_27 : decode cX8_drift 27 = .ok (.getfield 16, 3) := by decide +kernel
theorem dX8_drift_30 : decode cX8_drift 30 = .ok (.iconst 2, 1) := by decide +kernel
theorem dX8_drift_31 : decode cX8_drift 31 = .ok (.iaload, 1) := by decide +kernel
theorem dX8_drift_32 : decode cX8_drift 32 = .ok (.imul, 1) := by decide +kernel
theorem dX8_drift_33 : decode cX8_drift 33 = .ok (.sipush 200, 3) := by decide +kernel
theorem dX8_drift_36 : decode cX8_drift 36 = .ok (.idiv, 1) := by decide +kernel
theorem dX8_drift_37 : decode cX8_drift 37 = .ok (.iastore, 1) := by decide +kernel
theorem dX8_drift_38 : decode cX8_drift 38 = .ok (.iinc 2 1, 3) := by decide +kernel
theorem dX8_drift_41 : decode cX8_drift 41 = .ok (.goto (-39), 3) := by decide +kernel
theorem dX8_drift_44 : decode cX8_drift 44 = .ok (.iconst 0, 1) := by decide +kernel
theorem dX8_drift_45 : decode cX8_drift 45 = .ok (.istore_n 2, 1) := by decide +kernel
theorem dX8_drift_46 : decode cX8_drift 46 = .ok (.iload_n 2, 1) := by decide +kernel
theorem dX8_drift_47 : decode cX8_drift 47 = .ok (.iconst 1, 1) := by decide +kernel
theorem dX8_drift_48 : decode cX8_drift 48 = .ok (.iadd, 1) := by decide +kernel
theorem dX8_drift_49 : decode cX8_drift 49 = .ok (.aload_n 0, 1) := by decide +kernel
theorem dX8_drift_50 : decode cX8_drift 50 = .ok (.getfield 7, 3) := by decide +kernel
theorem dX8_drift_53 : decode cX8_drift 53 = .ok (.if_icmp .ge 66, 3) := by decide +kernel
theorem dX8_drift_56 : decode cX8_drift 56 = .ok (.bipush 8, 2) := by decide +kernel
theorem dX8_drift_58 : decode cX8_drift 58 = .ok (.iload_n 1, 1) := by decide +kernel
theorem dX8_drift_59 : decode cX8_drift 59 = .ok (.imul, 1) := by decide +kernel
theorem dX8_drift_60 : decode cX8_drift 60 = .ok (.iload_n 2, 1) := by decide +kernel
theorem dX8_drift_61 : decode cX8_drift 61 = .ok (.iadd, 1) := by decide +kernel
theorem dX8_drift_62 : decode cX8_drift 62 = .ok (.istore_n 3, 1) := by decide +kernel
theorem dX8_drift_63 : decode cX8_drift 63 = .ok (.aload_n 0, 1) := by decide +kernel
theorem dX8_drift_64 : decode cX8_drift 64 = .ok (.getfield 29, 3) := by decide +kernel
theorem dX8_drift_67 : decode cX8_drift 67 = .ok (.iload_n 3, 1) := by decide +kernel
theorem dX8_drift_68 : decode cX8_drift 68 = .ok (.dup2, 1) := by decide +kernel
theorem dX8_drift_69 : decode cX8_drift 69 = .ok (.iaload, 1) := by decide +kernel
theorem dX8_drift_70 : decode cX8_drift 70 = .ok (.aload_n 0, 1) := by decide +kernel
theorem dX8_drift_71 : decode cX8_drift 71 = .ok (.getfield 42, 3) := by decide +kernel
theorem dX8_drift_74 : decode cX8_drift 74 = .ok (.iload_n 2, 1) := by decide +kernel
theorem dX8_drift_75 : decode cX8_drift 75 = .ok (.iconst 1, 1) := by decide +kernel
theorem dX8_drift_76 : decode cX8_drift 76 = .ok (.iadd, 1) := by decide +kernel
theorem dX8_drift_77 : decode cX8_drift 77 = .ok (.iaload, 1) := by decide +kernel
theorem dX8_drift_78 : decode cX8_drift 78 = .ok (.aload_n 0, 1) := by decide +kernel
theorem dX8_drift_79 : decode cX8_drift 79 = .ok (.getfield 42, 3) := by decide +kernel
theorem dX8_drift_82 : decode cX8_drift 82 = .ok (.iload_n 2, 1) := by decide +kernel
theorem dX8_drift_83 : decode cX8_drift 83 = .ok (.iaload, 1) := by decide +kernel
theorem dX8_drift_84 : decode cX8_drift 84 = .ok (.isub, 1) := by decide +kernel
theorem dX8_drift_85 : decode cX8_drift 85 = .ok (.iadd, 1) := by decide +kernel
theorem dX8_drift_86 : decode cX8_drift 86 = .ok (.iastore, 1) := by decide +kernel
theorem dX8_drift_87 : decode cX8_drift 87 = .ok (.aload_n 0, 1) := by decide +kernel
theorem dX8_drift_88 : decode cX8_drift 88 = .ok (.getfield 29, 3) := by decide +kernel
theorem dX8_drift_91 : decode cX8_drift 91 = .ok (.iload_n 3, 1) := by decide +kernel
theorem dX8_drift_92 : decode cX8_drift 92 = .ok (.iconst 1, 1) := by decide +kernel
theorem dX8_drift_93 : decode cX8_drift 93 = .ok (.iadd, 1) := by decide +kernel
theorem dX8_drift_94 : decode cX8_drift 94 = .ok (.dup2, 1) := by decide +kernel
theorem dX8_drift_95 : decode cX8_drift 95 = .ok (.iaload, 1) := by decide +kernel
theorem dX8_drift_96 : decode cX8_drift 96 = .ok (.aload_n 0, 1) := by decide +kernel
theorem dX8_drift_97 : decode cX8_drift 97 = .ok (.getfield 42, 3) := by decide +kernel
theorem dX8_drift_100 : decode cX8_drift 100 = .ok (.iload_n 2, 1) := by decide +kernel
theorem dX8_drift_101 : decode cX8_drift 101 = .ok (.iaload, 1) := by decide +kernel
theorem dX8_drift_102 : decode cX8_drift 102 = .ok (.aload_n 0, 1) := by decide +kernel
theorem dX8_drift_103 : decode cX8_drift 103 = .ok (.getfield 42, 3) := by decide +kernel
theorem dX8_drift_106 : decode cX8_drift 106 = .ok (.iload_n 2, 1) := by decide +kernel
theorem dX8_drift_107 : decode cX8_drift 107 = .ok (.iconst 1, 1) := by decide +kernel
theorem dX8_drift_108 : decode cX8_drift 108 = .ok (.iadd, 1) := by decide +kernel
theorem dX8_drift_109 : decode cX8_drift 109 = .ok (.iaload, 1) := by decide +kernel
theorem dX8_drift_110 : decode cX8_drift 110 = .ok (.isub, 1) := by decide +kernel
theorem dX8_drift_111 : decode cX8_drift 111 = .ok (.iadd, 1) := by decide +kernel
theorem dX8_drift_112 : decode cX8_drift 112 = .ok (.iastore, 1) := by decide +kernel
theorem dX8_drift_113 : decode cX8_drift 113 = .ok (.iinc 2 1, 3) := by decide +kernel
theorem dX8_drift_116 : decode cX8_drift 116 = .ok (.goto (-70), 3) := by decide +kernel
theorem dX8_drift_119 : decode cX8_drift 119 = .ok (.return_, 1) := by decide +kernel
set_option maxRecDepth 20000 in
theorem ggX8_sheet_X8_drift : GoodIn wsX8_sheet wsX8_drift := goodIn_r _ [24, 1, 25, 2, 4, 37, 38, 39, 40, 41, 42, 43, 44, 45, 46, 47, 48, 49, 50, 51, 52, 53, 54, 55, 56, 57, 58, 59, 60, 61, 62, 63, 64, 65, 66, 67, 68, 69, 70, 71, 72, 73] rfl (by decide +kernel)
set_option maxRecDepth 20000 in
theorem gX8_sheet_X8_drift : GoodIn wsX8_sheet (wsV RX8 131 RX8 yX8_drift wsX8_drift) := goodIn_app (goodIn_of _ (by decide +kernel)) ggX8_sheet_X8_drift
set_option maxRecDepth 20000 in
theorem ggX8_sheet_X8_steerKeys : GoodIn wsX8_sheet wsX8_steerKeys := goodIn_r _ [29, 1, 14, 13, 4, 3, 30, 31, 32, 23, 33, 12, 34, 35, 36, 37, 38, 39, 40, 41, 42, 43, 44, 45, 46, 47, 48, 49, 50, 51, 52, 53, 54, 55, 56, 57, 58, 59, 60, 61, 62, 63, 64, 65, 66, 67, 68, 69, 70, 71, 72, 73] rfl (by decide +kernel)
set_option maxRecDepth 20000 in
theorem gX8_sheet_X8_steerKeys : GoodIn wsX8_sheet (wsV RX8 137 RX8 yX8_steerKeys wsX8_steerKeys) := goodIn_app (goodIn_of _ (by decide +kernel)) ggX8_sheet_X8_steerKeys
theorem dX8_sheet_0 : decode cX8_sheet 0 = .ok (.iconst 0, 1) := by decide +kernel
theorem dX8_sheet_1 : decode cX8_sheet 1 = .ok (.istore_n 1, 1) := by decide +kernel
theorem dX8_sheet_2 : decode cX8_sheet 2 = .ok (.iload_n 1, 1) := by decide +kernel
theorem dX8_sheet_3 : decode cX8_sheet 3 = .ok (.aload_n 0, 1) := by decide +kernel
theorem dX8_sheet_4 : decode cX8_sheet 4 = .ok (.getfield 7, 3) := by decide +kernel
theorem dX8_sheet_7 : decode cX8_sheet 7 = .ok (.if_icmp .ge 53, 3) := by decide +kernel
theorem dX8_sheet_10 : decode cX8_sheet 10 = .ok (.aload_n 0, 1) := by decide +kernel
theorem dX8_sheet_11 : decode cX8_sheet 11 = .ok (.getfield 29, 3) := by decide +kernel
theorem dX8_sheet_14 : decode cX8_sheet 14 = .ok (.iload_n 1, 1) := by decide +kernel
theorem dX8_sheet_15 : decode cX8_sheet 15 = .ok (.dup2, 1) := by decide +kernel
theorem dX8_sheet_16 : decode cX8_sheet 16 = .ok (.iaload, 1) := by decide +kernel
theorem dX8_sheet_17 : decode cX8_sheet 17 = .ok (.aload_n 0, 1) := by decide +kernel
theorem dX8_sheet_18 : decode cX8_sheet 18 = .ok (.getfield 20, 3) := by decide +kernel
theorem dX8_sheet_21 : decode cX8_sheet 21 = .ok (.iload_n 1, 1) := by decide +kernel
theorem dX8_sheet_22 : decode cX8_sheet 22 = .ok (.iaload, 1) := by decide +kernel
theorem dX8_sheet_23 : decode cX8_sheet 23 = .ok (.aload_n 0, 1) := by decide +kernel
theorem dX8_sheet_24 : decode cX8_sheet 24 = .ok (.getfield 16, 3) := by decide +kernel
theorem dX8_sheet_27 : decode cX8_sheet 27 = .ok (.iconst 0, 1) := by decide +kernel
theorem dX8_sheet_28 : decode cX8_sheet 28 = .ok (.iaload, 1) := by decide +kernel
theorem dX8_sheet_29 : decode cX8_sheet 29 = .ok (.imul, 1) := by decide +kernel
theorem dX8_sheet_30 : decode cX8_sheet 30 = .ok (.iadd, 1) := by decide +kernel
theorem dX8_sheet_31 : decode cX8_sheet 31 = .ok (.iastore, 1) := by decide +kernel
theorem dX8_sheet_32 : decode cX8_sheet 32 = .ok (.aload_n 0, 1) := by decide +kernel
theorem dX8_sheet_33 : decode cX8_sheet 33 = .ok (.dup, 1) := by decide +kernel
theorem dX8_sheet_34 : decode cX8_sheet 34 = .ok (.getfield 90, 3) := by decide +kernel
theorem dX8_sheet_37 : decode cX8_sheet 37 = .ok (.aload_n 0, 1) := by decide +kernel
theorem dX8_sheet_38 : decode cX8_sheet 38 = .ok (.getfield 20, 3) := by decide +kernel
theorem dX8_sheet_41 : decode cX8_sheet 41 = .ok (.iload_n 1, 1) := by decide +kernel
theorem dX8_sheet_42 : decode cX8_sheet 42 = .ok (.iaload, 1) := by decide +kernel
theorem dX8_sheet_43 : decode cX8_sheet 43 = .ok (.aload_n 0, 1) := by decide +kernel
theorem dX8_sheet_44 : decode cX8_sheet 44 = .ok (.getfield 16, 3) := by decide +kernel
theorem dX8_sheet_47 : decode cX8_sheet 47 = .ok (.iconst 0, 1) := by decide +kernel
theorem dX8_sheet_48 : decode cX8_sheet 48 = .ok (.iaload, 1) := by decide +kernel
theorem dX8_sheet_49 : decode cX8_sheet 49 = .ok (.imul, 1) := by decide +kernel
theorem dX8_sheet_50 : decode cX8_sheet 50 = .ok (.iadd, 1) := by decide +kernel
theorem dX8_sheet_51 : decode cX8_sheet 51 = .ok (.putfield 90, 3) := by decide +kernel
theorem dX8_sheet_54 : decode cX8_sheet 54 = .ok (.iinc 1 1, 3) := by decide +kernel
theorem dX8_sheet_57 : decode cX8_sheet 57 = .ok (.goto (-55), 3) := by decide +kernel
theorem dX8_sheet_60 : decode cX8_sheet 60 = .ok (.iconst 0, 1) := by decide +kernel
theorem dX8_sheet_61 : decode cX8_sheet 61 = .ok (.istore_n 1, 1) := by decide +kernel
theorem dX8_sheet_62 : decode cX8_sheet 62 = .ok (.iload_n 1, 1) := by decide +kernel
theorem dX8_sheet_63 : decode cX8_sheet 63 = .ok (.iconst 1, 1) := by decide +kernel
theorem dX8_sheet_64 : decode cX8_sheet 64 = .ok (.iadd, 1) := by decide +kernel
theorem dX8_sheet_65 : decode cX8_sheet 65 = .ok (.aload_n 0, 1) := by decide +kernel
theorem dX8_sheet_66 : decode cX8_sheet 66 = .ok (.getfield 13, 3) := by decide +kernel
theorem dX8_sheet_69 : decode cX8_sheet 69 = .ok (.if_icmp .ge 79, 3) := by decide +kernel
theorem dX8_sheet_72 : decode cX8_sheet 72 = .ok (.iconst 0, 1) := by decide +kernel
theorem dX8_sheet_73 : decode cX8_sheet 73 = .ok (.istore_n 2, 1) := by decide +kernel
theorem dX8_sheet_74 : decode cX8_sheet 74 = .ok (.iload_n 2, 1) := by decide +kernel
theorem dX8_sheet_75 : decode cX8_sheet 75 = .ok (.aload_n 0, 1) := by decide +kernel
theorem dX8_sheet_76 : decode cX8_sheet 76 = .ok (.getfield 7, 3) := by decide +kernel
theorem dX8_sheet_79 : decode cX8_sheet 79 = .ok (.if_icmp .ge 63, 3) := by decide +kernel
theorem dX8_sheet_82 : decode cX8_sheet 82 = .ok (.bipush 8, 2) := by decide +kernel
theorem dX8_sheet_84 : decode cX8_sheet 84 = .ok (.iload_n 1, 1) := by decide +kernel
theorem dX8_sheet_85 : decode cX8_sheet 85 = .ok (.imul, 1) := by decide +kernel
theorem dX8_sheet_86 : decode cX8_sheet 86 = .ok (.iload_n 2, 1) := by decide +kernel
theorem dX8_sheet_87 : decode cX8_sheet 87 = .ok (.iadd, 1) := by decide +kernel
theorem dX8_sheet_88 : decode cX8_sheet 88 = .ok (.istore_n 3, 1) := by decide +kernel
theorem dX8_sheet_89 : decode cX8_sheet 89 = .ok (.aload_n 0, 1) := by decide +kernel
theorem dX8_sheet_90 : decode cX8_sheet 90 = .ok (.getfield 29, 3) := by decide +kernel
theorem dX8_sheet_93 : decode cX8_sheet 93 = .ok (.iload_n 3, 1) := by decide +kernel
theorem dX8_sheet_94 : decode cX8_sheet 94 = .ok (.iaload, 1) := by decide +kernel
theorem dX8_sheet_95 : decode cX8_sheet 95 = .ok (.i2l, 1) := by decide +kernel
theorem dX8_sheet_96 : decode cX8_sheet 96 = .ok (.aload_n 0, 1) := by decide +kernel
theorem dX8_sheet_97 : decode cX8_sheet 97 = .ok (.getfield 16, 3) := by decide +kernel
theorem dX8_sheet_100 : decode cX8_sheet 100 = .ok (.iconst 1, 1) := by decide +kernel
theorem dX8_sheet_101 : decode cX8_sheet 101 = .ok (.iaload, 1) := by decide +kernel
theorem dX8_sheet_102 : decode cX8_sheet 102 = .ok (.i2l, 1) := by decide +kernel
theorem dX8_sheet_103 : decode cX8_sheet 103 = .ok (.lmul, 1) := by decide +kernel
theorem dX8_sheet_104 : decode cX8_sheet 104 = .ok (.ldc2_w 125, 3) := by decide +kernel
theorem dX8_sheet_107 : decode cX8_sheet 107 = .ok (.ldiv, 1) := by decide +kernel
theorem dX8_sheet_108 : decode cX8_sheet 108 = .ok (.l2i, 1) := by decide +kernel
theorem dX8_sheet_109 : decode cX8_sheet 109 = .ok (.istore 4, 2) := by decide +kernel
theorem dX8_sheet_111 : decode cX8_sheet 111 = .ok (.aload_n 0, 1) := by decide +kernel
theorem dX8_sheet_112 : decode cX8_sheet 112 = .ok (.getfield 29, 3) := by decide +kernel
theorem dX8_sheet_115 : decode cX8_sheet 115 = .ok (.iload_n 3, 1) := by decide +kernel
theorem dX8_sheet_116 : decode cX8_sheet 116 = .ok (.dup2, 1) := by decide +kernel
theorem dX8_sheet_117 : decode cX8_sheet 117 = .ok (.iaload, 1) := by decide +kernel
theorem dX8_sheet_118 : decode cX8_sheet 118 = .ok (.iload 4, 2) := by decide +kernel
theorem dX8_sheet_120 : decode cX8_sheet 120 = .ok (.isub, 1) := by decide +kernel
theorem dX8_sheet_121 : decode cX8_sheet 121 = .ok (.iastore, 1) := by decide +kernel
theorem dX8_sheet_122 : decode cX8_sheet 122 = .ok (.aload_n 0, 1) := by decide +kernel
theorem dX8_sheet_123 : decode cX8_sheet 123 = .ok (.getfield 29, 3) := by decide +kernel
theorem dX8_sheet_126 : decode cX8_sheet 126 = .ok (.iload_n 3, 1) := by decide +kernel
theorem dX8_sheet_127 : decode cX8_sheet 127 = .ok (.bipush 8, 2) := by decide +kernel
theorem dX8_sheet_129 : decode cX8_sheet 129 = .ok (.iadd, 1) := by decide +kernel
theorem dX8_sheet_130 : decode cX8_sheet 130 = .ok (.dup2, 1) := by decide +kernel
theorem dX8_sheet_131 : decode cX8_sheet 131 = .ok (.iaload, 1) := by decide +kernel
theorem dX8_sheet_132 : decode cX8_sheet 132 = .ok (.iload 4, 2) := by decide +kernel
theorem dX8_sheet_134 : decode cX8_sheet 134 = .ok (.iadd, 1) := by decide +kernel
theorem dX8_sheet_135 : decode cX8_sheet 135 = .ok (.iastore, 1) := by decide +kernel
theorem dX8_sheet_136 : decode cX8_sheet 136 = .ok (.iinc 2 1, 3) := by decide +kernel
theorem dX8_sheet_139 : decode cX8_sheet 139 = .ok (.goto (-65), 3) := by decide +kernel
theorem dX8_sheet_142 : decode cX8_sheet 142 = .ok (.iinc 1 1, 3) := by decide +kernel
theorem dX8_sheet_145 : decode cX8_sheet 145 = .ok (.goto (-83), 3) := by decide +kernel
theorem dX8_sheet_148 : decode cX8_sheet 148 = .ok (.iconst 0, 1) := by decide +kernel
theorem dX8_sheet_149 : decode cX8_sheet 149 = .ok (.istore_n 1, 1) := by decide +kernel
theorem dX8_sheet_150 : decode cX8_sheet 150 = .ok (.iload_n 1, 1) := by decide +kernel
theorem dX8_sheet_151 : decode cX8_sheet 151 = .ok (.aload_n 0, 1) := by decide +kernel
theorem dX8_sheet_152 : decode cX8_sheet 152 = .ok (.getfield 13, 3) := by decide +kernel
theorem dX8_sheet_155 : decode cX8_sheet 155 = .ok (.if_icmp .ge 14, 3) := by decide +kernel
theorem dX8_sheet_158 : decode cX8_sheet 158 = .ok (.aload_n 0, 1) := by decide +kernel
theorem dX8_sheet_159 : decode cX8_sheet 159 = .ok (.iload_n 1, 1) := by decide +kernel
theorem dX8_sheet_160 : decode cX8_sheet 160 = .ok (.invokevirtual 131, 3) := by decide +kernel
theorem dX8_sheet_163 : decode cX8_sheet 163 = .ok (.iinc 1 1, 3) := by decide +kernel
theorem dX8_sheet_166 : decode cX8_sheet 166 = .ok (.goto (-16), 3) := by decide +kernel
theorem dX8_sheet_169 : decode cX8_sheet 169 = .ok (.iconst 1, 1) := by decide +kernel
theorem dX8_sheet_170 : decode cX8_sheet 170 = .ok (.istore_n 1, 1) := by decide +kernel
theorem dX8_sheet_171 : decode cX8_sheet 171 = .ok (.iconst 0, 1) := by decide +kernel
theorem dX8_sheet_172 : decode cX8_sheet 172 = .ok (.istore_n 2, 1) := by decide +kernel
theorem dX8_sheet_173 : decode cX8_sheet 173 = .ok (.iload_n 2, 1) := by decide +kernel
theorem dX8_sheet_174 : decode cX8_sheet 174 = .ok (.aload_n 0, 1) := by decide +kernel
theorem dX8_sheet_175 : decode cX8_sheet 175 = .ok (.getfield 7, 3) := by decide +kernel
theorem dX8_sheet_178 : decode cX8_sheet 178 = .ok (.if_icmp .ge 165, 3) := by decide +kernel
theorem dX8_sheet_181 : decode cX8_sheet 181 = .ok (.bipush 8, 2) := by decide +kernel
theorem dX8_sheet_183 : decode cX8_sheet 183 = .ok (.aload_n 0, 1) := by decide +kernel
theorem dX8_sheet_184 : decode cX8_sheet 184 = .ok (.getfield 13, 3) := by decide +kernel
theorem dX8_sheet_187 : decode cX8_sheet 187 = .ok (.iconst 1, 1) := by decide +kernel
theorem dX8_sheet_188 : decode cX8_sheet 188 = .ok (.isub, 1) := by decide +kernel
theorem dX8_sheet_189 : decode cX8_sheet 189 = .ok (.imul, 1) := by decide +kernel
theorem dX8_sheet_190 : decode cX8_sheet 190 = .ok (.iload_n 2, 1) := by decide +kernel
theorem dX8_sheet_191 : decode cX8_sheet 191 = .ok (.iadd, 1) := by decide +kernel
theorem dX8_sheet_192 : decode cX8_sheet 192 = .ok (.istore_n 3, 1) := by decide +kernel
theorem dX8_sheet_193 : decode cX8_sheet 193 = .ok (.aload_n 0, 1) := by decide +kernel
theorem dX8_sheet_194 : decode cX8_sheet 194 = .ok (.getfield 29, 3) := by decide +kernel
theorem dX8_sheet_197 : decode cX8_sheet 197 = .ok (.iload_n 3, 1) := by decide +kernel
theorem dX8_sheet_198 : decode cX8_sheet 198 = .ok (.iaload, 1) := by decide +kernel
theorem dX8_sheet_199 : decode cX8_sheet 199 = .ok (.i2l, 1) := by decide +kernel
theorem dX8_sheet_200 : decode cX8_sheet 200 = .ok (.aload_n 0, 1) := by decide +kernel
theorem dX8_sheet_201 : decode cX8_sheet 201 = .ok (.getfield 16, 3) := by decide +kernel
theorem dX8_sheet_204 : decode cX8_sheet 204 = .ok (.iconst 3, 1) := by decide +kernel
theorem dX8_sheet_205 : decode cX8_sheet 205 = .ok (.iaload, 1) := by decide +kernel
theorem dX8_sheet_206 : decode cX8_sheet 206 = .ok (.i2l, 1) := by decide +kernel
theorem dX8_sheet_207 : decode cX8_sheet 207 = .ok (.lmul, 1) := by decide +kernel
theorem dX8_sheet_208 : decode cX8_sheet 208 = .ok (.aload_n 0, 1) := by decide +kernel
theorem dX8_sheet_209 : decode cX8_sheet 209 = .ok (.getfield 23, 3) := by decide +kernel
theorem dX8_sheet_212 : decode cX8_sheet 212 = .ok (.iload_n 2, 1) := by decide +kernel
theorem dX8_sheet_213 : decode cX8_sheet 213 = .ok (.iaload, 1) := by decide +kernel
theorem dX8_sheet_214 : decode cX8_sheet 214 = .ok (.i2l, 1) := by decide +kernel
theorem dX8_sheet_215 : decode cX8_sheet 215 = .ok (.lmul, 1) := by decide +kernel
theorem dX8_sheet_216 : decode cX8_sheet 216 = .ok (.ldc2_w 135, 3) := by decide +kernel
theorem dX8_sheet_219 : decode cX8_sheet 219 = .ok (.ldiv, 1) := by decide +kernel
theorem dX8_sheet_220 : decode cX8_sheet 220 = .ok (.l2i, 1) := by decide +kernel
theorem dX8_sheet_221 : decode cX8_sheet 221 = .ok (.istore 4, 2) := by decide +kernel
theorem dX8_sheet_223 : decode cX8_sheet 223 = .ok (.aload_n 0, 1) := by decide +kernel
theorem dX8_sheet_224 : decode cX8_sheet 224 = .ok (.getfield 29, 3) := by decide +kernel
theorem dX8_sheet_227 : decode cX8_sheet 227 = .ok (.iload_n 3, 1) := by decide +kernel
theorem dX8_sheet_228 : decode cX8_sheet 228 = .ok (.iaload, 1) := by decide +kernel
theorem dX8_sheet_229 : decode cX8_sheet 229 = .ok (.bipush 100, 2) := by decide +kernel
theorem dX8_sheet_231 : decode cX8_sheet 231 = .ok (.idiv, 1) := by decide +kernel
theorem dX8_sheet_232 : decode cX8_sheet 232 = .ok (.istore 5, 2) := by decide +kernel
theorem dX8_sheet_234 : decode cX8_sheet 234 = .ok (.aload_n 0, 1) := by decide +kernel
theorem dX8_sheet_235 : decode cX8_sheet 235 = .ok (.getfield 29, 3) := by decide +kernel
theorem dX8_sheet_238 : decode cX8_sheet 238 = .ok (.iload_n 3, 1) := by decide +kernel
theorem dX8_sheet_239 : decode cX8_sheet 239 = .ok (.dup2, 1) := by decide +kernel
theorem dX8_sheet_240 : decode cX8_sheet 240 = .ok (.iaload, 1) := by decide +kernel
theorem dX8_sheet_241 : decode cX8_sheet 241 = .ok (.iload 4, 2) := by decide +kernel
theorem dX8_sheet_243 : decode cX8_sheet 243 = .ok (.iload 5, 2) := by decide +kernel
theorem dX8_sheet_245 : decode cX8_sheet 245 = .ok (.iadd, 1) := by decide +kernel
theorem dX8_sheet_246 : decode cX8_sheet 246 = .ok (.isub, 1) := by decide +kernel
theorem dX8_sheet_247 : decode cX8_sheet 247 = .ok (.iastore, 1) := by decide +kernel
theorem dX8_sheet_248 : decode cX8_sheet 248 = .ok (.aload_n 0, 1) := by decide +kernel
theorem dX8_sheet_249 : decode cX8_sheet 249 = .ok (.dup, 1) := by decide +kernel
theorem dX8_sheet_250 : decode cX8_sheet 250 = .ok (.getfield 93, 3) := by decide +kernel
theorem dX8_sheet_253 : decode cX8_sheet 253 = .ok (.iload 4, 2) := by decide +kernel
theorem dX8_sheet_255 : decode cX8_sheet 255 = .ok (.iadd, 1) := by decide +kernel
theorem dX8_sheet_256 : decode cX8_sheet 256 = .ok (.putfield 93, 3) := by decide +kernel
theorem dX8_sheet_259 : decode cX8_sheet 259 = .ok (.aload_n 0, 1) := by decide +kernel
theorem dX8_sheet_260 : decode cX8_sheet 260 = .ok (.dup, 1) := by decide +kernel
theorem dX8_sheet_261 : decode cX8_sheet 261 = .ok (.getfield 96, 3) := by decide +kernel
theorem dX8_sheet_264 : decode cX8_sheet 264 = .ok (.iload 5, 2) := by decide +kernel
theorem dX8_sheet_266 : decode cX8_sheet 266 = .ok (.iadd, 1) := by decide +kernel
theorem dX8_sheet_267 : decode cX8_sheet 267 = .ok (.putfield 96, 3) := by decide +kernel
theorem dX8_sheet_270 : decode cX8_sheet 270 = .ok (.bipush 10, 2) := by decide +kernel
theorem dX8_sheet_272 : decode cX8_sheet 272 = .ok (.iload 5, 2) := by decide +kernel
theorem dX8_sheet_274 : decode cX8_sheet 274 = .ok (.imul, 1) := by decide +kernel
theorem dX8_sheet_275 : decode cX8_sheet 275 = .ok (.istore 6, 2) := by decide +kernel
theorem dX8_sheet_277 : decode cX8_sheet 277 = .ok (.aload_n 0, 1) := by decide +kernel
theorem dX8_sheet_278 : decode cX8_sheet 278 = .ok (.getfield 32, 3) := by decide +kernel
theorem dX8_sheet_281 : decode cX8_sheet 281 = .ok (.bipush 8, 2) := by decide +kernel
theorem dX8_sheet_283 : decode cX8_sheet 283 = .ok (.aload_n 0, 1) := by decide +kernel
theorem dX8_sheet_284 : decode cX8_sheet 284 = .ok (.getfield 81, 3) := by decide +kernel
theorem dX8_sheet_287 : decode cX8_sheet 287 = .ok (.imul, 1) := by decide +kernel
theorem dX8_sheet_288 : decode cX8_sheet 288 = .ok (.iload_n 2, 1) := by decide +kernel
theorem dX8_sheet_289 : decode cX8_sheet 289 = .ok (.iadd, 1) := by decide +kernel
theorem dX8_sheet_290 : decode cX8_sheet 290 = .ok (.iload 6, 2) := by decide +kernel
theorem dX8_sheet_292 : decode cX8_sheet 292 = .ok (.iastore, 1) := by decide +kernel
theorem dX8_sheet_293 : decode cX8_sheet 293 = .ok (.iload 6, 2) := by decide +kernel
theorem dX8_sheet_295 : decode cX8_sheet 295 = .ok (.aload_n 0, 1) := by decide +kernel
theorem dX8_sheet_296 : decode cX8_sheet 296 = .ok (.getfield 26, 3) := by decide +kernel
theorem dX8_sheet_299 : decode cX8_sheet 299 = .ok (.iload_n 2, 1) := by decide +kernel
theorem dX8_sheet_300 : decode cX8_sheet 300 = .ok (.iaload, 1) := by decide +kernel
theorem dX8_sheet_301 : decode cX8_sheet 301 = .ok (.isub, 1) := by decide +kernel
theorem dX8_sheet_302 : decode cX8_sheet 302 = .ok (.istore 7, 2) := by decide +kernel
theorem dX8_sheet_304 : decode cX8_sheet 304 = .ok (.iload_n 1, 1) := by decide +kernel
theorem dX8_sheet_305 : decode cX8_sheet 305 = .ok (.ifCond .eq 30, 3) := by decide +kernel
theorem dX8_sheet_308 : decode cX8_sheet 308 = .ok (.iload 7, 2) := by decide +kernel
theorem dX8_sheet_310 : decode cX8_sheet 310 = .ok (.ifCond .ge 9, 3) := by decide +kernel
theorem dX8_sheet_313 : decode cX8_sheet 313 = .ok (.iload 7, 2) := by decide +kernel
theorem dX8_sheet_315 : decode cX8_sheet 315 = .ok (.ineg, 1) := by decide +kernel
theorem dX8_sheet_316 : decode cX8_sheet 316 = .ok (.goto 5, 3) := by decide +kernel
theorem dX8_sheet_319 : decode cX8_sheet 319 = .ok (.iload 7, 2) := by decide +kernel
theorem dX8_sheet_321 : decode cX8_sheet 321 = .ok (.aload_n 0, 1) := by decide +kernel
theorem dX8_sheet_322 : decode cX8_sheet 322 = .ok (.getfield 16, 3) := by decide +kernel
theorem dX8_sheet_325 : decode cX8_sheet 325 = .ok (.bipush 6, 2) := by decide +kernel
theorem dX8_sheet_327 : decode cX8_sheet 327 = .ok (.iaload, 1) := by decide +kernel
theorem dX8_sheet_328 : decode cX8_sheet 328 = .ok (.if_icmp .gt 7, 3) := by decide +kernel
theorem dX8_sheet_331 : decode cX8_sheet 331 = .ok (.iconst 1, 1) := by decide +kernel
theorem dX8_sheet_332 : decode cX8_sheet 332 = .ok (.goto 4, 3) := by decide +kernel
theorem dX8_sheet_335 : decode cX8_sheet 335 = .ok (.iconst 0, 1) := by decide +kernel
theorem dX8_sheet_336 : decode cX8_sheet 336 = .ok (.istore_n 1, 1) := by decide +kernel
theorem dX8_sheet_337 : decode cX8_sheet 337 = .ok (.iinc 2 1, 3) := by decide +kernel
theorem dX8_sheet_340 : decode cX8_sheet 340 = .ok (.goto (-167), 3) := by decide +kernel
theorem dX8_sheet_343 : decode cX8_sheet 343 = .ok (.aload_n 0, 1) := by decide +kernel
theorem dX8_sheet_344 : decode cX8_sheet 344 = .ok (.getfield 35, 3) := by decide +kernel
theorem dX8_sheet_347 : decode cX8_sheet 347 = .ok (.aload_n 0, 1) := by decide +kernel
theorem dX8_sheet_348 : decode cX8_sheet 348 = .ok (.getfield 81, 3) := by decide +kernel
theorem dX8_sheet_351 : decode cX8_sheet 351 = .ok (.iload_n 1, 1) := by decide +kernel
theorem dX8_sheet_352 : decode cX8_sheet 352 = .ok (.bastore, 1) := by decide +kernel
theorem dX8_sheet_353 : decode cX8_sheet 353 = .ok (.aload_n 0, 1) := by decide +kernel
theorem dX8_sheet_354 : decode cX8_sheet 354 = .ok (.dup, 1) := by decide +kernel
theorem dX8_sheet_355 : decode cX8_sheet 355 = .ok (.getfield 81, 3) := by decide +kernel
theorem dX8_sheet_358 : decode cX8_sheet 358 = .ok (.iconst 1, 1) := by decide +kernel
theorem dX8_sheet_359 : decode cX8_sheet 359 = .ok (.iadd, 1) := by decide +kernel
theorem dX8_sheet_360 : decode cX8_sheet 360 = .ok (.putfield 81, 3) := by decide +kernel
theorem dX8_sheet_363 : decode cX8_sheet 363 = .ok (.aload_n 0, 1) := by decide +kernel
theorem dX8_sheet_364 : decode cX8_sheet 364 = .ok (.dup, 1) := by decide +kernel
theorem dX8_sheet_365 : decode cX8_sheet 365 = .ok (.getfield 84, 3) := by decide +kernel
theorem dX8_sheet_368 : decode cX8_sheet 368 = .ok (.iload_n 1, 1) := by decide +kernel
theorem dX8_sheet_369 : decode cX8_sheet 369 = .ok (.ifCond .eq 7, 3) := by decide +kernel
theorem dX8_sheet_372 : decode cX8_sheet 372 = .ok (.iconst 1, 1) := by decide +kernel
theorem dX8_sheet_373 : decode cX8_sheet 373 = .ok (.goto 4, 3) := by decide +kernel
theorem dX8_sheet_376 : decode cX8_sheet 376 = .ok (.iconst 0, 1) := by decide +kernel
theorem dX8_sheet_377 : decode cX8_sheet 377 = .ok (.iadd, 1) := by decide +kernel
theorem dX8_sheet_378 : decode cX8_sheet 378 = .ok (.putfield 84, 3) := by decide +kernel
theorem dX8_sheet_381 : decode cX8_sheet 381 = .ok (.aload_n 0, 1) := by decide +kernel
theorem dX8_sheet_382 : decode cX8_sheet 382 = .ok (.iload_n 1, 1) := by decide +kernel
theorem dX8_sheet_383 : decode cX8_sheet 383 = .ok (.ifCond .eq 12, 3) := by decide +kernel
theorem dX8_sheet_386 : decode cX8_sheet 386 = .ok (.aload_n 0, 1) := by decide +kernel
theorem dX8_sheet_387 : decode cX8_sheet 387 = .ok (.getfield 87, 3) := by decide +kernel
theorem dX8_sheet_390 : decode cX8_sheet 390 = .ok (.iconst 1, 1) := by decide +kernel
theorem dX8_sheet_391 : decode cX8_sheet 391 = .ok (.iadd, 1) := by decide +kernel
theorem dX8_sheet_392 : decode cX8_sheet 392 = .ok (.goto 4, 3) := by decide +kernel
theorem dX8_sheet_395 : decode cX8_sheet 395 = .ok (.iconst 0, 1) := by decide +kernel
theorem dX8_sheet_396 : decode cX8_sheet 396 = .ok (.putfield 87, 3) := by decide +kernel
theorem dX8_sheet_399 : decode cX8_sheet 399 = .ok (.aload_n 0, 1) := by decide +kernel
theorem dX8_sheet_400 : decode cX8_sheet 400 = .ok (.aload_n 0, 1) := by decide +kernel
theorem dX8_sheet_401 : decode cX8_sheet 401 = .ok (.getfield 39, 3) := by decide +kernel
theorem dX8_sheet_404 : decode cX8_sheet 404 = .ok (.ifCond .ge 24, 3) := by decide +kernel
theorem dX8_sheet_407 : decode cX8_sheet 407 = .ok (.aload_n 0, 1) := by decide +kernel
theorem dX8_sheet_408 : decode cX8_sheet 408 = .ok (.getfield 87, 3) := by decide +kernel
theorem dX8_sheet_411 : decode cX8_sheet 411 = .ok (.aload_n 0, 1) := by decide +kernel
theorem dX8_sheet_412 : decode cX8_sheet 412 = .ok (.getfield 16, 3) := by decide +kernel
theorem dX8_sheet_415 : decode cX8_sheet 415 = .ok (.bipush 8, 2) := by decide +kernel
theorem dX8_sheet_417 : decode cX8_sheet 417 = .ok (.iaload, 1) := by decide +kernel
theorem dX8_sheet_418 : decode cX8_sheet 418 = .ok (.if_icmp .lt 10, 3) := by decide +kernel
theorem dX8_sheet_421 : decode cX8_sheet 421 = .ok (.aload_n 0, 1) := by decide +kernel
theorem dX8_sheet_422 : decode cX8_sheet 422 = .ok (.getfield 81, 3) := by decide +kernel
theorem dX8_sheet_425 : decode cX8_sheet 425 = .ok (.goto 7, 3) := by decide +kernel
theorem dX8_sheet_428 : decode cX8_sheet 428 = .ok (.aload_n 0, 1) := by decide +kernel
theorem dX8_sheet_429 : decode cX8_sheet 429 = .ok (.getfield 39, 3) := by decide +kernel
theorem dX8_sheet_432 : decode cX8_sheet 432 = .ok (.putfield 39, 3) := by decide +kernel
theorem dX8_sheet_435 : decode cX8_sheet 435 = .ok (.aload_n 0, 1) := by decide +kernel
theorem dX8_sheet_436 : decode cX8_sheet 436 = .ok (.getfield 99, 3) := by decide +kernel
theorem dX8_sheet_439 : decode cX8_sheet 439 = .ok (.ifCond .eq 22, 3) := by decide +kernel
theorem dX8_sheet_442 : decode cX8_sheet 442 = .ok (.aload_n 0, 1) := by decide +kernel
theorem dX8_sheet_443 : decode cX8_sheet 443 = .ok (.getfield 81, 3) := by decide +kernel
theorem dX8_sheet_446 : decode cX8_sheet 446 = .ok (.aload_n 0, 1) := by decide +kernel
theorem dX8_sheet_447 : decode cX8_sheet 447 = .ok (.getfield 16, 3) := by decide +kernel
theorem dX8_sheet_450 : decode cX8_sheet 450 = .ok (.bipush 7, 2) := by decide +kernel
theorem dX8_sheet_452 : decode cX8_sheet 452 = .ok (.iaload, 1) := by decide +kernel
theorem dX8_sheet_453 : decode cX8_sheet 453 = .ok (.irem, 1) := by decide +kernel
theorem dX8_sheet_454 : decode cX8_sheet 454 = .ok (.ifCond .ne 7, 3) := by decide +kernel
theorem dX8_sheet_457 : decode cX8_sheet 457 = .ok (.aload_n 0, 1) := by decide +kernel
theorem dX8_sheet_458 : decode cX8_sheet 458 = .ok (.invokevirtual 137, 3) := by decide +kernel
theorem dX8_sheet_461 : decode cX8_sheet 461 = .ok (.return_, 1) := by decide +kernel
theorem dX8_held_0 : decode cX8_held 0 = .ok (.iload_n 0, 1) := by decide +kernel
theorem dX8_held_1 : decode cX8_held 1 = .ok (.iload_n 1, 1) := by decide +kernel
theorem dX8_held_2 : decode cX8_held 2 = .ok (.if_icmp .ge 7, 3) := by decide +kernel
theorem dX8_held_5 : decode cX8_held 5 = .ok (.iload_n 1, 1) := by decide +kernel
theorem dX8_held_6 : decode cX8_held 6 = .ok (.goto 13, 3) := by decide +kernel
theorem dX8_held_9 : decode cX8_held 9 = .ok (.iload_n 0, 1) := by decide +kernel
theorem dX8_held_10 : decode cX8_held 10 = .ok (.iload_n 2, 1) := by decide +kernel
theorem dX8_held_11 : decode cX8_held 11 = .ok (.if_icmp .le 7, 3) := by decide +kernel
theorem dX8_held_14 : decode cX8_held 14 = .ok (.iload_n 2, 1) := by decide +kernel
theorem dX8_held_15 : decode cX8_held 15 = .ok (.goto 4, 3) := by decide +kernel
theorem dX8_held_18 : decode cX8_held 18 = .ok (.iload_n 0, 1) := by decide +kernel
theorem dX8_held_19 : decode cX8_held 19 = .ok (.ireturn, 1) := by decide +kernel
set_option maxRecDepth 20000 in
theorem ggX8_steerKeys_X8_densityOf : GoodIn wsX8_steerKeys wsX8_densityOf := goodIn_r _ [10, 11, 15, 16, 17, 18, 19, 20, 21, 22, 23, 24, 25, 26, 27, 28, 29, 30, 31, 32, 33, 34, 35, 36, 37, 38, 39, 40, 41, 42, 43, 44, 45, 46, 47, 48, 49, 50, 51] rfl (by decide +kernel)
set_option maxRecDepth 20000 in
theorem gX8_steerKeys_X8_densityOf : GoodIn wsX8_steerKeys (wsV RX8 127 RX8 yX8_densityOf wsX8_densityOf) := goodIn_app (goodIn_of _ (by decide +kernel)) ggX8_steerKeys_X8_densityOf
set_option maxRecDepth 20000 in
theorem ggX8_steerKeys_X8_held : GoodIn wsX8_steerKeys wsX8_held := goodIn_r _ [14] rfl (by decide +kernel)
set_option maxRecDepth 20000 in
theorem gX8_steerKeys_X8_held : GoodIn wsX8_steerKeys (va_wsS RX8 140 yX8_held wsX8_held) := goodIn_app (goodIn_of _ (by decide +kernel)) ggX8_steerKeys_X8_held
theorem dX8_steerKeys_0 : decode cX8_steerKeys 0 = .ok (.iconst 0, 1) := by decide +kernel
theorem dX8_steerKeys_1 : decode cX8_steerKeys 1 = .ok (.istore_n 1, 1) := by decide +kernel
theorem dX8_steerKeys_2 : decode cX8_steerKeys 2 = .ok (.iload_n 1, 1) := by decide +kernel
theorem dX8_steerKeys_3 : decode cX8_steerKeys 3 = .ok (.aload_n 0, 1) := by decide +kernel
theorem dX8_steerKeys_4 : decode cX8_steerKeys 4 = .ok (.getfield 7, 3) := by decide +kernel
theorem dX8_steerKeys_7 : decode cX8_steerKeys 7 = .ok (.if_icmp .ge 73, 3) := by decide +kernel
theorem dX8_steerKeys_10 : decode cX8_steerKeys 10 = .ok (.aload_n 0, 1) := by decide +kernel
theorem dX8_steerKeys_11 : decode cX8_steerKeys 11 = .ok (.getfield 26, 3) := by decide +kernel
theorem dX8_steerKeys_14 : decode cX8_steerKeys 14 = .ok (.iload_n 1, 1) := by decide +kernel
theorem dX8_steerKeys_15 : decode cX8_steerKeys 15 = .ok (.iaload, 1) := by decide +kernel
theorem dX8_steerKeys_16 : decode cX8_steerKeys 16 = .ok (.aload_n 0, 1) := by decide +kernel
theorem dX8_steerKeys_17 : decode cX8_steerKeys 17 = .ok (.aload_n 0, 1) := by decide +kernel
theorem dX8_steerKeys_18 : decode cX8_steerKeys 18 = .ok (.getfield 81, 3) := by decide +kernel
theorem dX8_steerKeys_21 : decode cX8_steerKeys 21 = .ok (.iload_n 1, 1) := by decide +kernel
theorem dX8_steerKeys_22 : decode cX8_steerKeys 22 = .ok (.invokevirtual 127, 3) := by decide +kernel
theorem dX8_steerKeys_25 : decode cX8_steerKeys 25 = .ok (.isub, 1) := by decide +kernel
theorem dX8_steerKeys_26 : decode cX8_steerKeys 26 = .ok (.aload_n 0, 1) := by decide +kernel
theorem dX8_steerKeys_27 : decode cX8_steerKeys 27 = .ok (.getfield 16, 3) := by decide +kernel
theorem dX8_steerKeys_30 : decode cX8_steerKeys 30 = .ok (.iconst 4, 1) := by decide +kernel
theorem dX8_steerKeys_31 : decode cX8_steerKeys 31 = .ok (.iaload, 1) := by decide +kernel
theorem dX8_steerKeys_32 : decode cX8_steerKeys 32 = .ok (.imul, 1) := by decide +kernel
theorem dX8_steerKeys_33 : decode cX8_steerKeys 33 = .ok (.sipush 1000, 3) := by decide +kernel
theorem dX8_steerKeys_36 : decode cX8_steerKeys 36 = .ok (.idiv, 1) := by decide +kernel
theorem dX8_steerKeys_37 : decode cX8_steerKeys 37 = .ok (.aload_n 0, 1) := by decide +kernel
theorem dX8_steerKeys_38 : decode cX8_steerKeys 38 = .ok (.getfield 16, 3) := by decide +kernel
theorem dX8_steerKeys_41 : decode cX8_steerKeys 41 = .ok (.iconst 5, 1) := by decide +kernel
theorem dX8_steerKeys_42 : decode cX8_steerKeys 42 = .ok (.iaload, 1) := by decide +kernel
theorem dX8_steerKeys_43 : decode cX8_steerKeys 43 = .ok (.ineg, 1) := by decide +kernel
theorem dX8_steerKeys_44 : decode cX8_steerKeys 44 = .ok (.aload_n 0, 1) := by decide +kernel
theorem dX8_steerKeys_45 : decode cX8_steerKeys 45 = .ok (.getfield 16, 3) := by decide +kernel
theorem dX8_steerKeys_48 : decode cX8_steerKeys 48 = .ok (.iconst 5, 1) := by decide +kernel
theorem dX8_steerKeys_49 : decode cX8_steerKeys 49 = .ok (.iaload, 1) := by decide +kernel
theorem dX8_steerKeys_50 : decode cX8_steerKeys 50 = .ok (.invokestatic 140, 3) := by decide +kernel
theorem dX8_steerKeys_53 : decode cX8_steerKeys 53 = .ok (.istore_n 2, 1) := by decide +kernel
theorem dX8_steerKeys_54 : decode cX8_steerKeys 54 = .ok (.aload_n 0, 1) := by decide +kernel
theorem dX8_steerKeys_55 : decode cX8_steerKeys 55 = .ok (.getfield 20, 3) := by decide +kernel
theorem dX8_steerKeys_58 : decode cX8_steerKeys 58 = .ok (.iload_n 1, 1) := by decide +kernel
theorem dX8_steerKeys_59 : decode cX8_steerKeys 59 = .ok (.aload_n 0, 1) := by decide +kernel
theorem dX8_steerKeys_60 : decode cX8_steerKeys 60 = .ok (.getfield 20, 3) := by decide +kernel
theorem dX8_steerKeys_63 : decode cX8_steerKeys 63 = .ok (.iload_n 1, 1) := by decide +kernel
theorem dX8_steerKeys_64 : decode cX8_steerKeys 64 = .ok (.iaload, 1) := by decide +kernel
theorem dX8_steerKeys_65 : decode cX8_steerKeys 65 = .ok (.iload_n 2, 1) := by decide +kernel
theorem dX8_steerKeys_66 : decode cX8_steerKeys 66 = .ok (.iadd, 1) := by decide +kernel
theorem dX8_steerKeys_67 : decode cX8_steerKeys 67 = .ok (.iconst 0, 1) := by decide +kernel
theorem dX8_steerKeys_68 : decode cX8_steerKeys 68 = .ok (.bipush 100, 2) := by decide +kernel
theorem dX8_steerKeys_70 : decode cX8_steerKeys 70 = .ok (.invokestatic 140, 3) := by decide +kernel
theorem dX8_steerKeys_73 : decode cX8_steerKeys 73 = .ok (.iastore, 1) := by decide +kernel
theorem dX8_steerKeys_74 : decode cX8_steerKeys 74 = .ok (.iinc 1 1, 3) := by decide +kernel
theorem dX8_steerKeys_77 : decode cX8_steerKeys 77 = .ok (.goto (-75), 3) := by decide +kernel
theorem dX8_steerKeys_80 : decode cX8_steerKeys 80 = .ok (.return_, 1) := by decide +kernel
set_option maxRecDepth 20000 in
theorem ggX8_print_X8_in : GoodIn wsX8_print wsX8_in := goodIn_r _ [6] rfl (by decide +kernel)
set_option maxRecDepth 20000 in
theorem gX8_print_X8_in : GoodIn wsX8_print (va_wsS RX8 103 yX8_in wsX8_in) := goodIn_app (goodIn_of _ (by decide +kernel)) ggX8_print_X8_in
set_option maxRecDepth 20000 in
theorem ggX8_print_X8_sheet : GoodIn wsX8_print wsX8_sheet := goodIn_r _ [10, 11, 12, 13, 14, 15, 16, 17, 18, 19, 20, 21, 22, 2, 23, 24, 25, 26, 27, 28, 29, 30, 31, 5, 32, 33, 34, 35, 36, 37, 38, 39, 40, 41, 42, 43, 44, 45, 46, 47, 48, 49, 50, 51, 52, 53, 54, 55, 56, 57, 58, 59, 60, 61, 62, 63, 64, 65, 66, 67, 68, 69, 70, 71, 72, 73, 74, 75, 76, 77, 78, 79, 80, 81] rfl (by decide +kernel)
set_option maxRecDepth 20000 in
theorem gX8_print_X8_sheet : GoodIn wsX8_print (wsV RX8 146 RX8 yX8_sheet wsX8_sheet) := goodIn_app (goodIn_of _ (by decide +kernel)) ggX8_print_X8_sheet
theorem dX8_print_0 : decode cX8_print 0 = .ok (.iload_n 1, 1) := by decide +kernel
theorem dX8_print_1 : decode cX8_print 1 = .ok (.i2l, 1) := by decide +kernel
theorem dX8_print_2 : decode cX8_print 2 = .ok (.lconst 1, 1) := by decide +kernel
theorem dX8_print_3 : decode cX8_print 3 = .ok (.ldc2_w 144, 3) := by decide +kernel
theorem dX8_print_6 : decode cX8_print 6 = .ok (.invokestatic 103, 3) := by decide +kernel
theorem dX8_print_9 : decode cX8_print 9 = .ok (.ifCond .ne 6, 3) := by decide +kernel
theorem dX8_print_12 : decode cX8_print 12 = .ok (.bipush (-2), 2) := by decide +kernel
theorem dX8_print_14 : decode cX8_print 14 = .ok (.ireturn, 1) := by decide +kernel
theorem dX8_print_15 : decode cX8_print 15 = .ok (.aload_n 0, 1) := by decide +kernel
theorem dX8_print_16 : decode cX8_print 16 = .ok (.getfield 81, 3) := by decide +kernel
theorem dX8_print_19 : decode cX8_print 19 = .ok (.iload_n 1, 1) := by decide +kernel
theorem dX8_print_20 : decode cX8_print 20 = .ok (.iadd, 1) := by decide +kernel
theorem dX8_print_21 : decode cX8_print 21 = .ok (.sipush 1000, 3) := by decide +kernel
theorem dX8_print_24 : decode cX8_print 24 = .ok (.if_icmp .le 6, 3) := by decide +kernel
theorem dX8_print_27 : decode cX8_print 27 = .ok (.bipush (-3), 2) := by decide +kernel
theorem dX8_print_29 : decode cX8_print 29 = .ok (.ireturn, 1) := by decide +kernel
theorem dX8_print_30 : decode cX8_print 30 = .ok (.iconst 0, 1) := by decide +kernel
theorem dX8_print_31 : decode cX8_print 31 = .ok (.istore_n 2, 1) := by decide +kernel
theorem dX8_print_32 : decode cX8_print 32 = .ok (.iload_n 2, 1) := by decide +kernel
theorem dX8_print_33 : decode cX8_print 33 = .ok (.iload_n 1, 1) := by decide +kernel
theorem dX8_print_34 : decode cX8_print 34 = .ok (.if_icmp .ge 13, 3) := by decide +kernel
theorem dX8_print_37 : decode cX8_print 37 = .ok (.aload_n 0, 1) := by decide +kernel
theorem dX8_print_38 : decode cX8_print 38 = .ok (.invokevirtual 146, 3) := by decide +kernel
theorem dX8_print_41 : decode cX8_print 41 = .ok (.iinc 2 1, 3) := by decide +kernel
theorem dX8_print_44 : decode cX8_print 44 = .ok (.goto (-12), 3) := by decide +kernel
theorem dX8_print_47 : decode cX8_print 47 = .ok (.aload_n 0, 1) := by decide +kernel
theorem dX8_print_48 : decode cX8_print 48 = .ok (.getfield 81, 3) := by decide +kernel
theorem dX8_print_51 : decode cX8_print 51 = .ok (.ireturn, 1) := by decide +kernel
theorem dX8_steer_0 : decode cX8_steer 0 = .ok (.aload_n 0, 1) := by decide +kernel
theorem dX8_steer_1 : decode cX8_steer 1 = .ok (.getfield 99, 3) := by decide +kernel
theorem dX8_steer_4 : decode cX8_steer 4 = .ok (.ifCond .eq 7, 3) := by decide +kernel
theorem dX8_steer_7 : decode cX8_steer 7 = .ok (.iconst 1, 1) := by decide +kernel
theorem dX8_steer_8 : decode cX8_steer 8 = .ok (.goto 4, 3) := by decide +kernel
theorem dX8_steer_11 : decode cX8_steer 11 = .ok (.iconst 0, 1) := by decide +kernel
theorem dX8_steer_12 : decode cX8_steer 12 = .ok (.istore_n 2, 1) := by decide +kernel
theorem dX8_steer_13 : decode cX8_steer 13 = .ok (.aload_n 0, 1) := by decide +kernel
theorem dX8_steer_14 : decode cX8_steer 14 = .ok (.iload_n 1, 1) := by decide +kernel
theorem dX8_steer_15 : decode cX8_steer 15 = .ok (.putfield 99, 3) := by decide +kernel
theorem dX8_steer_18 : decode cX8_steer 18 = .ok (.iload_n 2, 1) := by decide +kernel
theorem dX8_steer_19 : decode cX8_steer 19 = .ok (.ireturn, 1) := by decide +kernel
set_option maxRecDepth 20000 in
theorem ggX8_good_X8_in : GoodIn wsX8_good wsX8_in := goodIn_r _ [6] rfl (by decide +kernel)
set_option maxRecDepth 20000 in
theorem gX8_good_X8_in : GoodIn wsX8_good (va_wsS RX8 103 yX8_in wsX8_in) := goodIn_app (goodIn_of _ (by decide +kernel)) ggX8_good_X8_in
theorem dX8_good_0 : decode cX8_good 0 = .ok (.iload_n 1, 1) := by decide +kernel
theorem dX8_good_1 : decode cX8_good 1 = .ok (.i2l, 1) := by decide +kernel
theorem dX8_good_2 : decode cX8_good 2 = .ok (.lconst 1, 1) := by decide +kernel
theorem dX8_good_3 : decode cX8_good 3 = .ok (.aload_n 0, 1) := by decide +kernel
theorem dX8_good_4 : decode cX8_good 4 = .ok (.getfield 81, 3) := by decide +kernel
theorem dX8_good_7 : decode cX8_good 7 = .ok (.i2l, 1) := by decide +kernel
theorem dX8_good_8 : decode cX8_good 8 = .ok (.invokestatic 103, 3) := by decide +kernel
theorem dX8_good_11 : decode cX8_good 11 = .ok (.ifCond .ne 7, 3) := by decide +kernel
theorem dX8_good_14 : decode cX8_good 14 = .ok (.iconst (-1), 1) := by decide +kernel
theorem dX8_good_15 : decode cX8_good 15 = .ok (.goto 19, 3) := by decide +kernel
theorem dX8_good_18 : decode cX8_good 18 = .ok (.aload_n 0, 1) := by decide +kernel
theorem dX8_good_19 : decode cX8_good 19 = .ok (.getfield 35, 3) := by decide +kernel
theorem dX8_good_22 : decode cX8_good 22 = .ok (.iload_n 1, 1) := by decide +kernel
theorem dX8_good_23 : decode cX8_good 23 = .ok (.iconst 1, 1) := by decide +kernel
theorem dX8_good_24 : decode cX8_good 24 = .ok (.isub, 1) := by decide +kernel
theorem dX8_good_25 : decode cX8_good 25 = .ok (.baload, 1) := by decide +kernel
theorem dX8_good_26 : decode cX8_good 26 = .ok (.ifCond .eq 7, 3) := by decide +kernel
theorem dX8_good_29 : decode cX8_good 29 = .ok (.iconst 1, 1) := by decide +kernel
theorem dX8_good_30 : decode cX8_good 30 = .ok (.goto 4, 3) := by decide +kernel
theorem dX8_good_33 : decode cX8_good 33 = .ok (.iconst 0, 1) := by decide +kernel
theorem dX8_good_34 : decode cX8_good 34 = .ok (.ireturn, 1) := by decide +kernel
set_option maxRecDepth 20000 in
theorem ggX8_density_X8_in : GoodIn wsX8_density wsX8_in := goodIn_r _ [5] rfl (by decide +kernel)
set_option maxRecDepth 20000 in
theorem gX8_density_X8_in : GoodIn wsX8_density (va_wsS RX8 103 yX8_in wsX8_in) := goodIn_app (goodIn_of _ (by decide +kernel)) ggX8_density_X8_in
set_option maxRecDepth 20000 in
theorem ggX8_density_X8_isZone : GoodIn wsX8_density wsX8_isZone := goodIn_r _ [9, 10, 2, 3, 4, 5, 16, 17, 18, 19, 20, 21, 22, 23, 24, 25, 26, 27, 28, 29, 30, 31, 32, 33, 34, 35, 36, 37, 38, 39, 40, 41, 42, 43, 44, 45, 46, 47, 48, 49, 50, 51, 52] rfl (by decide +kernel)
set_option maxRecDepth 20000 in
theorem gX8_density_X8_isZone : GoodIn wsX8_density (wsV RX8 119 RX8 yX8_isZone wsX8_isZone) := goodIn_app (goodIn_of _ (by decide +kernel)) ggX8_density_X8_isZone
set_option maxRecDepth 20000 in
theorem ggX8_density_X8_densityOf : GoodIn wsX8_density wsX8_densityOf := goodIn_r _ [14, 15, 16, 17, 18, 19, 20, 21, 22, 23, 24, 25, 26, 27, 28, 29, 30, 31, 32, 33, 34, 35, 36, 37, 38, 39, 40, 41, 42, 43, 44, 45, 46, 47, 48, 49, 50, 51, 52] rfl (by decide +kernel)
set_option maxRecDepth 20000 in
theorem gX8_density_X8_densityOf : GoodIn wsX8_density (wsV RX8 127 RX8 yX8_densityOf wsX8_densityOf) := goodIn_app (goodIn_of _ (by decide +kernel)) ggX8_density_X8_densityOf
theorem dX8_density_0 : decode cX8_density 0 = .ok (.iload_n 1, 1) := by decide +kernel
theorem dX8_density_1 : decode cX8_density 1 = .ok (.i2l, 1) := by decide +kernel
theorem dX8_density_2 : decode cX8_density 2 = .ok (.lconst 1, 1) := by decide +kernel
theorem dX8_density_3 : decode cX8_density 3 = .ok (.aload_n 0, 1) := by decide +kernel
theorem dX8_density_4 : decode cX8_density 4 = .ok (.getfield 81, 3) := by decide +kernel
theorem dX8_density_7 : decode cX8_density 7 = .ok (.i2l, 1) := by decide +kernel
theorem dX8_density_8 : decode cX8_density 8 = .ok (.invokestatic 103, 3) := by decide +kernel
theorem dX8_density_11 : decode cX8_density 11 = .ok (.ifCond .eq 20, 3) := by decide +kernel
theorem dX8_density_14 : decode cX8_density 14 = .ok (.aload_n 0, 1) := by decide +kernel
theorem dX8_density_15 : decode cX8_density 15 = .ok (.iload_n 2, 1) := by decide +kernel
theorem dX8_density_16 : decode cX8_density 16 = .ok (.invokevirtual 119, 3) := by decide +kernel
theorem dX8_density_19 : decode cX8_density 19 = .ok (.ifCond .eq 12, 3) := by decide +kernel
theorem dX8_density_22 : decode cX8_density 22 = .ok (.aload_n 0, 1) := by decide +kernel
theorem dX8_density_23 : decode cX8_density 23 = .ok (.iload_n 1, 1) := by decide +kernel
theorem dX8_density_24 : decode cX8_density 24 = .ok (.iload_n 2, 1) := by decide +kernel
theorem dX8_density_25 : decode cX8_density 25 = .ok (.invokevirtual 127, 3) := by decide +kernel
theorem dX8_density_28 : decode cX8_density 28 = .ok (.goto 4, 3) := by decide +kernel
theorem dX8_density_31 : decode cX8_density 31 = .ok (.iconst (-1), 1) := by decide +kernel
theorem dX8_density_32 : decode cX8_density 32 = .ok (.ireturn, 1) := by decide +kernel
set_option maxRecDepth 20000 in
theorem ggX8_past_X8_in : GoodIn wsX8_past wsX8_in := goodIn_r _ [8] rfl (by decide +kernel)
set_option maxRecDepth 20000 in
theorem gX8_past_X8_in : GoodIn wsX8_past (va_wsS RX8 103 yX8_in wsX8_in) := goodIn_app (goodIn_of _ (by decide +kernel)) ggX8_past_X8_in
theorem dX8_past_0 : decode cX8_past 0 = .ok (.iload_n 1, 1) := by decide +kernel
theorem dX8_past_1 : decode cX8_past 1 = .ok (.i2l, 1) := by decide +kernel
theorem dX8_past_2 : decode cX8_past 2 = .ok (.lconst 0, 1) := by decide +kernel
theorem dX8_past_3 : decode cX8_past 3 = .ok (.ldc2_w 125, 3) := by decide +kernel
theorem dX8_past_6 : decode cX8_past 6 = .ok (.invokestatic 103, 3) := by decide +kernel
theorem dX8_past_9 : decode cX8_past 9 = .ok (.ifCond .eq 15, 3) := by decide +kernel
theorem dX8_past_12 : decode cX8_past 12 = .ok (.iload_n 2, 1) := by decide +kernel
theorem dX8_past_13 : decode cX8_past 13 = .ok (.i2l, 1) := by decide +kernel
theorem dX8_past_14 : decode cX8_past 14 = .ok (.lconst 0, 1) := by decide +kernel
theorem dX8_past_15 : decode cX8_past 15 = .ok (.ldc2_w 125, 3) := by decide +kernel
theorem dX8_past_18 : decode cX8_past 18 = .ok (.invokestatic 103, 3) := by decide +kernel
theorem dX8_past_21 : decode cX8_past 21 = .ok (.ifCond .ne 6, 3) := by decide +kernel
theorem dX8_past_24 : decode cX8_past 24 = .ok (.bipush (-2), 2) := by decide +kernel
theorem dX8_past_26 : decode cX8_past 26 = .ok (.ireturn, 1) := by decide +kernel
theorem dX8_past_27 : decode cX8_past 27 = .ok (.aload_n 0, 1) := by decide +kernel
theorem dX8_past_28 : decode cX8_past 28 = .ok (.getfield 149, 3) := by decide +kernel
theorem dX8_past_31 : decode cX8_past 31 = .ok (.bipush 30, 2) := by decide +kernel
theorem dX8_past_33 : decode cX8_past 33 = .ok (.if_icmp .ne 6, 3) := by decide +kernel
theorem dX8_past_36 : decode cX8_past 36 = .ok (.bipush (-4), 2) := by decide +kernel
theorem dX8_past_38 : decode cX8_past 38 = .ok (.ireturn, 1) := by decide +kernel
theorem dX8_past_39 : decode cX8_past 39 = .ok (.aload_n 0, 1) := by decide +kernel
theorem dX8_past_40 : decode cX8_past 40 = .ok (.getfield 45, 3) := by decide +kernel
theorem dX8_past_43 : decode cX8_past 43 = .ok (.aload_n 0, 1) := by decide +kernel
theorem dX8_past_44 : decode cX8_past 44 = .ok (.getfield 149, 3) := by decide +kernel
theorem dX8_past_47 : decode cX8_past 47 = .ok (.iload_n 1, 1) := by decide +kernel
theorem dX8_past_48 : decode cX8_past 48 = .ok (.iastore, 1) := by decide +kernel
theorem dX8_past_49 : decode cX8_past 49 = .ok (.aload_n 0, 1) := by decide +kernel
theorem dX8_past_50 : decode cX8_past 50 = .ok (.getfield 48, 3) := by decide +kernel
theorem dX8_past_53 : decode cX8_past 53 = .ok (.aload_n 0, 1) := by decide +kernel
theorem dX8_past_54 : decode cX8_past 54 = .ok (.getfield 149, 3) := by decide +kernel
theorem dX8_past_57 : decode cX8_past 57 = .ok (.iload_n 2, 1) := by decide +kernel
theorem dX8_past_58 : decode cX8_past 58 = .ok (.iastore, 1) := by decide +kernel
theorem dX8_past_59 : decode cX8_past 59 = .ok (.aload_n 0, 1) := by decide +kernel
theorem dX8_past_60 : decode cX8_past 60 = .ok (.dup, 1) := by decide +kernel
theorem dX8_past_61 : decode cX8_past 61 = .ok (.getfield 149, 3) := by decide +kernel
theorem dX8_past_64 : decode cX8_past 64 = .ok (.iconst 1, 1) := by decide +kernel
theorem dX8_past_65 : decode cX8_past 65 = .ok (.iadd, 1) := by decide +kernel
theorem dX8_past_66 : decode cX8_past 66 = .ok (.putfield 149, 3) := by decide +kernel
theorem dX8_past_69 : decode cX8_past 69 = .ok (.aload_n 0, 1) := by decide +kernel
theorem dX8_past_70 : decode cX8_past 70 = .ok (.getfield 149, 3) := by decide +kernel
theorem dX8_past_73 : decode cX8_past 73 = .ok (.ireturn, 1) := by decide +kernel
theorem dX8_presetOf_0 : decode cX8_presetOf 0 = .ok (.lconst 0, 1) := by decide +kernel
theorem dX8_presetOf_1 : decode cX8_presetOf 1 = .ok (.lstore_n 2, 1) := by decide +kernel
theorem dX8_presetOf_2 : decode cX8_presetOf 2 = .ok (.lconst 0, 1) := by decide +kernel
theorem dX8_presetOf_3 : decode cX8_presetOf 3 = .ok (.lstore 4, 2) := by decide +kernel
theorem dX8_presetOf_5 : decode cX8_presetOf 5 = .ok (.lconst 0, 1) := by decide +kernel
theorem dX8_presetOf_6 : decode cX8_presetOf 6 = .ok (.lstore 6, 2) := by decide +kernel
theorem dX8_presetOf_8 : decode cX8_presetOf 8 = .ok (.lconst 0, 1) := by decide +kernel
theorem dX8_presetOf_9 : decode cX8_presetOf 9 = .ok (.lstore 8, 2) := by decide +kernel
theorem dX8_presetOf_11 : decode cX8_presetOf 11 = .ok (.iconst 0, 1) := by decide +kernel
theorem dX8_presetOf_12 : decode cX8_presetOf 12 = .ok (.istore 10, 2) := by decide +kernel
theorem dX8_presetOf_14 : decode cX8_presetOf 14 = .ok (.iload 10, 2) := by decide +kernel
theorem dX8_presetOf_16 : decode cX8_presetOf 16 = .ok (.aload_n 0, 1) := by decide +kernel
theorem dX8_presetOf_17 : decode cX8_presetOf 17 = .ok (.getfield 149, 3) := by decide +kernel
theorem dX8_presetOf_20 : decode cX8_presetOf 20 = .ok (.if_icmp .ge 75, 3) := by decide +kernel
theorem dX8_presetOf_23 : decode cX8_presetOf 23 = .ok (.lload_n 2, 1) := by decide +kernel
theorem dX8_presetOf_24 : decode cX8_presetOf 24 = .ok (.aload_n 0, 1) := by decide +kernel
theorem dX8_presetOf_25 : decode cX8_presetOf 25 = .ok (.getfield 45, 3) := by decide +kernel
theorem dX8_presetOf_28 : decode cX8_presetOf 28 = .ok (.iload 10, 2) := by decide +kernel
theorem dX8_presetOf_30 : decode cX8_presetOf 30 = .ok (.iaload, 1) := by decide +kernel
theorem dX8_presetOf_31 : decode cX8_presetOf 31 = .ok (.i2l, 1) := by decide +kernel
theorem dX8_presetOf_32 : decode cX8_presetOf 32 = .ok (.ladd, 1) := by decide +kernel
theorem dX8_presetOf_33 : decode cX8_presetOf 33 = .ok (.lstore_n 2, 1) := by decide +kernel
theorem dX8_presetOf_34 : decode cX8_presetOf 34 = .ok (.lload 4, 2) := by decide +kernel
theorem dX8_presetOf_36 : decode cX8_presetOf 36 = .ok (.aload_n 0, 1) := by decide +kernel
theorem dX8_presetOf_37 : decode cX8_presetOf 37 = .ok (.getfield 48, 3) := by decide +kernel
theorem dX8_presetOf_40 : decode cX8_presetOf 40 = .ok (.iload 10, 2) := by decide +kernel
theorem dX8_presetOf_42 : decode cX8_presetOf 42 = .ok (.iaload, 1) := by decide +kernel
theorem dX8_presetOf_43 : decode cX8_presetOf 43 = .ok (.i2l, 1) := by decide +kernel
theorem dX8_presetOf_44 : decode cX8_presetOf 44 = .ok (.ladd, 1) := by decide +kernel
theorem dX8_presetOf_45 : decode cX8_presetOf 45 = .ok (.lstore 4, 2) := by decide +kernel
theorem dX8_presetOf_47 : decode cX8_presetOf 47 = .ok (.lload 6, 2) := by decide +kernel
theorem dX8_presetOf_49 : decode cX8_presetOf 49 = .ok (.aload_n 0, 1) := by decide +kernel
theorem dX8_presetOf_50 : decode cX8_presetOf 50 = .ok (.getfield 45, 3) := by decide +kernel
theorem dX8_presetOf_53 : decode cX8_presetOf 53 = .ok (.iload 10, 2) := by decide +kernel
theorem dX8_presetOf_55 : decode cX8_presetOf 55 = .ok (.iaload, 1) := by decide +kernel
theorem dX8_presetOf_56 : decode cX8_presetOf 56 = .ok (.aload_n 0, 1) := by decide +kernel
theorem dX8_presetOf_57 : decode cX8_presetOf 57 = .ok (.getfield 45, 3) := by decide +kernel
theorem dX8_presetOf_60 : decode cX8_presetOf 60 = .ok (.iload 10, 2) := by decide +kernel
theorem dX8_presetOf_62 : decode cX8_presetOf 62 = .ok (.iaload, 1) := by decide +kernel
theorem dX8_presetOf_63 : decode cX8_presetOf 63 = .ok (.imul, 1) := by decide +kernel
theorem dX8_presetOf_64 : decode cX8_presetOf 64 = .ok (.i2l, 1) := by decide +kernel
theorem dX8_presetOf_65 : decode cX8_presetOf 65 = .ok (.ladd, 1) := by decide +kernel
theorem dX8_presetOf_66 : decode cX8_presetOf 66 = .ok (.lstore 6, 2) := by decide +kernel
theorem dX8_presetOf_68 : decode cX8_presetOf 68 = .ok (.lload 8, 2) := by decide +kernel
theorem dX8_presetOf_70 : decode cX8_presetOf 70 = .ok (.aload_n 0, 1) := by decide +kernel
theorem dX8_presetOf_71 : decode cX8_presetOf 71 = .ok (.getfield 45, 3) := by decide +kernel
theorem dX8_presetOf_74 : decode cX8_presetOf 74 = .ok (.iload 10, 2) := by decide +kernel
theorem dX8_presetOf_76 : decode cX8_presetOf 76 = .ok (.iaload, 1) := by decide +kernel
theorem dX8_presetOf_77 : decode cX8_presetOf 77 = .ok (.aload_n 0, 1) := by decide +kernel
theorem dX8_presetOf_78 : decode cX8_presetOf 78 = .ok (.getfield 48, 3) := by decide +kernel
theorem dX8_presetOf_81 : decode cX8_presetOf 81 = .ok (.iload 10, 2) := by decide +kernel
theorem dX8_presetOf_83 : decode cX8_presetOf 83 = .ok (.iaload, 1) := by decide +kernel
theorem dX8_presetOf_84 : decode cX8_presetOf 84 = .ok (.imul, 1) := by decide +kernel
theorem dX8_presetOf_85 : decode cX8_presetOf 85 = .ok (.i2l, 1) := by decide +kernel
theorem dX8_presetOf_86 : decode cX8_presetOf 86 = .ok (.ladd, 1) := by decide +kernel
theorem dX8_presetOf_87 : decode cX8_presetOf 87 = .ok (.lstore 8, 2) := by decide +kernel
theorem dX8_presetOf_89 : decode cX8_presetOf 89 = .ok (.iinc 10 1, 3) := by decide +kernel
theorem dX8_presetOf_92 : decode cX8_presetOf 92 = .ok (.goto (-78), 3) := by decide +kernel
theorem dX8_presetOf_95 : decode cX8_presetOf 95 = .ok (.aload_n 0, 1) := by decide +kernel
theorem dX8_presetOf_96 : decode cX8_presetOf 96 = .ok (.getfield 149, 3) := by decide +kernel
theorem dX8_presetOf_99 : decode cX8_presetOf 99 = .ok (.i2l, 1) := by decide +kernel
theorem dX8_presetOf_100 : decode cX8_presetOf 100 = .ok (.lload 6, 2) := by decide +kernel
theorem dX8_presetOf_102 : decode cX8_presetOf 102 = .ok (.lmul, 1) := by decide +kernel
theorem dX8_presetOf_103 : decode cX8_presetOf 103 = .ok (.lload_n 2, 1) := by decide +kernel
theorem dX8_presetOf_104 : decode cX8_presetOf 104 = .ok (.lload_n 2, 1) := by decide +kernel
theorem dX8_presetOf_105 : decode cX8_presetOf 105 = .ok (.lmul, 1) := by decide +kernel
theorem dX8_presetOf_106 : decode cX8_presetOf 106 = .ok (.lsub, 1) := by decide +kernel
theorem dX8_presetOf_107 : decode cX8_presetOf 107 = .ok (.lstore 10, 2) := by decide +kernel
theorem dX8_presetOf_109 : decode cX8_presetOf 109 = .ok (.lload 10, 2) := by decide +kernel
theorem dX8_presetOf_111 : decode cX8_presetOf 111 = .ok (.lconst 0, 1) := by decide +kernel
theorem dX8_presetOf_112 : decode cX8_presetOf 112 = .ok (.lcmp, 1) := by decide +kernel
theorem dX8_presetOf_113 : decode cX8_presetOf 113 = .ok (.ifCond .ne 14, 3) := by decide +kernel
theorem dX8_presetOf_116 : decode cX8_presetOf 116 = .ok (.lload 4, 2) := by decide +kernel
theorem dX8_presetOf_118 : decode cX8_presetOf 118 = .ok (.aload_n 0, 1) := by decide +kernel
theorem dX8_presetOf_119 : decode cX8_presetOf 119 = .ok (.getfield 149, 3) := by decide +kernel
theorem dX8_presetOf_122 : decode cX8_presetOf 122 = .ok (.i2l, 1) := by decide +kernel
theorem dX8_presetOf_123 : decode cX8_presetOf 123 = .ok (.ldiv, 1) := by decide +kernel
theorem dX8_presetOf_124 : decode cX8_presetOf 124 = .ok (.goto 33, 3) := by decide +kernel
theorem dX8_presetOf_127 : decode cX8_presetOf 127 = .ok (.lload 4, 2) := by decide +kernel
theorem dX8_presetOf_129 : decode cX8_presetOf 129 = .ok (.lload 6, 2) := by decide +kernel
theorem dX8_presetOf_131 : decode cX8_presetOf 131 = .ok (.lmul, 1) := by decide +kernel
theorem dX8_presetOf_132 : decode cX8_presetOf 132 = .ok (.lload_n 2, 1) := by decide +kernel
theorem dX8_presetOf_133 : decode cX8_presetOf 133 = .ok (.lload 8, 2) := by decide +kernel
theorem dX8_presetOf_135 : decode cX8_presetOf 135 = .ok (.lmul, 1) := by decide +kernel
theorem dX8_presetOf_136 : decode cX8_presetOf 136 = .ok (.lsub, 1) := by decide +kernel
theorem dX8_presetOf_137 : decode cX8_presetOf 137 = .ok (.iload_n 1, 1) := by decide +kernel
theorem dX8_presetOf_138 : decode cX8_presetOf 138 = .ok (.i2l, 1) := by decide +kernel
theorem dX8_presetOf_139 : decode cX8_presetOf 139 = .ok (.aload_n 0, 1) := by decide +kernel
theorem dX8_presetOf_140 : decode cX8_presetOf 140 = .ok (.getfield 149, 3) := by decide +kernel
theorem dX8_presetOf_143 : decode cX8_presetOf 143 = .ok (.i2l, 1) := by decide +kernel
theorem dX8_presetOf_144 : decode cX8_presetOf 144 = .ok (.lload 8, 2) := by decide +kernel
theorem dX8_presetOf_146 : decode cX8_presetOf 146 = .ok (.lmul, 1) := by decide +kernel
theorem dX8_presetOf_147 : decode cX8_presetOf 147 = .ok (.lload_n 2, 1) := by decide +kernel
theorem dX8_presetOf_148 : decode cX8_presetOf 148 = .ok (.lload 4, 2) := by decide +kernel
theorem dX8_presetOf_150 : decode cX8_presetOf 150 = .ok (.lmul, 1) := by decide +kernel
theorem dX8_presetOf_151 : decode cX8_presetOf 151 = .ok (.lsub, 1) := by decide +kernel
theorem dX8_presetOf_152 : decode cX8_presetOf 152 = .ok (.lmul, 1) := by decide +kernel
theorem dX8_presetOf_153 : decode cX8_presetOf 153 = .ok (.ladd, 1) := by decide +kernel
