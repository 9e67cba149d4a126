theorem dX7_density_23 : decode cX7_density 23 = .ok (.ireturn, 1) := by decide +kernel
theorem dX7_density_24 : decode cX7_density 24 = .ok (.aload_n 0, 1) := by decide +kernel
theorem dX7_density_25 : decode cX7_density 25 = .ok (.getfield 33, 3) := by decide +kernel
theorem dX7_density_28 : decode cX7_density 28 = .ok (.iload_n 1, 1) := by decide +kernel
theorem dX7_density_29 : decode cX7_density 29 = .ok (.iload_n 2, 1) := by decide +kernel
theorem dX7_density_30 : decode cX7_density 30 = .ok (.invokevirtual 123, 3) := by decide +kernel
theorem dX7_density_33 : decode cX7_density 33 = .ok (.ireturn, 1) := by decide +kernel
set_option maxRecDepth 20000 in
theorem ggX7_past_X7_within : GoodIn wsX7_past wsX7_within := goodIn_r _ [5] rfl (by decide +kernel)
set_option maxRecDepth 20000 in
theorem gX7_past_X7_within : GoodIn wsX7_past (va_wsS RX7 62 yX7_within wsX7_within) := goodIn_app (goodIn_of _ (by decide +kernel)) ggX7_past_X7_within
set_option maxRecDepth 20000 in
theorem ggX7_past_X2_isFull : GoodIn wsX7_past wsX2_isFull := goodIn_r _ [10, 11, 28, 29, 30, 31, 32] rfl (by decide +kernel)
set_option maxRecDepth 20000 in
theorem gX7_past_X2_isFull : GoodIn wsX7_past (wsV RX7 126 RX2 yX2_isFull wsX2_isFull) := goodIn_app (goodIn_of _ (by decide +kernel)) ggX7_past_X2_isFull
set_option maxRecDepth 20000 in
theorem ggX7_past_X2_add : GoodIn wsX7_past wsX2_add := goodIn_r _ [15, 11, 16, 17, 18, 19, 28, 29, 30, 31, 32] rfl (by decide +kernel)
set_option maxRecDepth 20000 in
theorem gX7_past_X2_add : GoodIn wsX7_past (wsV RX7 129 RX2 yX2_add wsX2_add) := goodIn_app (goodIn_of _ (by decide +kernel)) ggX7_past_X2_add
theorem dX7_past_0 : decode cX7_past 0 = .ok (.iload_n 1, 1) := by decide +kernel
theorem dX7_past_1 : decode cX7_past 1 = .ok (.iconst 0, 1) := by decide +kernel
theorem dX7_past_2 : decode cX7_past 2 = .ok (.bipush 100, 2) := by decide +kernel
theorem dX7_past_4 : decode cX7_past 4 = .ok (.invokestatic 62, 3) := by decide +kernel
theorem dX7_past_7 : decode cX7_past 7 = .ok (.ifCond .eq 13, 3) := by decide +kernel
theorem dX7_past_10 : decode cX7_past 10 = .ok (.iload_n 2, 1) := by decide +kernel
theorem dX7_past_11 : decode cX7_past 11 = .ok (.iconst 0, 1) := by decide +kernel
theorem dX7_past_12 : decode cX7_past 12 = .ok (.bipush 100, 2) := by decide +kernel
theorem dX7_past_14 : decode cX7_past 14 = .ok (.invokestatic 62, 3) := by decide +kernel
theorem dX7_past_17 : decode cX7_past 17 = .ok (.ifCond .ne 6, 3) := by decide +kernel
theorem dX7_past_20 : decode cX7_past 20 = .ok (.bipush (-2), 2) := by decide +kernel
theorem dX7_past_22 : decode cX7_past 22 = .ok (.ireturn, 1) := by decide +kernel
theorem dX7_past_23 : decode cX7_past 23 = .ok (.aload_n 0, 1) := by decide +kernel
theorem dX7_past_24 : decode cX7_past 24 = .ok (.getfield 40, 3) := by decide +kernel
theorem dX7_past_27 : decode cX7_past 27 = .ok (.invokevirtual 126, 3) := by decide +kernel
theorem dX7_past_30 : decode cX7_past 30 = .ok (.ifCond .eq 6, 3) := by decide +kernel
theorem dX7_past_33 : decode cX7_past 33 = .ok (.bipush (-4), 2) := by decide +kernel
theorem dX7_past_35 : decode cX7_past 35 = .ok (.ireturn, 1) := by decide +kernel
theorem dX7_past_36 : decode cX7_past 36 = .ok (.aload_n 0, 1) := by decide +kernel
theorem dX7_past_37 : decode cX7_past 37 = .ok (.getfield 40, 3) := by decide +kernel
theorem dX7_past_40 : decode cX7_past 40 = .ok (.iload_n 1, 1) := by decide +kernel
theorem dX7_past_41 : decode cX7_past 41 = .ok (.iload_n 2, 1) := by decide +kernel
theorem dX7_past_42 : decode cX7_past 42 = .ok (.invokevirtual 129, 3) := by decide +kernel
theorem dX7_past_45 : decode cX7_past 45 = .ok (.ireturn, 1) := by decide +kernel
set_option maxRecDepth 20000 in
theorem ggX7_preset_X7_within : GoodIn wsX7_preset wsX7_within := goodIn_r _ [5] rfl (by decide +kernel)
set_option maxRecDepth 20000 in
theorem gX7_preset_X7_within : GoodIn wsX7_preset (va_wsS RX7 62 yX7_within wsX7_within) := goodIn_app (goodIn_of _ (by decide +kernel)) ggX7_preset_X7_within
set_option maxRecDepth 20000 in
theorem ggX7_preset_X2_isEmpty : GoodIn wsX7_preset wsX2_isEmpty := goodIn_r _ [10, 11, 37, 38, 39, 40, 41] rfl (by decide +kernel)
set_option maxRecDepth 20000 in
theorem gX7_preset_X2_isEmpty : GoodIn wsX7_preset (wsV RX7 132 RX2 yX2_isEmpty wsX2_isEmpty) := goodIn_app (goodIn_of _ (by decide +kernel)) ggX7_preset_X2_isEmpty
set_option maxRecDepth 20000 in
theorem ggX7_preset_X2_keyFor : GoodIn wsX7_preset wsX2_keyFor := goodIn_r _ [15, 11, 16, 17, 18, 19, 20, 4, 21, 22, 23, 24, 25, 26, 27, 28, 37, 38, 39, 40, 41] rfl (by decide +kernel)
set_option maxRecDepth 20000 in
theorem gX7_preset_X2_keyFor : GoodIn wsX7_preset (wsV RX7 135 RX2 yX2_keyFor wsX2_keyFor) := goodIn_app (goodIn_of _ (by decide +kernel)) ggX7_preset_X2_keyFor
theorem dX7_preset_0 : decode cX7_preset 0 = .ok (.iload_n 1, 1) := by decide +kernel
theorem dX7_preset_1 : decode cX7_preset 1 = .ok (.iconst 0, 1) := by decide +kernel
theorem dX7_preset_2 : decode cX7_preset 2 = .ok (.bipush 100, 2) := by decide +kernel
theorem dX7_preset_4 : decode cX7_preset 4 = .ok (.invokestatic 62, 3) := by decide +kernel
theorem dX7_preset_7 : decode cX7_preset 7 = .ok (.ifCond .ne 6, 3) := by decide +kernel
theorem dX7_preset_10 : decode cX7_preset 10 = .ok (.bipush (-2), 2) := by decide +kernel
theorem dX7_preset_12 : decode cX7_preset 12 = .ok (.ireturn, 1) := by decide +kernel
theorem dX7_preset_13 : decode cX7_preset 13 = .ok (.aload_n 0, 1) := by decide +kernel
theorem dX7_preset_14 : decode cX7_preset 14 = .ok (.getfield 40, 3) := by decide +kernel
theorem dX7_preset_17 : decode cX7_preset 17 = .ok (.invokevirtual 132, 3) := by decide +kernel
theorem dX7_preset_20 : decode cX7_preset 20 = .ok (.ifCond .eq 6, 3) := by decide +kernel
theorem dX7_preset_23 : decode cX7_preset 23 = .ok (.bipush (-3), 2) := by decide +kernel
theorem dX7_preset_25 : decode cX7_preset 25 = .ok (.ireturn, 1) := by decide +kernel
theorem dX7_preset_26 : decode cX7_preset 26 = .ok (.aload_n 0, 1) := by decide +kernel
theorem dX7_preset_27 : decode cX7_preset 27 = .ok (.getfield 40, 3) := by decide +kernel
theorem dX7_preset_30 : decode cX7_preset 30 = .ok (.iload_n 1, 1) := by decide +kernel
theorem dX7_preset_31 : decode cX7_preset 31 = .ok (.invokevirtual 135, 3) := by decide +kernel
theorem dX7_preset_34 : decode cX7_preset 34 = .ok (.ireturn, 1) := by decide +kernel
set_option maxRecDepth 20000 in
theorem ggX7_presets_X2_isEmpty : GoodIn wsX7_presets wsX2_isEmpty := goodIn_r _ [7, 8, 47, 48, 49, 50, 51] rfl (by decide +kernel)
set_option maxRecDepth 20000 in
theorem gX7_presets_X2_isEmpty : GoodIn wsX7_presets (wsV RX7 132 RX2 yX2_isEmpty wsX2_isEmpty) := goodIn_app (goodIn_of _ (by decide +kernel)) ggX7_presets_X2_isEmpty
set_option maxRecDepth 20000 in
theorem ggX7_presets_X6_valueOf : GoodIn wsX7_presets wsX6_valueOf := goodIn_r _ [13, 14, 45, 46] rfl (by decide +kernel)
set_option maxRecDepth 20000 in
theorem gX7_presets_X6_valueOf : GoodIn wsX7_presets (wsV RX7 98 RX6 yX6_valueOf wsX6_valueOf) := goodIn_app (goodIn_of _ (by decide +kernel)) ggX7_presets_X6_valueOf
set_option maxRecDepth 20000 in
theorem ggX7_presets_X2_keyFor : GoodIn wsX7_presets wsX2_keyFor := goodIn_r _ [18, 8, 19, 20, 21, 22, 23, 24, 25, 26, 27, 28, 29, 30, 31, 32, 47, 48, 49, 50, 51] rfl (by decide +kernel)
set_option maxRecDepth 20000 in
theorem gX7_presets_X2_keyFor : GoodIn wsX7_presets (wsV RX7 135 RX2 yX2_keyFor wsX2_keyFor) := goodIn_app (goodIn_of _ (by decide +kernel)) ggX7_presets_X2_keyFor
set_option maxRecDepth 20000 in
theorem ggX7_presets_X6_change : GoodIn wsX7_presets wsX6_change := goodIn_r _ [36, 14, 45, 46] rfl (by decide +kernel)
set_option maxRecDepth 20000 in
theorem gX7_presets_X6_change : GoodIn wsX7_presets (wsV RX7 91 RX6 yX6_change wsX6_change) := goodIn_app (goodIn_of _ (by decide +kernel)) ggX7_presets_X6_change
theorem dX7_presets_0 : decode cX7_presets 0 = .ok (.aload_n 0, 1) := by decide +kernel
theorem dX7_presets_1 : decode cX7_presets 1 = .ok (.getfield 40, 3) := by decide +kernel
theorem dX7_presets_4 : decode cX7_presets 4 = .ok (.invokevirtual 132, 3) := by decide +kernel
theorem dX7_presets_7 : decode cX7_presets 7 = .ok (.ifCond .eq 6, 3) := by decide +kernel
theorem dX7_presets_10 : decode cX7_presets 10 = .ok (.bipush (-3), 2) := by decide +kernel
theorem dX7_presets_12 : decode cX7_presets 12 = .ok (.ireturn, 1) := by decide +kernel
theorem dX7_presets_13 : decode cX7_presets 13 = .ok (.iconst 0, 1) := by decide +kernel
theorem dX7_presets_14 : decode cX7_presets 14 = .ok (.istore_n 1, 1) := by decide +kernel
theorem dX7_presets_15 : decode cX7_presets 15 = .ok (.iconst 0, 1) := by decide +kernel
theorem dX7_presets_16 : decode cX7_presets 16 = .ok (.istore_n 2, 1) := by decide +kernel
theorem dX7_presets_17 : decode cX7_presets 17 = .ok (.iload_n 2, 1) := by decide +kernel
theorem dX7_presets_18 : decode cX7_presets 18 = .ok (.aload_n 0, 1) := by decide +kernel
theorem dX7_presets_19 : decode cX7_presets 19 = .ok (.getfield 19, 3) := by decide +kernel
theorem dX7_presets_22 : decode cX7_presets 22 = .ok (.getfield 138, 3) := by decide +kernel
theorem dX7_presets_25 : decode cX7_presets 25 = .ok (.if_icmp .ge 43, 3) := by decide +kernel
theorem dX7_presets_28 : decode cX7_presets 28 = .ok (.aload_n 0, 1) := by decide +kernel
theorem dX7_presets_29 : decode cX7_presets 29 = .ok (.getfield 40, 3) := by decide +kernel
theorem dX7_presets_32 : decode cX7_presets 32 = .ok (.aload_n 0, 1) := by decide +kernel
theorem dX7_presets_33 : decode cX7_presets 33 = .ok (.getfield 19, 3) := by decide +kernel
theorem dX7_presets_36 : decode cX7_presets 36 = .ok (.iload_n 2, 1) := by decide +kernel
theorem dX7_presets_37 : decode cX7_presets 37 = .ok (.iconst 1, 1) := by decide +kernel
theorem dX7_presets_38 : decode cX7_presets 38 = .ok (.invokevirtual 98, 3) := by decide +kernel
theorem dX7_presets_41 : decode cX7_presets 41 = .ok (.invokevirtual 135, 3) := by decide +kernel
theorem dX7_presets_44 : decode cX7_presets 44 = .ok (.istore_n 3, 1) := by decide +kernel
theorem dX7_presets_45 : decode cX7_presets 45 = .ok (.aload_n 0, 1) := by decide +kernel
theorem dX7_presets_46 : decode cX7_presets 46 = .ok (.getfield 19, 3) := by decide +kernel
theorem dX7_presets_49 : decode cX7_presets 49 = .ok (.iload_n 2, 1) := by decide +kernel
theorem dX7_presets_50 : decode cX7_presets 50 = .ok (.iconst 0, 1) := by decide +kernel
theorem dX7_presets_51 : decode cX7_presets 51 = .ok (.iload_n 3, 1) := by decide +kernel
theorem dX7_presets_52 : decode cX7_presets 52 = .ok (.invokevirtual 91, 3) := by decide +kernel
theorem dX7_presets_55 : decode cX7_presets 55 = .ok (.iload_n 3, 1) := by decide +kernel
theorem dX7_presets_56 : decode cX7_presets 56 = .ok (.if_icmp .eq 6, 3) := by decide +kernel
theorem dX7_presets_59 : decode cX7_presets 59 = .ok (.iinc 1 1, 3) := by decide +kernel
theorem dX7_presets_62 : decode cX7_presets 62 = .ok (.iinc 2 1, 3) := by decide +kernel
theorem dX7_presets_65 : decode cX7_presets 65 = .ok (.goto (-48), 3) := by decide +kernel
theorem dX7_presets_68 : decode cX7_presets 68 = .ok (.iload_n 1, 1) := by decide +kernel
theorem dX7_presets_69 : decode cX7_presets 69 = .ok (.ireturn, 1) := by decide +kernel
set_option maxRecDepth 20000 in
theorem ggX7_told_X5_inkOn : GoodIn wsX7_told wsX5_inkOn := goodIn_r _ [10, 11, 26, 27, 28, 29, 30, 31] rfl (by decide +kernel)
set_option maxRecDepth 20000 in
theorem gX7_told_X5_inkOn : GoodIn wsX7_told (wsV RX7 148 RX5 yX5_inkOn wsX5_inkOn) := goodIn_app (goodIn_of _ (by decide +kernel)) ggX7_told_X5_inkOn
theorem dX7_told_0 : decode cX7_told 0 = .ok (.iload_n 1, 1) := by decide +kernel
theorem dX7_told_1 : decode cX7_told 1 = .ok (.tableswitch 148 0 9 #[55, 63, 71, 87, 95, 103, 111, 119, 127, 140], 55) := by decide +kernel
theorem dX7_told_56 : decode cX7_told 56 = .ok (.aload_n 0, 1) := by decide +kernel
theorem dX7_told_57 : decode cX7_told 57 = .ok (.getfield 33, 3) := by decide +kernel
theorem dX7_told_60 : decode cX7_told 60 = .ok (.getfield 105, 3) := by decide +kernel
theorem dX7_told_63 : decode cX7_told 63 = .ok (.ireturn, 1) := by decide +kernel
theorem dX7_told_64 : decode cX7_told 64 = .ok (.aload_n 0, 1) := by decide +kernel
theorem dX7_told_65 : decode cX7_told 65 = .ok (.getfield 33, 3) := by decide +kernel
theorem dX7_told_68 : decode cX7_told 68 = .ok (.getfield 139, 3) := by decide +kernel
theorem dX7_told_71 : decode cX7_told 71 = .ok (.ireturn, 1) := by decide +kernel
theorem dX7_told_72 : decode cX7_told 72 = .ok (.aload_n 0, 1) := by decide +kernel
theorem dX7_told_73 : decode cX7_told 73 = .ok (.getfield 33, 3) := by decide +kernel
theorem dX7_told_76 : decode cX7_told 76 = .ok (.getfield 105, 3) := by decide +kernel
theorem dX7_told_79 : decode cX7_told 79 = .ok (.aload_n 0, 1) := by decide +kernel
theorem dX7_told_80 : decode cX7_told 80 = .ok (.getfield 33, 3) := by decide +kernel
theorem dX7_told_83 : decode cX7_told 83 = .ok (.getfield 139, 3) := by decide +kernel
theorem dX7_told_86 : decode cX7_told 86 = .ok (.isub, 1) := by decide +kernel
theorem dX7_told_87 : decode cX7_told 87 = .ok (.ireturn, 1) := by decide +kernel
theorem dX7_told_88 : decode cX7_told 88 = .ok (.aload_n 0, 1) := by decide +kernel
theorem dX7_told_89 : decode cX7_told 89 = .ok (.getfield 33, 3) := by decide +kernel
theorem dX7_told_92 : decode cX7_told 92 = .ok (.getfield 142, 3) := by decide +kernel
theorem dX7_told_95 : decode cX7_told 95 = .ok (.ireturn, 1) := by decide +kernel
theorem dX7_told_96 : decode cX7_told 96 = .ok (.aload_n 0, 1) := by decide +kernel
theorem dX7_told_97 : decode cX7_told 97 = .ok (.getfield 26, 3) := by decide +kernel
theorem dX7_told_100 : decode cX7_told 100 = .ok (.getfield 145, 3) := by decide +kernel
theorem dX7_told_103 : decode cX7_told 103 = .ok (.ireturn, 1) := by decide +kernel
theorem dX7_told_104 : decode cX7_told 104 = .ok (.aload_n 0, 1) := by decide +kernel
theorem dX7_told_105 : decode cX7_told 105 = .ok (.getfield 26, 3) := by decide +kernel
theorem dX7_told_108 : decode cX7_told 108 = .ok (.invokevirtual 148, 3) := by decide +kernel
theorem dX7_told_111 : decode cX7_told 111 = .ok (.ireturn, 1) := by decide +kernel
theorem dX7_told_112 : decode cX7_told 112 = .ok (.aload_n 0, 1) := by decide +kernel
theorem dX7_told_113 : decode cX7_told 113 = .ok (.getfield 26, 3) := by decide +kernel
theorem dX7_told_116 : decode cX7_told 116 = .ok (.getfield 152, 3) := by decide +kernel
theorem dX7_told_119 : decode cX7_told 119 = .ok (.ireturn, 1) := by decide +kernel
theorem dX7_told_120 : decode cX7_told 120 = .ok (.aload_n 0, 1) := by decide +kernel
theorem dX7_told_121 : decode cX7_told 121 = .ok (.getfield 26, 3) := by decide +kernel
theorem dX7_told_124 : decode cX7_told 124 = .ok (.getfield 155, 3) := by decide +kernel
theorem dX7_told_127 : decode cX7_told 127 = .ok (.ireturn, 1) := by decide +kernel
theorem dX7_told_128 : decode cX7_told 128 = .ok (.aload_n 0, 1) := by decide +kernel
theorem dX7_told_129 : decode cX7_told 129 = .ok (.getfield 58, 3) := by decide +kernel
theorem dX7_told_132 : decode cX7_told 132 = .ok (.ifCond .eq 7, 3) := by decide +kernel
theorem dX7_told_135 : decode cX7_told 135 = .ok (.iconst 1, 1) := by decide +kernel
theorem dX7_told_136 : decode cX7_told 136 = .ok (.goto 4, 3) := by decide +kernel
theorem dX7_told_139 : decode cX7_told 139 = .ok (.iconst 0, 1) := by decide +kernel
theorem dX7_told_140 : decode cX7_told 140 = .ok (.ireturn, 1) := by decide +kernel
theorem dX7_told_141 : decode cX7_told 141 = .ok (.aload_n 0, 1) := by decide +kernel
theorem dX7_told_142 : decode cX7_told 142 = .ok (.getfield 40, 3) := by decide +kernel
theorem dX7_told_145 : decode cX7_told 145 = .ok (.getfield 158, 3) := by decide +kernel
theorem dX7_told_148 : decode cX7_told 148 = .ok (.ireturn, 1) := by decide +kernel
theorem dX7_told_149 : decode cX7_told 149 = .ok (.ldc 84, 2) := by decide +kernel
theorem dX7_told_151 : decode cX7_told 151 = .ok (.ireturn, 1) := by decide +kernel
set_option maxRecDepth 20000 in
theorem ggX7_mark_X1_isPlace : GoodIn wsX7_mark wsX1_isPlace := goodIn_r _ [5, 6, 7, 8] rfl (by decide +kernel)
set_option maxRecDepth 20000 in
theorem gX7_mark_X1_isPlace : GoodIn wsX7_mark (va_wsS RX7 159 yX1_isPlace wsX1_isPlace) := goodIn_app (goodIn_of _ (by decide +kernel)) ggX7_mark_X1_isPlace
set_option maxRecDepth 20000 in
theorem ggX7_mark_X1_isOffset : GoodIn wsX7_mark wsX1_isOffset := goodIn_r _ [11, 6, 7, 8] rfl (by decide +kernel)
set_option maxRecDepth 20000 in
theorem gX7_mark_X1_isOffset : GoodIn wsX7_mark (va_wsS RX7 162 yX1_isOffset wsX1_isOffset) := goodIn_app (goodIn_of _ (by decide +kernel)) ggX7_mark_X1_isOffset
set_option maxRecDepth 20000 in
theorem ggX7_mark_X1_isFull : GoodIn wsX7_mark wsX1_isFull := goodIn_r _ [15, 16, 40, 41, 42, 43, 44, 45, 46, 47, 48, 49, 50, 51] rfl (by decide +kernel)
set_option maxRecDepth 20000 in
theorem gX7_mark_X1_isFull : GoodIn wsX7_mark (wsV RX7 165 RX1 yX1_isFull wsX1_isFull) := goodIn_app (goodIn_of _ (by decide +kernel)) ggX7_mark_X1_isFull
set_option maxRecDepth 20000 in
theorem ggX7_mark_X1_add : GoodIn wsX7_mark wsX1_add := goodIn_r _ [20, 21, 16, 22, 23, 24, 25, 26, 27, 28, 29, 30, 31, 40, 41, 42, 43, 44, 45, 46, 47, 48, 49, 50, 51] rfl (by decide +kernel)
set_option maxRecDepth 20000 in
theorem gX7_mark_X1_add : GoodIn wsX7_mark (wsV RX7 166 RX1 yX1_add wsX1_add) := goodIn_app (goodIn_of _ (by decide +kernel)) ggX7_mark_X1_add
theorem dX7_mark_0 : decode cX7_mark 0 = .ok (.iload_n 1, 1) := by decide +kernel
theorem dX7_mark_1 : decode cX7_mark 1 = .ok (.invokestatic 159, 3) := by decide +kernel
theorem dX7_mark_4 : decode cX7_mark 4 = .ok (.ifCond .eq 25, 3) := by decide +kernel
theorem dX7_mark_7 : decode cX7_mark 7 = .ok (.iload_n 2, 1) := by decide +kernel
theorem dX7_mark_8 : decode cX7_mark 8 = .ok (.invokestatic 159, 3) := by decide +kernel
theorem dX7_mark_11 : decode cX7_mark 11 = .ok (.ifCond .eq 18, 3) := by decide +kernel
theorem dX7_mark_14 : decode cX7_mark 14 = .ok (.iload_n 3, 1) := by decide +kernel
theorem dX7_mark_15 : decode cX7_mark 15 = .ok (.invokestatic 162, 3) := by decide +kernel
theorem dX7_mark_18 : decode cX7_mark 18 = .ok (.ifCond .eq 11, 3) := by decide +kernel
theorem dX7_mark_21 : decode cX7_mark 21 = .ok (.iload 4, 2) := by decide +kernel
theorem dX7_mark_23 : decode cX7_mark 23 = .ok (.invokestatic 162, 3) := by decide +kernel
theorem dX7_mark_26 : decode cX7_mark 26 = .ok (.ifCond .ne 6, 3) := by decide +kernel
theorem dX7_mark_29 : decode cX7_mark 29 = .ok (.bipush (-2), 2) := by decide +kernel
theorem dX7_mark_31 : decode cX7_mark 31 = .ok (.ireturn, 1) := by decide +kernel
theorem dX7_mark_32 : decode cX7_mark 32 = .ok (.aload_n 0, 1) := by decide +kernel
theorem dX7_mark_33 : decode cX7_mark 33 = .ok (.getfield 47, 3) := by decide +kernel
theorem dX7_mark_36 : decode cX7_mark 36 = .ok (.invokevirtual 165, 3) := by decide +kernel
theorem dX7_mark_39 : decode cX7_mark 39 = .ok (.ifCond .eq 6, 3) := by decide +kernel
theorem dX7_mark_42 : decode cX7_mark 42 = .ok (.bipush (-4), 2) := by decide +kernel
theorem dX7_mark_44 : decode cX7_mark 44 = .ok (.ireturn, 1) := by decide +kernel
theorem dX7_mark_45 : decode cX7_mark 45 = .ok (.aload_n 0, 1) := by decide +kernel
theorem dX7_mark_46 : decode cX7_mark 46 = .ok (.getfield 47, 3) := by decide +kernel
theorem dX7_mark_49 : decode cX7_mark 49 = .ok (.iload_n 1, 1) := by decide +kernel
theorem dX7_mark_50 : decode cX7_mark 50 = .ok (.iload_n 2, 1) := by decide +kernel
theorem dX7_mark_51 : decode cX7_mark 51 = .ok (.iload_n 3, 1) := by decide +kernel
theorem dX7_mark_52 : decode cX7_mark 52 = .ok (.iload 4, 2) := by decide +kernel
theorem dX7_mark_54 : decode cX7_mark 54 = .ok (.invokevirtual 166, 3) := by decide +kernel
theorem dX7_mark_57 : decode cX7_mark 57 = .ok (.ireturn, 1) := by decide +kernel
set_option maxRecDepth 20000 in
theorem ggX7_clear_X1_removeAll : GoodIn wsX7_clear wsX1_removeAll := goodIn_r _ [6, 7, 8, 9, 10, 11, 12, 13, 14, 23, 24, 25, 26, 27, 28, 29, 30, 31, 32, 33, 34] rfl (by decide +kernel)
set_option maxRecDepth 20000 in
theorem gX7_clear_X1_removeAll : GoodIn wsX7_clear (wsV RX7 169 RX1 yX1_removeAll wsX1_removeAll) := goodIn_app (goodIn_of _ (by decide +kernel)) ggX7_clear_X1_removeAll
theorem dX7_clear_0 : decode cX7_clear 0 = .ok (.aload_n 0, 1) := by decide +kernel
theorem dX7_clear_1 : decode cX7_clear 1 = .ok (.getfield 47, 3) := by decide +kernel
theorem dX7_clear_4 : decode cX7_clear 4 = .ok (.invokevirtual 169, 3) := by decide +kernel
theorem dX7_clear_7 : decode cX7_clear 7 = .ok (.ireturn, 1) := by decide +kernel
set_option maxRecDepth 20000 in
theorem ggX7_fit_X7_within : GoodIn wsX7_fit wsX7_within := goodIn_r _ [7] rfl (by decide +kernel)
set_option maxRecDepth 20000 in
theorem gX7_fit_X7_within : GoodIn wsX7_fit (va_wsS RX7 62 yX7_within wsX7_within) := goodIn_app (goodIn_of _ (by decide +kernel)) ggX7_fit_X7_within
set_option maxRecDepth 20000 in
theorem ggX7_fit_X1_isTold : GoodIn wsX7_fit wsX1_isTold := goodIn_r _ [12, 13, 14, 15, 11, 16, 17, 18, 19, 20, 64, 65, 66, 67, 68, 69, 70, 71, 72, 73, 74, 75] rfl (by decide +kernel)
set_option maxRecDepth 20000 in
theorem gX7_fit_X1_isTold : GoodIn wsX7_fit (wsV RX7 174 RX1 yX1_isTold wsX1_isTold) := goodIn_app (goodIn_of _ (by decide +kernel)) ggX7_fit_X1_isTold
set_option maxRecDepth 20000 in
theorem ggX7_fit_X1_upper : GoodIn wsX7_fit wsX1_upper := goodIn_r _ [24, 25, 26, 27, 11, 28, 17, 29, 19, 30, 20, 31, 32, 33, 34, 35, 36, 37, 38, 39, 40, 13, 14, 15, 16, 18, 41, 42, 43, 44, 64, 65, 66, 67, 68, 69, 70, 71, 72, 73, 74, 75] rfl (by decide +kernel)
set_option maxRecDepth 20000 in
theorem gX7_fit_X1_upper : GoodIn wsX7_fit (wsV RX7 179 RX1 yX1_upper wsX1_upper) := goodIn_app (goodIn_of _ (by decide +kernel)) ggX7_fit_X1_upper
set_option maxRecDepth 20000 in
theorem ggX7_fit_X1_lower : GoodIn wsX7_fit wsX1_lower := goodIn_r _ [48, 17, 13, 14, 15, 11, 16, 18, 19, 20, 64, 65, 66, 67, 68, 69, 70, 71, 72, 73, 74, 75] rfl (by decide +kernel)
set_option maxRecDepth 20000 in
theorem gX7_fit_X1_lower : GoodIn wsX7_fit (wsV RX7 183 RX1 yX1_lower wsX1_lower) := goodIn_app (goodIn_of _ (by decide +kernel)) ggX7_fit_X1_lower
set_option maxRecDepth 20000 in
theorem ggX7_fit_X7_commonDivisor : GoodIn wsX7_fit wsX7_commonDivisor := goodIn_r _ [51, 52, 53, 54, 55] rfl (by decide +kernel)
set_option maxRecDepth 20000 in
theorem gX7_fit_X7_commonDivisor : GoodIn wsX7_fit (va_wsS RX7 186 yX7_commonDivisor wsX7_commonDivisor) := goodIn_app (goodIn_of _ (by decide +kernel)) ggX7_fit_X7_commonDivisor
theorem dX7_fit_0 : decode cX7_fit 0 = .ok (.iload_n 1, 1) := by decide +kernel
theorem dX7_fit_1 : decode cX7_fit 1 = .ok (.iconst 0, 1) := by decide +kernel
theorem dX7_fit_2 : decode cX7_fit 2 = .ok (.iconst 3, 1) := by decide +kernel
theorem dX7_fit_3 : decode cX7_fit 3 = .ok (.invokestatic 62, 3) := by decide +kernel
theorem dX7_fit_6 : decode cX7_fit 6 = .ok (.ifCond .eq 12, 3) := by decide +kernel
theorem dX7_fit_9 : decode cX7_fit 9 = .ok (.iload_n 2, 1) := by decide +kernel
theorem dX7_fit_10 : decode cX7_fit 10 = .ok (.iconst 0, 1) := by decide +kernel
theorem dX7_fit_11 : decode cX7_fit 11 = .ok (.iconst 1, 1) := by decide +kernel
theorem dX7_fit_12 : decode cX7_fit 12 = .ok (.invokestatic 62, 3) := by decide +kernel
theorem dX7_fit_15 : decode cX7_fit 15 = .ok (.ifCond .ne 7, 3) := by decide +kernel
theorem dX7_fit_18 : decode cX7_fit 18 = .ok (.ldc2_w 172, 3) := by decide +kernel
theorem dX7_fit_21 : decode cX7_fit 21 = .ok (.lreturn, 1) := by decide +kernel
theorem dX7_fit_22 : decode cX7_fit 22 = .ok (.aload_n 0, 1) := by decide +kernel
theorem dX7_fit_23 : decode cX7_fit 23 = .ok (.getfield 47, 3) := by decide +kernel
theorem dX7_fit_26 : decode cX7_fit 26 = .ok (.invokevirtual 174, 3) := by decide +kernel
theorem dX7_fit_29 : decode cX7_fit 29 = .ok (.ifCond .ne 7, 3) := by decide +kernel
theorem dX7_fit_32 : decode cX7_fit 32 = .ok (.ldc2_w 177, 3) := by decide +kernel
theorem dX7_fit_35 : decode cX7_fit 35 = .ok (.lreturn, 1) := by decide +kernel
theorem dX7_fit_36 : decode cX7_fit 36 = .ok (.aload_n 0, 1) := by decide +kernel
theorem dX7_fit_37 : decode cX7_fit 37 = .ok (.getfield 47, 3) := by decide +kernel
theorem dX7_fit_40 : decode cX7_fit 40 = .ok (.iload_n 1, 1) := by decide +kernel
theorem dX7_fit_41 : decode cX7_fit 41 = .ok (.invokevirtual 179, 3) := by decide +kernel
theorem dX7_fit_44 : decode cX7_fit 44 = .ok (.lstore_n 3, 1) := by decide +kernel
theorem dX7_fit_45 : decode cX7_fit 45 = .ok (.aload_n 0, 1) := by decide +kernel
theorem dX7_fit_46 : decode cX7_fit 46 = .ok (.getfield 47, 3) := by decide +kernel
theorem dX7_fit_49 : decode cX7_fit 49 = .ok (.iload_n 1, 1) := by decide +kernel
theorem dX7_fit_50 : decode cX7_fit 50 = .ok (.invokevirtual 183, 3) := by decide +kernel
theorem dX7_fit_53 : decode cX7_fit 53 = .ok (.lstore 5, 2) := by decide +kernel
theorem dX7_fit_55 : decode cX7_fit 55 = .ok (.lload_n 3, 1) := by decide +kernel
theorem dX7_fit_56 : decode cX7_fit 56 = .ok (.lload 5, 2) := by decide +kernel
theorem dX7_fit_58 : decode cX7_fit 58 = .ok (.invokestatic 186, 3) := by decide +kernel
theorem dX7_fit_61 : decode cX7_fit 61 = .ok (.lstore 7, 2) := by decide +kernel
theorem dX7_fit_63 : decode cX7_fit 63 = .ok (.iload_n 2, 1) := by decide +kernel
theorem dX7_fit_64 : decode cX7_fit 64 = .ok (.ifCond .ne 7, 3) := by decide +kernel
theorem dX7_fit_67 : decode cX7_fit 67 = .ok (.lload_n 3, 1) := by decide +kernel
theorem dX7_fit_68 : decode cX7_fit 68 = .ok (.goto 5, 3) := by decide +kernel
theorem dX7_fit_71 : decode cX7_fit 71 = .ok (.lload 5, 2) := by decide +kernel
theorem dX7_fit_73 : decode cX7_fit 73 = .ok (.lstore 9, 2) := by decide +kernel
theorem dX7_fit_75 : decode cX7_fit 75 = .ok (.lload 7, 2) := by decide +kernel
theorem dX7_fit_77 : decode cX7_fit 77 = .ok (.lconst 0, 1) := by decide +kernel
theorem dX7_fit_78 : decode cX7_fit 78 = .ok (.lcmp, 1) := by decide +kernel
theorem dX7_fit_79 : decode cX7_fit 79 = .ok (.ifCond .le 11, 3) := by decide +kernel
theorem dX7_fit_82 : decode cX7_fit 82 = .ok (.lload 9, 2) := by decide +kernel
theorem dX7_fit_84 : decode cX7_fit 84 = .ok (.lload 7, 2) := by decide +kernel
theorem dX7_fit_86 : decode cX7_fit 86 = .ok (.ldiv, 1) := by decide +kernel
theorem dX7_fit_87 : decode cX7_fit 87 = .ok (.goto 5, 3) := by decide +kernel
theorem dX7_fit_90 : decode cX7_fit 90 = .ok (.lload 9, 2) := by decide +kernel
theorem dX7_fit_92 : decode cX7_fit 92 = .ok (.lreturn, 1) := by decide +kernel
set_option maxRecDepth 20000 in
theorem ggX7_off_X1_has : GoodIn wsX7_off wsX1_has := goodIn_r _ [9, 10, 71, 72, 73, 74, 75, 76, 77, 78, 79, 80, 81, 82] rfl (by decide +kernel)
set_option maxRecDepth 20000 in
theorem gX7_off_X1_has : GoodIn wsX7_off (wsV RX7 190 RX1 yX1_has wsX1_has) := goodIn_app (goodIn_of _ (by decide +kernel)) ggX7_off_X1_has
set_option maxRecDepth 20000 in
theorem ggX7_off_X7_within : GoodIn wsX7_off wsX7_within := goodIn_r _ [14] rfl (by decide +kernel)
set_option maxRecDepth 20000 in
theorem gX7_off_X7_within : GoodIn wsX7_off (va_wsS RX7 62 yX7_within wsX7_within) := goodIn_app (goodIn_of _ (by decide +kernel)) ggX7_off_X7_within
set_option maxRecDepth 20000 in
theorem ggX7_off_X1_isTold : GoodIn wsX7_off wsX1_isTold := goodIn_r _ [18, 19, 20, 21, 8, 22, 10, 23, 24, 25, 71, 72, 73, 74, 75, 76, 77, 78, 79, 80, 81, 82] rfl (by decide +kernel)
set_option maxRecDepth 20000 in
theorem gX7_off_X1_isTold : GoodIn wsX7_off (wsV RX7 174 RX1 yX1_isTold wsX1_isTold) := goodIn_app (goodIn_of _ (by decide +kernel)) ggX7_off_X1_isTold
set_option maxRecDepth 20000 in
theorem ggX7_off_X1_offAcross : GoodIn wsX7_off wsX1_offAcross := goodIn_r _ [29, 10, 30, 31, 32, 33, 34, 35, 8, 36, 37, 24, 38, 25, 39, 40, 41, 42, 43, 44, 45, 46, 47, 48, 19, 20, 21, 22, 23, 49, 50, 51, 52, 53, 71, 72, 73, 74, 75, 76, 77, 78, 79, 80, 81, 82] rfl (by decide +kernel)
set_option maxRecDepth 20000 in
theorem gX7_off_X1_offAcross : GoodIn wsX7_off (wsV RX7 192 RX1 yX1_offAcross wsX1_offAcross) := goodIn_app (goodIn_of _ (by decide +kernel)) ggX7_off_X1_offAcross
set_option maxRecDepth 20000 in
theorem ggX7_off_X1_offUp : GoodIn wsX7_off wsX1_offUp := goodIn_r _ [57, 10, 31, 30, 58, 33, 34, 35, 8, 36, 37, 24, 38, 25, 39, 40, 41, 42, 43, 44, 59, 60, 61, 62, 19, 20, 21, 22, 23, 49, 50, 51, 52, 53, 71, 72, 73, 74, 75, 76, 77, 78, 79, 80, 81, 82] rfl (by decide +kernel)
set_option maxRecDepth 20000 in
theorem gX7_off_X1_offUp : GoodIn wsX7_off (wsV RX7 195 RX1 yX1_offUp wsX1_offUp) := goodIn_app (goodIn_of _ (by decide +kernel)) ggX7_off_X1_offUp
theorem dX7_off_0 : decode cX7_off 0 = .ok (.aload_n 0, 1) := by decide +kernel
theorem dX7_off_1 : decode cX7_off 1 = .ok (.getfield 47, 3) := by decide +kernel
theorem dX7_off_4 : decode cX7_off 4 = .ok (.iload_n 1, 1) := by decide +kernel
theorem dX7_off_5 : decode cX7_off 5 = .ok (.invokevirtual 190, 3) := by decide +kernel
theorem dX7_off_8 : decode cX7_off 8 = .ok (.ifCond .ne 6, 3) := by decide +kernel
theorem dX7_off_11 : decode cX7_off 11 = .ok (.ldc 79, 2) := by decide +kernel
theorem dX7_off_13 : decode cX7_off 13 = .ok (.ireturn, 1) := by decide +kernel
theorem dX7_off_14 : decode cX7_off 14 = .ok (.iload_n 2, 1) := by decide +kernel
theorem dX7_off_15 : decode cX7_off 15 = .ok (.iconst 0, 1) := by decide +kernel
theorem dX7_off_16 : decode cX7_off 16 = .ok (.iconst 1, 1) := by decide +kernel
theorem dX7_off_17 : decode cX7_off 17 = .ok (.invokestatic 62, 3) := by decide +kernel
theorem dX7_off_20 : decode cX7_off 20 = .ok (.ifCond .ne 6, 3) := by decide +kernel
theorem dX7_off_23 : decode cX7_off 23 = .ok (.ldc 84, 2) := by decide +kernel
theorem dX7_off_25 : decode cX7_off 25 = .ok (.ireturn, 1) := by decide +kernel
theorem dX7_off_26 : decode cX7_off 26 = .ok (.aload_n 0, 1) := by decide +kernel
theorem dX7_off_27 : decode cX7_off 27 = .ok (.getfield 47, 3) := by decide +kernel
theorem dX7_off_30 : decode cX7_off 30 = .ok (.invokevirtual 174, 3) := by decide +kernel
theorem dX7_off_33 : decode cX7_off 33 = .ok (.ifCond .ne 6, 3) := by decide +kernel
theorem dX7_off_36 : decode cX7_off 36 = .ok (.ldc 191, 2) := by decide +kernel
theorem dX7_off_38 : decode cX7_off 38 = .ok (.ireturn, 1) := by decide +kernel
theorem dX7_off_39 : decode cX7_off 39 = .ok (.iload_n 2, 1) := by decide +kernel
theorem dX7_off_40 : decode cX7_off 40 = .ok (.ifCond .ne 14, 3) := by decide +kernel
theorem dX7_off_43 : decode cX7_off 43 = .ok (.aload_n 0, 1) := by decide +kernel
theorem dX7_off_44 : decode cX7_off 44 = .ok (.getfield 47, 3) := by decide +kernel
theorem dX7_off_47 : decode cX7_off 47 = .ok (.iload_n 1, 1) := by decide +kernel
theorem dX7_off_48 : decode cX7_off 48 = .ok (.invokevirtual 192, 3) := by decide +kernel
theorem dX7_off_51 : decode cX7_off 51 = .ok (.goto 11, 3) := by decide +kernel
theorem dX7_off_54 : decode cX7_off 54 = .ok (.aload_n 0, 1) := by decide +kernel
theorem dX7_off_55 : decode cX7_off 55 = .ok (.getfield 47, 3) := by decide +kernel
theorem dX7_off_58 : decode cX7_off 58 = .ok (.iload_n 1, 1) := by decide +kernel
theorem dX7_off_59 : decode cX7_off 59 = .ok (.invokevirtual 195, 3) := by decide +kernel
theorem dX7_off_62 : decode cX7_off 62 = .ok (.ireturn, 1) := by decide +kernel
set_option maxRecDepth 20000 in
theorem ggX7_job_X0_isColour : GoodIn wsX7_job wsX0_isColour := goodIn_r _ [5] rfl (by decide +kernel)
set_option maxRecDepth 20000 in
theorem gX7_job_X0_isColour : GoodIn wsX7_job (va_wsS RX7 198 yX0_isColour wsX0_isColour) := goodIn_app (goodIn_of _ (by decide +kernel)) ggX7_job_X0_isColour
set_option maxRecDepth 20000 in
theorem ggX7_job_X0_isPaper : GoodIn wsX7_job wsX0_isPaper := goodIn_r _ [8] rfl (by decide +kernel)
set_option maxRecDepth 20000 in
theorem gX7_job_X0_isPaper : GoodIn wsX7_job (va_wsS RX7 201 yX0_isPaper wsX0_isPaper) := goodIn_app (goodIn_of _ (by decide +kernel)) ggX7_job_X0_isPaper
set_option maxRecDepth 20000 in
theorem ggX7_job_X0_isFull : GoodIn wsX7_job wsX0_isFull := goodIn_r _ [12, 13, 29, 30, 31, 32, 33, 34, 35] rfl (by decide +kernel)
set_option maxRecDepth 20000 in
theorem gX7_job_X0_isFull : GoodIn wsX7_job (wsV RX7 204 RX0 yX0_isFull wsX0_isFull) := goodIn_app (goodIn_of _ (by decide +kernel)) ggX7_job_X0_isFull
set_option maxRecDepth 20000 in
theorem ggX7_job_X0_add : GoodIn wsX7_job wsX0_add := goodIn_r _ [17, 18, 13, 19, 20, 29, 30, 31, 32, 33, 34, 35] rfl (by decide +kernel)
set_option maxRecDepth 20000 in
theorem gX7_job_X0_add : GoodIn wsX7_job (wsV RX7 205 RX0 yX0_add wsX0_add) := goodIn_app (goodIn_of _ (by decide +kernel)) ggX7_job_X0_add
theorem dX7_job_0 : decode cX7_job 0 = .ok (.iload_n 1, 1) := by decide +kernel
theorem dX7_job_1 : decode cX7_job 1 = .ok (.invokestatic 198, 3) := by decide +kernel
theorem dX7_job_4 : decode cX7_job 4 = .ok (.ifCond .eq 10, 3) := by decide +kernel
theorem dX7_job_7 : decode cX7_job 7 = .ok (.iload_n 2, 1) := by decide +kernel
theorem dX7_job_8 : decode cX7_job 8 = .ok (.invokestatic 201, 3) := by decide +kernel
theorem dX7_job_11 : decode cX7_job 11 = .ok (.ifCond .ne 6, 3) := by decide +kernel
theorem dX7_job_14 : decode cX7_job 14 = .ok (.bipush (-2), 2) := by decide +kernel
theorem dX7_job_16 : decode cX7_job 16 = .ok (.ireturn, 1) := by decide +kernel
theorem dX7_job_17 : decode cX7_job 17 = .ok (.aload_n 0, 1) := by decide +kernel
theorem dX7_job_18 : decode cX7_job 18 = .ok (.getfield 54, 3) := by decide +kernel
theorem dX7_job_21 : decode cX7_job 21 = .ok (.invokevirtual 204, 3) := by decide +kernel
theorem dX7_job_24 : decode cX7_job 24 = .ok (.ifCond .eq 6, 3) := by decide +kernel
theorem dX7_job_27 : decode cX7_job 27 = .ok (.bipush (-4), 2) := by decide +kernel
theorem dX7_job_29 : decode cX7_job 29 = .ok (.ireturn, 1) := by decide +kernel
theorem dX7_job_30 : decode cX7_job 30 = .ok (.aload_n 0, 1) := by decide +kernel
theorem dX7_job_31 : decode cX7_job 31 = .ok (.getfield 54, 3) := by decide +kernel
theorem dX7_job_34 : decode cX7_job 34 = .ok (.iload_n 1, 1) := by decide +kernel
theorem dX7_job_35 : decode cX7_job 35 = .ok (.iload_n 2, 1) := by decide +kernel
theorem dX7_job_36 : decode cX7_job 36 = .ok (.invokevirtual 205, 3) := by decide +kernel
theorem dX7_job_39 : decode cX7_job 39 = .ok (.ireturn, 1) := by decide +kernel
set_option maxRecDepth 20000 in
theorem ggX7_forget_X0_removeAll : GoodIn wsX7_forget wsX0_removeAll := goodIn_r _ [6, 7, 8, 17, 18, 19, 20, 21, 22, 23] rfl (by decide +kernel)
set_option maxRecDepth 20000 in
theorem gX7_forget_X0_removeAll : GoodIn wsX7_forget (wsV RX7 206 RX0 yX0_removeAll wsX0_removeAll) := goodIn_app (goodIn_of _ (by decide +kernel)) ggX7_forget_X0_removeAll
theorem dX7_forget_0 : decode cX7_forget 0 = .ok (.aload_n 0, 1) := by decide +kernel
theorem dX7_forget_1 : decode cX7_forget 1 = .ok (.getfield 54, 3) := by decide +kernel
theorem dX7_forget_4 : decode cX7_forget 4 = .ok (.invokevirtual 206, 3) := by decide +kernel
theorem dX7_forget_7 : decode cX7_forget 7 = .ok (.ireturn, 1) := by decide +kernel
set_option maxRecDepth 20000 in
theorem ggX7_wash_X0_isColour : GoodIn wsX7_wash wsX0_isColour := goodIn_r _ [5] rfl (by decide +kernel)
set_option maxRecDepth 20000 in
theorem gX7_wash_X0_isColour : GoodIn wsX7_wash (va_wsS RX7 198 yX0_isColour wsX0_isColour) := goodIn_app (goodIn_of _ (by decide +kernel)) ggX7_wash_X0_isColour
set_option maxRecDepth 20000 in
theorem ggX7_wash_X0_isWashCost : GoodIn wsX7_wash wsX0_isWashCost := goodIn_r _ [8, 9, 10, 11] rfl (by decide +kernel)
set_option maxRecDepth 20000 in
theorem gX7_wash_X0_isWashCost : GoodIn wsX7_wash (va_wsS RX7 207 yX0_isWashCost wsX0_isWashCost) := goodIn_app (goodIn_of _ (by decide +kernel)) ggX7_wash_X0_isWashCost
set_option maxRecDepth 20000 in
theorem ggX7_wash_X0_changeWash : GoodIn wsX7_wash wsX0_changeWash := goodIn_r _ [15, 16, 17, 26, 27, 28, 29, 30, 31, 32] rfl (by decide +kernel)
set_option maxRecDepth 20000 in
theorem gX7_wash_X0_changeWash : GoodIn wsX7_wash (wsV RX7 210 RX0 yX0_changeWash wsX0_changeWash) := goodIn_app (goodIn_of _ (by decide +kernel)) ggX7_wash_X0_changeWash
theorem dX7_wash_0 : decode cX7_wash 0 = .ok (.iload_n 1, 1) := by decide +kernel
theorem dX7_wash_1 : decode cX7_wash 1 = .ok (.invokestatic 198, 3) := by decide +kernel
theorem dX7_wash_4 : decode cX7_wash 4 = .ok (.ifCond .eq 10, 3) := by decide +kernel
theorem dX7_wash_7 : decode cX7_wash 7 = .ok (.iload_n 2, 1) := by decide +kernel
theorem dX7_wash_8 : decode cX7_wash 8 = .ok (.invokestatic 198, 3) := by decide +kernel
theorem dX7_wash_11 : decode cX7_wash 11 = .ok (.ifCond .ne 5, 3) := by decide +kernel
theorem dX7_wash_14 : decode cX7_wash 14 = .ok (.iconst (-1), 1) := by decide +kernel
theorem dX7_wash_15 : decode cX7_wash 15 = .ok (.ireturn, 1) := by decide +kernel
theorem dX7_wash_16 : decode cX7_wash 16 = .ok (.iload_n 3, 1) := by decide +kernel
theorem dX7_wash_17 : decode cX7_wash 17 = .ok (.invokestatic 207, 3) := by decide +kernel
theorem dX7_wash_20 : decode cX7_wash 20 = .ok (.ifCond .ne 6, 3) := by decide +kernel
theorem dX7_wash_23 : decode cX7_wash 23 = .ok (.bipush (-2), 2) := by decide +kernel
theorem dX7_wash_25 : decode cX7_wash 25 = .ok (.ireturn, 1) := by decide +kernel
theorem dX7_wash_26 : decode cX7_wash 26 = .ok (.iload_n 1, 1) := by decide +kernel
theorem dX7_wash_27 : decode cX7_wash 27 = .ok (.iload_n 2, 1) := by decide +kernel
theorem dX7_wash_28 : decode cX7_wash 28 = .ok (.if_icmp .ne 6, 3) := by decide +kernel
theorem dX7_wash_31 : decode cX7_wash 31 = .ok (.bipush (-5), 2) := by decide +kernel
theorem dX7_wash_33 : decode cX7_wash 33 = .ok (.ireturn, 1) := by decide +kernel
theorem dX7_wash_34 : decode cX7_wash 34 = .ok (.aload_n 0, 1) := by decide +kernel
theorem dX7_wash_35 : decode cX7_wash 35 = .ok (.getfield 54, 3) := by decide +kernel
theorem dX7_wash_38 : decode cX7_wash 38 = .ok (.iload_n 1, 1) := by decide +kernel
theorem dX7_wash_39 : decode cX7_wash 39 = .ok (.iload_n 2, 1) := by decide +kernel
theorem dX7_wash_40 : decode cX7_wash 40 = .ok (.iload_n 3, 1) := by decide +kernel
theorem dX7_wash_41 : decode cX7_wash 41 = .ok (.invokevirtual 210, 3) := by decide +kernel
theorem dX7_wash_44 : decode cX7_wash 44 = .ok (.ireturn, 1) := by decide +kernel
set_option maxRecDepth 20000 in
theorem ggX7_order_X0_leastCosts : GoodIn wsX7_order wsX0_leastCosts := goodIn_r _ [6, 7, 8, 9, 10, 5, 11, 12, 13, 14, 15, 16, 17, 18, 19, 20, 21, 22, 23, 24, 25, 26, 27, 28, 29, 30, 31, 32, 33, 34, 35, 36, 45, 46, 47, 48, 49, 50, 51] rfl (by decide +kernel)
set_option maxRecDepth 20000 in
theorem gX7_order_X0_leastCosts : GoodIn wsX7_order (wsV RX7 213 RX0 yX0_leastCosts wsX0_leastCosts) := goodIn_app (goodIn_of _ (by decide +kernel)) ggX7_order_X0_leastCosts
theorem dX7_order_0 : decode cX7_order 0 = .ok (.aload_n 0, 1) := by decide +kernel
theorem dX7_order_1 : decode cX7_order 1 = .ok (.getfield 54, 3) := by decide +kernel
theorem dX7_order_4 : decode cX7_order 4 = .ok (.invokevirtual 213, 3) := by decide +kernel
theorem dX7_order_7 : decode cX7_order 7 = .ok (.ireturn, 1) := by decide +kernel
set_option maxRecDepth 20000 in
theorem ggX7_orderAt_X0_has : GoodIn wsX7_orderAt wsX0_has := goodIn_r _ [6, 7, 49, 50, 51, 52, 53, 54, 55] rfl (by decide +kernel)
set_option maxRecDepth 20000 in
theorem gX7_orderAt_X0_has : GoodIn wsX7_orderAt (wsV RX7 216 RX0 yX0_has wsX0_has) := goodIn_app (goodIn_of _ (by decide +kernel)) ggX7_orderAt_X0_has
set_option maxRecDepth 20000 in
theorem ggX7_orderAt_X0_inOrder : GoodIn wsX7_orderAt wsX0_inOrder := goodIn_r _ [11, 12, 13, 14, 15, 5, 16, 17, 7, 18, 19, 20, 21, 22, 23, 24, 25, 26, 27, 28, 29, 30, 31, 32, 33, 34, 35, 36, 37, 38, 39, 40, 49, 50, 51, 52, 53, 54, 55] rfl (by decide +kernel)
set_option maxRecDepth 20000 in
theorem gX7_orderAt_X0_inOrder : GoodIn wsX7_orderAt (wsV RX7 217 RX0 yX0_inOrder wsX0_inOrder) := goodIn_app (goodIn_of _ (by decide +kernel)) ggX7_orderAt_X0_inOrder
theorem dX7_orderAt_0 : decode cX7_orderAt 0 = .ok (.aload_n 0, 1) := by decide +kernel
theorem dX7_orderAt_1 : decode cX7_orderAt 1 = .ok (.getfield 54, 3) := by decide +kernel
theorem dX7_orderAt_4 : decode cX7_orderAt 4 = .ok (.iload_n 1, 1) := by decide +kernel
theorem dX7_orderAt_5 : decode cX7_orderAt 5 = .ok (.invokevirtual 216, 3) := by decide +kernel
theorem dX7_orderAt_8 : decode cX7_orderAt 8 = .ok (.ifCond .eq 14, 3) := by decide +kernel
theorem dX7_orderAt_11 : decode cX7_orderAt 11 = .ok (.aload_n 0, 1) := by decide +kernel
theorem dX7_orderAt_12 : decode cX7_orderAt 12 = .ok (.getfield 54, 3) := by decide +kernel
theorem dX7_orderAt_15 : decode cX7_orderAt 15 = .ok (.iload_n 1, 1) := by decide +kernel
theorem dX7_orderAt_16 : decode cX7_orderAt 16 = .ok (.invokevirtual 217, 3) := by decide +kernel
theorem dX7_orderAt_19 : decode cX7_orderAt 19 = .ok (.goto 5, 3) := by decide +kernel
theorem dX7_orderAt_22 : decode cX7_orderAt 22 = .ok (.bipush (-6), 2) := by decide +kernel
theorem dX7_orderAt_24 : decode cX7_orderAt 24 = .ok (.ireturn, 1) := by decide +kernel
set_option maxRecDepth 20000 in
theorem ggX7_printSheet_X6_valueOf : GoodIn wsX7_printSheet wsX6_valueOf := goodIn_r _ [13, 14, 74, 75] rfl (by decide +kernel)
set_option maxRecDepth 20000 in
theorem gX7_printSheet_X6_valueOf : GoodIn wsX7_printSheet (wsV RX7 98 RX6 yX6_valueOf wsX6_valueOf) := goodIn_app (goodIn_of _ (by decide +kernel)) ggX7_printSheet_X6_valueOf
set_option maxRecDepth 20000 in
theorem ggX7_printSheet_X3_valueOf : GoodIn wsX7_printSheet wsX3_valueOf := goodIn_r _ [19, 20, 76] rfl (by decide +kernel)
set_option maxRecDepth 20000 in
theorem gX7_printSheet_X3_valueOf : GoodIn wsX7_printSheet (wsV RX7 220 RX3 yX3_valueOf wsX3_valueOf) := goodIn_app (goodIn_of _ (by decide +kernel)) ggX7_printSheet_X3_valueOf
set_option maxRecDepth 20000 in
theorem ggX7_printSheet_X5_feedZone : GoodIn wsX7_printSheet wsX5_feedZone := goodIn_r _ [25, 26, 27, 77, 78, 79, 80, 81, 82] rfl (by decide +kernel)
set_option maxRecDepth 20000 in
theorem gX7_printSheet_X5_feedZone : GoodIn wsX7_printSheet (wsV RX7 222 RX5 yX5_feedZone wsX5_feedZone) := goodIn_app (goodIn_of _ (by decide +kernel)) ggX7_printSheet_X5_feedZone
set_option maxRecDepth 20000 in
theorem ggX7_printSheet_X5_passOn : GoodIn wsX7_printSheet wsX5_passOn := goodIn_r _ [31, 32, 33, 26, 34, 35, 24, 36, 77, 78, 79, 80, 81, 82] rfl (by decide +kernel)
set_option maxRecDepth 20000 in
theorem gX7_printSheet_X5_passOn : GoodIn wsX7_printSheet (wsV RX7 225 RX5 yX5_passOn wsX5_passOn) := goodIn_app (goodIn_of _ (by decide +kernel)) ggX7_printSheet_X5_passOn
set_option maxRecDepth 20000 in
theorem ggX7_printSheet_X5_driftAside : GoodIn wsX7_printSheet wsX5_driftAside := goodIn_r _ [40, 32, 26, 33, 34, 35, 24, 36, 77, 78, 79, 80, 81, 82] rfl (by decide +kernel)
set_option maxRecDepth 20000 in
theorem gX7_printSheet_X5_driftAside : GoodIn wsX7_printSheet (wsV RX7 228 RX5 yX5_driftAside wsX5_driftAside) := goodIn_app (goodIn_of _ (by decide +kernel)) ggX7_printSheet_X5_driftAside
set_option maxRecDepth 20000 in
theorem ggX7_printSheet_X4_begin : GoodIn wsX7_printSheet wsX4_begin := goodIn_r _ [45, 46, 83, 84, 85, 86, 87, 88] rfl (by decide +kernel)
set_option maxRecDepth 20000 in
theorem gX7_printSheet_X4_begin : GoodIn wsX7_printSheet (wsV RX7 231 RX4 yX4_begin wsX4_begin) := goodIn_app (goodIn_of _ (by decide +kernel)) ggX7_printSheet_X4_begin
set_option maxRecDepth 20000 in
theorem ggX7_printSheet_X5_takeOff : GoodIn wsX7_printSheet wsX5_takeOff := goodIn_r _ [50, 32, 26, 51, 52, 34, 35, 24, 36, 77, 78, 79, 80, 81, 82] rfl (by decide +kernel)
set_option maxRecDepth 20000 in
theorem gX7_printSheet_X5_takeOff : GoodIn wsX7_printSheet (wsV RX7 234 RX5 yX5_takeOff wsX5_takeOff) := goodIn_app (goodIn_of _ (by decide +kernel)) ggX7_printSheet_X5_takeOff
set_option maxRecDepth 20000 in
theorem ggX7_printSheet_X4_note : GoodIn wsX7_printSheet wsX4_note := goodIn_r _ [56, 57, 46, 83, 84, 85, 86, 87, 88] rfl (by decide +kernel)
set_option maxRecDepth 20000 in
theorem gX7_printSheet_X4_note : GoodIn wsX7_printSheet (wsV RX7 237 RX4 yX4_note wsX4_note) := goodIn_app (goodIn_of _ (by decide +kernel)) ggX7_printSheet_X4_note
set_option maxRecDepth 20000 in
theorem ggX7_printSheet_X4_judge : GoodIn wsX7_printSheet wsX4_judge := goodIn_r _ [61, 62, 46, 63, 64, 65, 83, 84, 85, 86, 87, 88] rfl (by decide +kernel)
set_option maxRecDepth 20000 in
theorem gX7_printSheet_X4_judge : GoodIn wsX7_printSheet (wsV RX7 245 RX4 yX4_judge wsX4_judge) := goodIn_app (goodIn_of _ (by decide +kernel)) ggX7_printSheet_X4_judge
theorem dX7_printSheet_0 : decode cX7_printSheet 0 = .ok (.iconst 0, 1) := by decide +kernel
theorem dX7_printSheet_1 : decode cX7_printSheet 1 = .ok (.istore_n 1, 1) := by decide +kernel
theorem dX7_printSheet_2 : decode cX7_printSheet 2 = .ok (.iload_n 1, 1) := by decide +kernel
theorem dX7_printSheet_3 : decode cX7_printSheet 3 = .ok (.aload_n 0, 1) := by decide +kernel
theorem dX7_printSheet_4 : decode cX7_printSheet 4 = .ok (.getfield 19, 3) := by decide +kernel
theorem dX7_printSheet_7 : decode cX7_printSheet 7 = .ok (.getfield 138, 3) := by decide +kernel
theorem dX7_printSheet_10 : decode cX7_printSheet 10 = .ok (.if_icmp .ge 35, 3) := by decide +kernel
theorem dX7_printSheet_13 : decode cX7_printSheet 13 = .ok (.aload_n 0, 1) := by decide +kernel
theorem dX7_printSheet_14 : decode cX7_printSheet 14 = .ok (.getfield 26, 3) := by decide +kernel
theorem dX7_printSheet_17 : decode cX7_printSheet 17 = .ok (.iload_n 1, 1) := by decide +kernel
theorem dX7_printSheet_18 : decode cX7_printSheet 18 = .ok (.aload_n 0, 1) := by decide +kernel
theorem dX7_printSheet_19 : decode cX7_printSheet 19 = .ok (.getfield 19, 3) := by decide +kernel
theorem dX7_printSheet_22 : decode cX7_printSheet 22 = .ok (.iload_n 1, 1) := by decide +kernel
theorem dX7_printSheet_23 : decode cX7_printSheet 23 = .ok (.iconst 0, 1) := by decide +kernel
theorem dX7_printSheet_24 : decode cX7_printSheet 24 = .ok (.invokevirtual 98, 3) := by decide +kernel
theorem dX7_printSheet_27 : decode cX7_printSheet 27 = .ok (.aload_n 0, 1) := by decide +kernel
theorem dX7_printSheet_28 : decode cX7_printSheet 28 = .ok (.getfield 10, 3) := by decide +kernel
theorem dX7_printSheet_31 : decode cX7_printSheet 31 = .ok (.iconst 0, 1) := by decide +kernel
theorem dX7_printSheet_32 : decode cX7_printSheet 32 = .ok (.invokevirtual 220, 3) := by decide +kernel
theorem dX7_printSheet_35 : decode cX7_printSheet 35 = .ok (.imul, 1) := by decide +kernel
theorem dX7_printSheet_36 : decode cX7_printSheet 36 = .ok (.invokevirtual 222, 3) := by decide +kernel
theorem dX7_printSheet_39 : decode cX7_printSheet 39 = .ok (.iinc 1 1, 3) := by decide +kernel
theorem dX7_printSheet_42 : decode cX7_printSheet 42 = .ok (.goto (-40), 3) := by decide +kernel
theorem dX7_printSheet_45 : decode cX7_printSheet 45 = .ok (.aload_n 0, 1) := by decide +kernel
theorem dX7_printSheet_46 : decode cX7_printSheet 46 = .ok (.getfield 26, 3) := by decide +kernel
theorem dX7_printSheet_49 : decode cX7_printSheet 49 = .ok (.aload_n 0, 1) := by decide +kernel
theorem dX7_printSheet_50 : decode cX7_printSheet 50 = .ok (.getfield 10, 3) := by decide +kernel
theorem dX7_printSheet_53 : decode cX7_printSheet 53 = .ok (.iconst 1, 1) := by decide +kernel
theorem dX7_printSheet_54 : decode cX7_printSheet 54 = .ok (.invokevirtual 220, 3) := by decide +kernel
theorem dX7_printSheet_57 : decode cX7_printSheet 57 = .ok (.invokevirtual 225, 3) := by decide +kernel
theorem dX7_printSheet_60 : decode cX7_printSheet 60 = .ok (.aload_n 0, 1) := by decide +kernel
theorem dX7_printSheet_61 : decode cX7_printSheet 61 = .ok (.getfield 26, 3) := by decide +kernel
theorem dX7_printSheet_64 : decode cX7_printSheet 64 = .ok (.aload_n 0, 1) := by decide +kernel
theorem dX7_printSheet_65 : decode cX7_printSheet 65 = .ok (.getfield 10, 3) := by decide +kernel
theorem dX7_printSheet_68 : decode cX7_printSheet 68 = .ok (.iconst 2, 1) := by decide +kernel
theorem dX7_printSheet_69 : decode cX7_printSheet 69 = .ok (.invokevirtual 220, 3) := by decide +kernel
theorem dX7_printSheet_72 : decode cX7_printSheet 72 = .ok (.invokevirtual 228, 3) := by decide +kernel
theorem dX7_printSheet_75 : decode cX7_printSheet 75 = .ok (.aload_n 0, 1) := by decide +kernel
theorem dX7_printSheet_76 : decode cX7_printSheet 76 = .ok (.getfield 33, 3) := by decide +kernel
theorem dX7_printSheet_79 : decode cX7_printSheet 79 = .ok (.invokevirtual 231, 3) := by decide +kernel
theorem dX7_printSheet_82 : decode cX7_printSheet 82 = .ok (.iconst 1, 1) := by decide +kernel
theorem dX7_printSheet_83 : decode cX7_printSheet 83 = .ok (.istore_n 1, 1) := by decide +kernel
theorem dX7_printSheet_84 : decode cX7_printSheet 84 = .ok (.iconst 0, 1) := by decide +kernel
theorem dX7_printSheet_85 : decode cX7_printSheet 85 = .ok (.istore_n 2, 1) := by decide +kernel
theorem dX7_printSheet_86 : decode cX7_printSheet 86 = .ok (.iload_n 2, 1) := by decide +kernel
theorem dX7_printSheet_87 : decode cX7_printSheet 87 = .ok (.aload_n 0, 1) := by decide +kernel
theorem dX7_printSheet_88 : decode cX7_printSheet 88 = .ok (.getfield 19, 3) := by decide +kernel
theorem dX7_printSheet_91 : decode cX7_printSheet 91 = .ok (.getfield 138, 3) := by decide +kernel
theorem dX7_printSheet_94 : decode cX7_printSheet 94 = .ok (.if_icmp .ge 87, 3) := by decide +kernel
theorem dX7_printSheet_97 : decode cX7_printSheet 97 = .ok (.bipush 10, 2) := by decide +kernel
theorem dX7_printSheet_99 : decode cX7_printSheet 99 = .ok (.aload_n 0, 1) := by decide +kernel
theorem dX7_printSheet_100 : decode cX7_printSheet 100 = .ok (.getfield 26, 3) := by decide +kernel
theorem dX7_printSheet_103 : decode cX7_printSheet 103 = .ok (.iload_n 2, 1) := by decide +kernel
theorem dX7_printSheet_104 : decode cX7_printSheet 104 = .ok (.aload_n 0, 1) := by decide +kernel
theorem dX7_printSheet_105 : decode cX7_printSheet 105 = .ok (.getfield 10, 3) := by decide +kernel
theorem dX7_printSheet_108 : decode cX7_printSheet 108 = .ok (.iconst 3, 1) := by decide +kernel
theorem dX7_printSheet_109 : decode cX7_printSheet 109 = .ok (.invokevirtual 220, 3) := by decide +kernel
theorem dX7_printSheet_112 : decode cX7_printSheet 112 = .ok (.aload_n 0, 1) := by decide +kernel
theorem dX7_printSheet_113 : decode cX7_printSheet 113 = .ok (.getfield 19, 3) := by decide +kernel
theorem dX7_printSheet_116 : decode cX7_printSheet 116 = .ok (.iload_n 2, 1) := by decide +kernel
theorem dX7_printSheet_117 : decode cX7_printSheet 117 = .ok (.iconst 1, 1) := by decide +kernel
theorem dX7_printSheet_118 : decode cX7_printSheet 118 = .ok (.invokevirtual 98, 3) := by decide +kernel
theorem dX7_printSheet_121 : decode cX7_printSheet 121 = .ok (.invokevirtual 234, 3) := by decide +kernel
theorem dX7_printSheet_124 : decode cX7_printSheet 124 = .ok (.imul, 1) := by decide +kernel
theorem dX7_printSheet_125 : decode cX7_printSheet 125 = .ok (.istore_n 3, 1) := by decide +kernel
theorem dX7_printSheet_126 : decode cX7_printSheet 126 = .ok (.aload_n 0, 1) := by decide +kernel
theorem dX7_printSheet_127 : decode cX7_printSheet 127 = .ok (.getfield 33, 3) := by decide +kernel
theorem dX7_printSheet_130 : decode cX7_printSheet 130 = .ok (.iload_n 2, 1) := by decide +kernel
theorem dX7_printSheet_131 : decode cX7_printSheet 131 = .ok (.iload_n 3, 1) := by decide +kernel
theorem dX7_printSheet_132 : decode cX7_printSheet 132 = .ok (.invokevirtual 237, 3) := by decide +kernel
theorem dX7_printSheet_135 : decode cX7_printSheet 135 = .ok (.iload_n 3, 1) := by decide +kernel
theorem dX7_printSheet_136 : decode cX7_printSheet 136 = .ok (.aload_n 0, 1) := by decide +kernel
theorem dX7_printSheet_137 : decode cX7_printSheet 137 = .ok (.getfield 19, 3) := by decide +kernel
theorem dX7_printSheet_140 : decode cX7_printSheet 140 = .ok (.iload_n 2, 1) := by decide +kernel
theorem dX7_printSheet_141 : decode cX7_printSheet 141 = .ok (.iconst 2, 1) := by decide +kernel
theorem dX7_printSheet_142 : decode cX7_printSheet 142 = .ok (.invokevirtual 98, 3) := by decide +kernel
theorem dX7_printSheet_145 : decode cX7_printSheet 145 = .ok (.isub, 1) := by decide +kernel
theorem dX7_printSheet_146 : decode cX7_printSheet 146 = .ok (.invokestatic 240, 3) := by decide +kernel
theorem dX7_printSheet_149 : decode cX7_printSheet 149 = .ok (.istore 4, 2) := by decide +kernel
theorem dX7_printSheet_151 : decode cX7_printSheet 151 = .ok (.iload_n 1, 1) := by decide +kernel
theorem dX7_printSheet_152 : decode cX7_printSheet 152 = .ok (.ifCond .eq 21, 3) := by decide +kernel
theorem dX7_printSheet_155 : decode cX7_printSheet 155 = .ok (.iload 4, 2) := by decide +kernel
theorem dX7_printSheet_157 : decode cX7_printSheet 157 = .ok (.aload_n 0, 1) := by decide +kernel
theorem dX7_printSheet_158 : decode cX7_printSheet 158 = .ok (.getfield 10, 3) := by decide +kernel
theorem dX7_printSheet_161 : decode cX7_printSheet 161 = .ok (.bipush 6, 2) := by decide +kernel
theorem dX7_printSheet_163 : decode cX7_printSheet 163 = .ok (.invokevirtual 220, 3) := by decide +kernel
theorem dX7_printSheet_166 : decode cX7_printSheet 166 = .ok (.if_icmp .gt 7, 3) := by decide +kernel
theorem dX7_printSheet_169 : decode cX7_printSheet 169 = .ok (.iconst 1, 1) := by decide +kernel
theorem dX7_printSheet_170 : decode cX7_printSheet 170 = .ok (.goto 4, 3) := by decide +kernel
theorem dX7_printSheet_173 : decode cX7_printSheet 173 = .ok (.iconst 0, 1) := by decide +kernel
theorem dX7_printSheet_174 : decode cX7_printSheet 174 = .ok (.istore_n 1, 1) := by decide +kernel
theorem dX7_printSheet_175 : decode cX7_printSheet 175 = .ok (.iinc 2 1, 3) := by decide +kernel
theorem dX7_printSheet_178 : decode cX7_printSheet 178 = .ok (.goto (-92), 3) := by decide +kernel
theorem dX7_printSheet_181 : decode cX7_printSheet 181 = .ok (.aload_n 0, 1) := by decide +kernel
theorem dX7_printSheet_182 : decode cX7_printSheet 182 = .ok (.getfield 33, 3) := by decide +kernel
theorem dX7_printSheet_185 : decode cX7_printSheet 185 = .ok (.iload_n 1, 1) := by decide +kernel
theorem dX7_printSheet_186 : decode cX7_printSheet 186 = .ok (.aload_n 0, 1) := by decide +kernel
theorem dX7_printSheet_187 : decode cX7_printSheet 187 = .ok (.getfield 10, 3) := by decide +kernel
theorem dX7_printSheet_190 : decode cX7_printSheet 190 = .ok (.bipush 8, 2) := by decide +kernel
theorem dX7_printSheet_192 : decode cX7_printSheet 192 = .ok (.invokevirtual 220, 3) := by decide +kernel
theorem dX7_printSheet_195 : decode cX7_printSheet 195 = .ok (.invokevirtual 245, 3) := by decide +kernel
theorem dX7_printSheet_198 : decode cX7_printSheet 198 = .ok (.return_, 1) := by decide +kernel
set_option maxRecDepth 20000 in
theorem ggX7_isSteeringDue_X3_valueOf : GoodIn wsX7_isSteeringDue wsX3_valueOf := goodIn_r _ [7, 8, 23] rfl (by decide +kernel)
set_option maxRecDepth 20000 in
theorem gX7_isSteeringDue_X3_valueOf : GoodIn wsX7_isSteeringDue (wsV RX7 220 RX3 yX3_valueOf wsX3_valueOf) := goodIn_app (goodIn_of _ (by decide +kernel)) ggX7_isSteeringDue_X3_valueOf
theorem dX7_isSteeringDue_0 : decode cX7_isSteeringDue 0 = .ok (.aload_n 0, 1) := by decide +kernel
theorem dX7_isSteeringDue_1 : decode cX7_isSteeringDue 1 = .ok (.getfield 10, 3) := by decide +kernel
theorem dX7_isSteeringDue_4 : decode cX7_isSteeringDue 4 = .ok (.bipush 7, 2) := by decide +kernel
theorem dX7_isSteeringDue_6 : decode cX7_isSteeringDue 6 = .ok (.invokevirtual 220, 3) := by decide +kernel
theorem dX7_isSteeringDue_9 : decode cX7_isSteeringDue 9 = .ok (.istore_n 1, 1) := by decide +kernel
theorem dX7_isSteeringDue_10 : decode cX7_isSteeringDue 10 = .ok (.iload_n 1, 1) := by decide +kernel
theorem dX7_isSteeringDue_11 : decode cX7_isSteeringDue 11 = .ok (.ifCond .le 19, 3) := by decide +kernel
theorem dX7_isSteeringDue_14 : decode cX7_isSteeringDue 14 = .ok (.aload_n 0, 1) := by decide +kernel
theorem dX7_isSteeringDue_15 : decode cX7_isSteeringDue 15 = .ok (.getfield 33, 3) := by decide +kernel
theorem dX7_isSteeringDue_18 : decode cX7_isSteeringDue 18 = .ok (.getfield 105, 3) := by decide +kernel
theorem dX7_isSteeringDue_21 : decode cX7_isSteeringDue 21 = .ok (.iload_n 1, 1) := by decide +kernel
theorem dX7_isSteeringDue_22 : decode cX7_isSteeringDue 22 = .ok (.irem, 1) := by decide +kernel
theorem dX7_isSteeringDue_23 : decode cX7_isSteeringDue 23 = .ok (.ifCond .ne 7, 3) := by decide +kernel
theorem dX7_isSteeringDue_26 : decode cX7_isSteeringDue 26 = .ok (.iconst 1, 1) := by decide +kernel
theorem dX7_isSteeringDue_27 : decode cX7_isSteeringDue 27 = .ok (.goto 4, 3) := by decide +kernel
theorem dX7_isSteeringDue_30 : decode cX7_isSteeringDue 30 = .ok (.iconst 0, 1) := by decide +kernel
theorem dX7_isSteeringDue_31 : decode cX7_isSteeringDue 31 = .ok (.ireturn, 1) := by decide +kernel
set_option maxRecDepth 20000 in
theorem ggX7_steerKeys_X3_valueOf : GoodIn wsX7_steerKeys wsX3_valueOf := goodIn_r _ [8, 9, 52] rfl (by decide +kernel)
set_option maxRecDepth 20000 in
theorem gX7_steerKeys_X3_valueOf : GoodIn wsX7_steerKeys (wsV RX7 220 RX3 yX3_valueOf wsX3_valueOf) := goodIn_app (goodIn_of _ (by decide +kernel)) ggX7_steerKeys_X3_valueOf
set_option maxRecDepth 20000 in
theorem ggX7_steerKeys_X6_valueOf : GoodIn wsX7_steerKeys wsX6_valueOf := goodIn_r _ [14, 15, 50, 51] rfl (by decide +kernel)
set_option maxRecDepth 20000 in
theorem gX7_steerKeys_X6_valueOf : GoodIn wsX7_steerKeys (wsV RX7 98 RX6 yX6_valueOf wsX6_valueOf) := goodIn_app (goodIn_of _ (by decide +kernel)) ggX7_steerKeys_X6_valueOf
set_option maxRecDepth 20000 in
theorem ggX7_steerKeys_X4_latestDensity : GoodIn wsX7_steerKeys wsX4_latestDensity := goodIn_r _ [20, 21, 22, 23, 24, 19, 25, 26, 53, 54, 55, 56, 57, 58] rfl (by decide +kernel)
set_option maxRecDepth 20000 in
theorem gX7_steerKeys_X4_latestDensity : GoodIn wsX7_steerKeys (wsV RX7 94 RX4 yX4_latestDensity wsX4_latestDensity) := goodIn_app (goodIn_of _ (by decide +kernel)) ggX7_steerKeys_X4_latestDensity
set_option maxRecDepth 20000 in
theorem ggX7_steerKeys_X7_held : GoodIn wsX7_steerKeys wsX7_held := goodIn_r _ [30, 31, 32, 33, 34, 35, 36, 37] rfl (by decide +kernel)
set_option maxRecDepth 20000 in
theorem gX7_steerKeys_X7_held : GoodIn wsX7_steerKeys (va_wsS RX7 249 yX7_held wsX7_held) := goodIn_app (goodIn_of _ (by decide +kernel)) ggX7_steerKeys_X7_held
set_option maxRecDepth 20000 in
theorem ggX7_steerKeys_X6_change : GoodIn wsX7_steerKeys wsX6_change := goodIn_r _ [41, 15, 50, 51] rfl (by decide +kernel)
set_option maxRecDepth 20000 in
theorem gX7_steerKeys_X6_change : GoodIn wsX7_steerKeys (wsV RX7 91 RX6 yX6_change wsX6_change) := goodIn_app (goodIn_of _ (by decide +kernel)) ggX7_steerKeys_X6_change
theorem dX7_steerKeys_0 : decode cX7_steerKeys 0 = .ok (.aload_n 0, 1) := by decide +kernel
theorem dX7_steerKeys_1 : decode cX7_steerKeys 1 = .ok (.getfield 10, 3) := by decide +kernel
theorem dX7_steerKeys_4 : decode cX7_steerKeys 4 = .ok (.iconst 5, 1) := by decide +kernel
theorem dX7_steerKeys_5 : decode cX7_steerKeys 5 = .ok (.invokevirtual 220, 3) := by decide +kernel
theorem dX7_steerKeys_8 : decode cX7_steerKeys 8 = .ok (.istore_n 1, 1) := by decide +kernel
theorem dX7_steerKeys_9 : decode cX7_steerKeys 9 = .ok (.iconst 0, 1) := by decide +kernel
theorem dX7_steerKeys_10 : decode cX7_steerKeys 10 = .ok (.istore_n 2, 1) := by decide +kernel
theorem dX7_steerKeys_11 : decode cX7_steerKeys 11 = .ok (.iload_n 2, 1) := by decide +kernel
theorem dX7_steerKeys_12 : decode cX7_steerKeys 12 = .ok (.aload_n 0, 1) := by decide +kernel
theorem dX7_steerKeys_13 : decode cX7_steerKeys 13 = .ok (.getfield 19, 3) := by decide +kernel
theorem dX7_steerKeys_16 : decode cX7_steerKeys 16 = .ok (.getfield 138, 3) := by decide +kernel
theorem dX7_steerKeys_19 : decode cX7_steerKeys 19 = .ok (.if_icmp .ge 80, 3) := by decide +kernel
theorem dX7_steerKeys_22 : decode cX7_steerKeys 22 = .ok (.aload_n 0, 1) := by decide +kernel
theorem dX7_steerKeys_23 : decode cX7_steerKeys 23 = .ok (.getfield 19, 3) := by decide +kernel
theorem dX7_steerKeys_26 : decode cX7_steerKeys 26 = .ok (.iload_n 2, 1) := by decide +kernel
theorem dX7_steerKeys_27 : decode cX7_steerKeys 27 = .ok (.iconst 2, 1) := by decide +kernel
theorem dX7_steerKeys_28 : decode cX7_steerKeys 28 = .ok (.invokevirtual 98, 3) := by decide +kernel
theorem dX7_steerKeys_31 : decode cX7_steerKeys 31 = .ok (.aload_n 0, 1) := by decide +kernel
theorem dX7_steerKeys_32 : decode cX7_steerKeys 32 = .ok (.getfield 33, 3) := by decide +kernel
theorem dX7_steerKeys_35 : decode cX7_steerKeys 35 = .ok (.iload_n 2, 1) := by decide +kernel
theorem dX7_steerKeys_36 : decode cX7_steerKeys 36 = .ok (.invokevirtual 94, 3) := by decide +kernel
theorem dX7_steerKeys_39 : decode cX7_steerKeys 39 = .ok (.isub, 1) := by decide +kernel
theorem dX7_steerKeys_40 : decode cX7_steerKeys 40 = .ok (.istore_n 3, 1) := by decide +kernel
theorem dX7_steerKeys_41 : decode cX7_steerKeys 41 = .ok (.iload_n 3, 1) := by decide +kernel
theorem dX7_steerKeys_42 : decode cX7_steerKeys 42 = .ok (.aload_n 0, 1) := by decide +kernel
theorem dX7_steerKeys_43 : decode cX7_steerKeys 43 = .ok (.getfield 10, 3) := by decide +kernel
theorem dX7_steerKeys_46 : decode cX7_steerKeys 46 = .ok (.iconst 4, 1) := by decide +kernel
theorem dX7_steerKeys_47 : decode cX7_steerKeys 47 = .ok (.invokevirtual 220, 3) := by decide +kernel
theorem dX7_steerKeys_50 : decode cX7_steerKeys 50 = .ok (.imul, 1) := by decide +kernel
theorem dX7_steerKeys_51 : decode cX7_steerKeys 51 = .ok (.sipush 1000, 3) := by decide +kernel
theorem dX7_steerKeys_54 : decode cX7_steerKeys 54 = .ok (.idiv, 1) := by decide +kernel
theorem dX7_steerKeys_55 : decode cX7_steerKeys 55 = .ok (.i2l, 1) := by decide +kernel
theorem dX7_steerKeys_56 : decode cX7_steerKeys 56 = .ok (.iload_n 1, 1) := by decide +kernel
theorem dX7_steerKeys_57 : decode cX7_steerKeys 57 = .ok (.ineg, 1) := by decide +kernel
theorem dX7_steerKeys_58 : decode cX7_steerKeys 58 = .ok (.iload_n 1, 1) := by decide +kernel
theorem dX7_steerKeys_59 : decode cX7_steerKeys 59 = .ok (.invokestatic 249, 3) := by decide +kernel
theorem dX7_steerKeys_62 : decode cX7_steerKeys 62 = .ok (.istore 4, 2) := by decide +kernel
theorem dX7_steerKeys_64 : decode cX7_steerKeys 64 = .ok (.aload_n 0, 1) := by decide +kernel
theorem dX7_steerKeys_65 : decode cX7_steerKeys 65 = .ok (.getfield 19, 3) := by decide +kernel
theorem dX7_steerKeys_68 : decode cX7_steerKeys 68 = .ok (.iload_n 2, 1) := by decide +kernel
theorem dX7_steerKeys_69 : decode cX7_steerKeys 69 = .ok (.iconst 0, 1) := by decide +kernel
theorem dX7_steerKeys_70 : decode cX7_steerKeys 70 = .ok (.aload_n 0, 1) := by decide +kernel
theorem dX7_steerKeys_71 : decode cX7_steerKeys 71 = .ok (.getfield 19, 3) := by decide +kernel
theorem dX7_steerKeys_74 : decode cX7_steerKeys 74 = .ok (.iload_n 2, 1) := by decide +kernel
theorem dX7_steerKeys_75 : decode cX7_steerKeys 75 = .ok (.iconst 0, 1) := by decide +kernel
theorem dX7_steerKeys_76 : decode cX7_steerKeys 76 = .ok (.invokevirtual 98, 3) := by decide +kernel
theorem dX7_steerKeys_79 : decode cX7_steerKeys 79 = .ok (.iload 4, 2) := by decide +kernel
theorem dX7_steerKeys_81 : decode cX7_steerKeys 81 = .ok (.iadd, 1) := by decide +kernel
theorem dX7_steerKeys_82 : decode cX7_steerKeys 82 = .ok (.i2l, 1) := by decide +kernel
theorem dX7_steerKeys_83 : decode cX7_steerKeys 83 = .ok (.iconst 0, 1) := by decide +kernel
theorem dX7_steerKeys_84 : decode cX7_steerKeys 84 = .ok (.bipush 100, 2) := by decide +kernel
theorem dX7_steerKeys_86 : decode cX7_steerKeys 86 = .ok (.invokestatic 249, 3) := by decide +kernel
theorem dX7_steerKeys_89 : decode cX7_steerKeys 89 = .ok (.invokevirtual 91, 3) := by decide +kernel
theorem dX7_steerKeys_92 : decode cX7_steerKeys 92 = .ok (.pop, 1) := by decide +kernel
theorem dX7_steerKeys_93 : decode cX7_steerKeys 93 = .ok (.iinc 2 1, 3) := by decide +kernel
theorem dX7_steerKeys_96 : decode cX7_steerKeys 96 = .ok (.goto (-85), 3) := by decide +kernel
theorem dX7_steerKeys_99 : decode cX7_steerKeys 99 = .ok (.return_, 1) := by decide +kernel
theorem dX7_within_0 : decode cX7_within 0 = .ok (.iload_n 0, 1) := by decide +kernel
theorem dX7_within_1 : decode cX7_within 1 = .ok (.iload_n 1, 1) := by decide +kernel
theorem dX7_within_2 : decode cX7_within 2 = .ok (.if_icmp .lt 12, 3) := by decide +kernel
theorem dX7_within_5 : decode cX7_within 5 = .ok (.iload_n 0, 1) := by decide +kernel
theorem dX7_within_6 : decode cX7_within 6 = .ok (.iload_n 2, 1) := by decide +kernel
theorem dX7_within_7 : decode cX7_within 7 = .ok (.if_icmp .gt 7, 3) := by decide +kernel
theorem dX7_within_10 : decode cX7_within 10 = .ok (.iconst 1, 1) := by decide +kernel
theorem dX7_within_11 : decode cX7_within 11 = .ok (.goto 4, 3) := by decide +kernel
theorem dX7_within_14 : decode cX7_within 14 = .ok (.iconst 0, 1) := by decide +kernel
theorem dX7_within_15 : decode cX7_within 15 = .ok (.ireturn, 1) := by decide +kernel
theorem dX7_held_0 : decode cX7_held 0 = .ok (.iload_n 2, 1) := by decide +kernel
theorem dX7_held_1 : decode cX7_held 1 = .ok (.i2l, 1) := by decide +kernel
theorem dX7_held_2 : decode cX7_held 2 = .ok (.iload_n 3, 1) := by decide +kernel
theorem dX7_held_3 : decode cX7_held 3 = .ok (.i2l, 1) := by decide +kernel
theorem dX7_held_4 : decode cX7_held 4 = .ok (.lload_n 0, 1) := by decide +kernel
theorem dX7_held_5 : decode cX7_held 5 = .ok (.invokestatic 253, 3) := by decide +kernel
theorem dX7_held_8 : decode cX7_held 8 = .ok (.invokestatic 256, 3) := by decide +kernel
theorem dX7_held_11 : decode cX7_held 11 = .ok (.l2i, 1) := by decide +kernel
theorem dX7_held_12 : decode cX7_held 12 = .ok (.ireturn, 1) := by decide +kernel
theorem dX7_commonDivisor_0 : decode cX7_commonDivisor 0 = .ok (.lload_n 0, 1) := by decide +kernel
theorem dX7_commonDivisor_1 : decode cX7_commonDivisor 1 = .ok (.invokestatic 259, 3) := by decide +kernel
theorem dX7_commonDivisor_4 : decode cX7_commonDivisor 4 = .ok (.lstore 4, 2) := by decide +kernel
theorem dX7_commonDivisor_6 : decode cX7_commonDivisor 6 = .ok (.lload_n 2, 1) := by decide +kernel
theorem dX7_commonDivisor_7 : decode cX7_commonDivisor 7 = .ok (.invokestatic 259, 3) := by decide +kernel
theorem dX7_commonDivisor_10 : decode cX7_commonDivisor 10 = .ok (.lstore 6, 2) := by decide +kernel
theorem dX7_commonDivisor_12 : decode cX7_commonDivisor 12 = .ok (.iconst 0, 1) := by decide +kernel
theorem dX7_commonDivisor_13 : decode cX7_commonDivisor 13 = .ok (.istore 8, 2) := by decide +kernel
theorem dX7_commonDivisor_15 : decode cX7_commonDivisor 15 = .ok (.iload 8, 2) := by decide +kernel
theorem dX7_commonDivisor_17 : decode cX7_commonDivisor 17 = .ok (.bipush 100, 2) := by decide +kernel
theorem dX7_commonDivisor_19 : decode cX7_commonDivisor 19 = .ok (.if_icmp .ge 31, 3) := by decide +kernel
theorem dX7_commonDivisor_22 : decode cX7_commonDivisor 22 = .ok (.lload 6, 2) := by decide +kernel
theorem dX7_commonDivisor_24 : decode cX7_commonDivisor 24 = .ok (.lconst 0, 1) := by decide +kernel
theorem dX7_commonDivisor_25 : decode cX7_commonDivisor 25 = .ok (.lcmp, 1) := by decide +kernel
theorem dX7_commonDivisor_26 : decode cX7_commonDivisor 26 = .ok (.ifCond .eq 24, 3) := by decide +kernel
theorem dX7_commonDivisor_29 : decode cX7_commonDivisor 29 = .ok (.lload 4, 2) := by decide +kernel
theorem dX7_commonDivisor_31 : decode cX7_commonDivisor 31 = .ok (.lload 6, 2) := by decide +kernel
theorem dX7_commonDivisor_33 : decode cX7_commonDivisor 33 = .ok (.lrem, 1) := by decide +kernel
theorem dX7_commonDivisor_34 : decode cX7_commonDivisor 34 = .ok (.lstore 9, 2) := by decide +kernel
theorem dX7_commonDivisor_36 : decode cX7_commonDivisor 36 = .ok (.lload 6, 2) := by decide +kernel
theorem dX7_commonDivisor_38 : decode cX7_commonDivisor 38 = .ok (.lstore 4, 2) := by decide +kernel
theorem dX7_commonDivisor_40 : decode cX7_commonDivisor 40 = .ok (.lload 9, 2) := by decide +kernel
theorem dX7_commonDivisor_42 : decode cX7_commonDivisor 42 = .ok (.lstore 6, 2) := by decide +kernel
theorem dX7_commonDivisor_44 : decode cX7_commonDivisor 44 = .ok (.iinc 8 1, 3) := by decide +kernel
theorem dX7_commonDivisor_47 : decode cX7_commonDivisor 47 = .ok (.goto (-32), 3) := by decide +kernel
theorem dX7_commonDivisor_50 : decode cX7_commonDivisor 50 = .ok (.lload 4, 2) := by decide +kernel
theorem dX7_commonDivisor_52 : decode cX7_commonDivisor 52 = .ok (.lreturn, 1) := by decide +kernel
set_option maxRecDepth 20000 in
theorem ggX8_init_X8_begin : GoodIn wsX8_init wsX8_begin := goodIn_r _ [32, 8, 9, 10, 11, 33, 34, 35, 15, 36, 37, 38, 39, 40, 41, 42, 43, 44, 45, 46, 47, 48, 49, 50, 51, 52, 53, 54, 55, 56, 57, 58, 59, 60, 61, 62, 63, 64, 65, 66, 67, 68, 69, 70, 71, 72, 73, 74, 75, 76] rfl (by decide +kernel)
set_option maxRecDepth 20000 in
theorem gX8_init_X8_begin : GoodIn wsX8_init (wsV RX8 78 RX8 yX8_begin wsX8_begin) := goodIn_app (goodIn_of _ (by decide +kernel)) ggX8_init_X8_begin
theorem dX8_init_0 : decode cX8_init 0 = .ok (.aload_n 0, 1) := by decide +kernel
theorem dX8_init_1 : decode cX8_init 1 = .ok (.invokespecial 1, 3) := by decide +kernel
theorem dX8_init_4 : decode cX8_init 4 = .ok (.aload_n 0, 1) := by decide +kernel
theorem dX8_init_5 : decode cX8_init 5 = .ok (.iconst 4, 1) := by decide +kernel
theorem dX8_init_6 : decode cX8_init 6 = .ok (.putfield 7, 3) := by decide +kernel
theorem dX8_init_9 : decode cX8_init 9 = .ok (.aload_n 0, 1) := by decide +kernel
theorem dX8_init_10 : decode cX8_init 10 = .ok (.iconst 3, 1) := by decide +kernel
theorem dX8_init_11 : decode cX8_init 11 = .ok (.putfield 13, 3) := by decide +kernel
theorem dX8_init_14 : decode cX8_init 14 = .ok (.aload_n 0, 1) := by decide +kernel
theorem dX8_init_15 : decode cX8_init 15 = .ok (.bipush 9, 2) := by decide +kernel
theorem dX8_init_17 : decode cX8_init 17 = .ok (.newarray .int, 2) := by decide +kernel
theorem dX8_init_19 : decode cX8_init 19 = .ok (.putfield 16, 3) := by decide +kernel
theorem dX8_init_22 : decode cX8_init 22 = .ok (.aload_n 0, 1) := by decide +kernel
theorem dX8_init_23 : decode cX8_init 23 = .ok (.bipush 8, 2) := by decide +kernel
theorem dX8_init_25 : decode cX8_init 25 = .ok (.newarray .int, 2) := by decide +kernel
theorem dX8_init_27 : decode cX8_init 27 = .ok (.putfield 20, 3) := by decide +kernel
theorem dX8_init_30 : decode cX8_init 30 = .ok (.aload_n 0, 1) := by decide +kernel
theorem dX8_init_31 : decode cX8_init 31 = .ok (.bipush 8, 2) := by decide +kernel
theorem dX8_init_33 : decode cX8_init 33 = .ok (.newarray .int, 2) := by decide +kernel
theorem dX8_init_35 : decode cX8_init 35 = .ok (.putfield 23, 3) := by decide +kernel
theorem dX8_init_38 : decode cX8_init 38 = .ok (.aload_n 0, 1) := by decide +kernel
theorem dX8_init_39 : decode cX8_init 39 = .ok (.bipush 8, 2) := by decide +kernel
theorem dX8_init_41 : decode cX8_init 41 = .ok (.newarray .int, 2) := by decide +kernel
theorem dX8_init_43 : decode cX8_init 43 = .ok (.putfield 26, 3) := by decide +kernel
theorem dX8_init_46 : decode cX8_init 46 = .ok (.aload_n 0, 1) := by decide +kernel
theorem dX8_init_47 : decode cX8_init 47 = .ok (.bipush 40, 2) := by decide +kernel
theorem dX8_init_49 : decode cX8_init 49 = .ok (.newarray .int, 2) := by decide +kernel
theorem dX8_init_51 : decode cX8_init 51 = .ok (.putfield 29, 3) := by decide +kernel
theorem dX8_init_54 : decode cX8_init 54 = .ok (.aload_n 0, 1) := by decide +kernel
theorem dX8_init_55 : decode cX8_init 55 = .ok (.sipush 8000, 3) := by decide +kernel
theorem dX8_init_58 : decode cX8_init 58 = .ok (.newarray .int, 2) := by decide +kernel
theorem dX8_init_60 : decode cX8_init 60 = .ok (.putfield 32, 3) := by decide +kernel
theorem dX8_init_63 : decode cX8_init 63 = .ok (.aload_n 0, 1) := by decide +kernel
theorem dX8_init_64 : decode cX8_init 64 = .ok (.sipush 1000, 3) := by decide +kernel
theorem dX8_init_67 : decode cX8_init 67 = .ok (.newarray .boolean, 2) := by decide +kernel
theorem dX8_init_69 : decode cX8_init 69 = .ok (.putfield 35, 3) := by decide +kernel
theorem dX8_init_72 : decode cX8_init 72 = .ok (.aload_n 0, 1) := by decide +kernel
theorem dX8_init_73 : decode cX8_init 73 = .ok (.bipush (-6), 2) := by decide +kernel
theorem dX8_init_75 : decode cX8_init 75 = .ok (.putfield 39, 3) := by decide +kernel
theorem dX8_init_78 : decode cX8_init 78 = .ok (.aload_n 0, 1) := by decide +kernel
theorem dX8_init_79 : decode cX8_init 79 = .ok (.bipush 8, 2) := by decide +kernel
theorem dX8_init_81 : decode cX8_init 81 = .ok (.newarray .int, 2) := by decide +kernel
theorem dX8_init_83 : decode cX8_init 83 = .ok (.putfield 42, 3) := by decide +kernel
theorem dX8_init_86 : decode cX8_init 86 = .ok (.aload_n 0, 1) := by decide +kernel
theorem dX8_init_87 : decode cX8_init 87 = .ok (.bipush 30, 2) := by decide +kernel
theorem dX8_init_89 : decode cX8_init 89 = .ok (.newarray .int, 2) := by decide +kernel
theorem dX8_init_91 : decode cX8_init 91 = .ok (.putfield 45, 3) := by decide +kernel
theorem dX8_init_94 : decode cX8_init 94 = .ok (.aload_n 0, 1) := by decide +kernel
theorem dX8_init_95 : decode cX8_init 95 = .ok (.bipush 30, 2) := by decide +kernel
theorem dX8_init_97 : decode cX8_init 97 = .ok (.newarray .int, 2) := by decide +kernel
theorem dX8_init_99 : decode cX8_init 99 = .ok (.putfield 48, 3) := by decide +kernel
theorem dX8_init_102 : decode cX8_init 102 = .ok (.aload_n 0, 1) := by decide +kernel
theorem dX8_init_103 : decode cX8_init 103 = .ok (.bipush 8, 2) := by decide +kernel
theorem dX8_init_105 : decode cX8_init 105 = .ok (.newarray .int, 2) := by decide +kernel
theorem dX8_init_107 : decode cX8_init 107 = .ok (.putfield 51, 3) := by decide +kernel
theorem dX8_init_110 : decode cX8_init 110 = .ok (.aload_n 0, 1) := by decide +kernel
theorem dX8_init_111 : decode cX8_init 111 = .ok (.bipush 8, 2) := by decide +kernel
theorem dX8_init_113 : decode cX8_init 113 = .ok (.newarray .int, 2) := by decide +kernel
theorem dX8_init_115 : decode cX8_init 115 = .ok (.putfield 54, 3) := by decide +kernel
theorem dX8_init_118 : decode cX8_init 118 = .ok (.aload_n 0, 1) := by decide +kernel
theorem dX8_init_119 : decode cX8_init 119 = .ok (.bipush 8, 2) := by decide +kernel
theorem dX8_init_121 : decode cX8_init 121 = .ok (.newarray .int, 2) := by decide +kernel
theorem dX8_init_123 : decode cX8_init 123 = .ok (.putfield 57, 3) := by decide +kernel
theorem dX8_init_126 : decode cX8_init 126 = .ok (.aload_n 0, 1) := by decide +kernel
theorem dX8_init_127 : decode cX8_init 127 = .ok (.bipush 8, 2) := by decide +kernel
theorem dX8_init_129 : decode cX8_init 129 = .ok (.newarray .int, 2) := by decide +kernel
theorem dX8_init_131 : decode cX8_init 131 = .ok (.putfield 60, 3) := by decide +kernel
theorem dX8_init_134 : decode cX8_init 134 = .ok (.aload_n 0, 1) := by decide +kernel
theorem dX8_init_135 : decode cX8_init 135 = .ok (.bipush 7, 2) := by decide +kernel
theorem dX8_init_137 : decode cX8_init 137 = .ok (.newarray .int, 2) := by decide +kernel
theorem dX8_init_139 : decode cX8_init 139 = .ok (.putfield 63, 3) := by decide +kernel
theorem dX8_init_142 : decode cX8_init 142 = .ok (.aload_n 0, 1) := by decide +kernel
theorem dX8_init_143 : decode cX8_init 143 = .ok (.bipush 7, 2) := by decide +kernel
theorem dX8_init_145 : decode cX8_init 145 = .ok (.newarray .int, 2) := by decide +kernel
theorem dX8_init_147 : decode cX8_init 147 = .ok (.putfield 66, 3) := by decide +kernel
theorem dX8_init_150 : decode cX8_init 150 = .ok (.aload_n 0, 1) := by decide +kernel
theorem dX8_init_151 : decode cX8_init 151 = .ok (.bipush 16, 2) := by decide +kernel
theorem dX8_init_153 : decode cX8_init 153 = .ok (.newarray .int, 2) := by decide +kernel
theorem dX8_init_155 : decode cX8_init 155 = .ok (.putfield 69, 3) := by decide +kernel
theorem dX8_init_158 : decode cX8_init 158 = .ok (.aload_n 0, 1) := by decide +kernel
theorem dX8_init_159 : decode cX8_init 159 = .ok (.bipush 7, 2) := by decide +kernel
theorem dX8_init_161 : decode cX8_init 161 = .ok (.newarray .int, 2) := by decide +kernel
theorem dX8_init_163 : decode cX8_init 163 = .ok (.putfield 72, 3) := by decide +kernel
theorem dX8_init_166 : decode cX8_init 166 = .ok (.aload_n 0, 1) := by decide +kernel
theorem dX8_init_167 : decode cX8_init 167 = .ok (.bipush 7, 2) := by decide +kernel
theorem dX8_init_169 : decode cX8_init 169 = .ok (.newarray .int, 2) := by decide +kernel
theorem dX8_init_171 : decode cX8_init 171 = .ok (.putfield 75, 3) := by decide +kernel
theorem dX8_init_174 : decode cX8_init 174 = .ok (.aload_n 0, 1) := by decide +kernel
theorem dX8_init_175 : decode cX8_init 175 = .ok (.getfield 16, 3) := by decide +kernel
theorem dX8_init_178 : decode cX8_init 178 = .ok (.iconst 0, 1) := by decide +kernel
theorem dX8_init_179 : decode cX8_init 179 = .ok (.bipush 10, 2) := by decide +kernel
theorem dX8_init_181 : decode cX8_init 181 = .ok (.iastore, 1) := by decide +kernel
theorem dX8_init_182 : decode cX8_init 182 = .ok (.aload_n 0, 1) := by decide +kernel
theorem dX8_init_183 : decode cX8_init 183 = .ok (.getfield 16, 3) := by decide +kernel
theorem dX8_init_186 : decode cX8_init 186 = .ok (.iconst 1, 1) := by decide +kernel
theorem dX8_init_187 : decode cX8_init 187 = .ok (.bipush 50, 2) := by decide +kernel
theorem dX8_init_189 : decode cX8_init 189 = .ok (.iastore, 1) := by decide +kernel
theorem dX8_init_190 : decode cX8_init 190 = .ok (.aload_n 0, 1) := by decide +kernel
theorem dX8_init_191 : decode cX8_init 191 = .ok (.getfield 16, 3) := by decide +kernel
theorem dX8_init_194 : decode cX8_init 194 = .ok (.iconst 2, 1) := by decide +kernel
theorem dX8_init_195 : decode cX8_init 195 = .ok (.bipush 10, 2) := by decide +kernel
theorem dX8_init_197 : decode cX8_init 197 = .ok (.iastore, 1) := by decide +kernel
theorem dX8_init_198 : decode cX8_init 198 = .ok (.aload_n 0, 1) := by decide +kernel
theorem dX8_init_199 : decode cX8_init 199 = .ok (.getfield 16, 3) := by decide +kernel
theorem dX8_init_202 : decode cX8_init 202 = .ok (.iconst 3, 1) := by decide +kernel
theorem dX8_init_203 : decode cX8_init 203 = .ok (.bipush 40, 2) := by decide +kernel
theorem dX8_init_205 : decode cX8_init 205 = .ok (.iastore, 1) := by decide +kernel
theorem dX8_init_206 : decode cX8_init 206 = .ok (.aload_n 0, 1) := by decide +kernel
theorem dX8_init_207 : decode cX8_init 207 = .ok (.getfield 16, 3) := by decide +kernel
theorem dX8_init_210 : decode cX8_init 210 = .ok (.iconst 4, 1) := by decide +kernel
theorem dX8_init_211 : decode cX8_init 211 = .ok (.bipush 50, 2) := by decide +kernel
theorem dX8_init_213 : decode cX8_init 213 = .ok (.iastore, 1) := by decide +kernel
theorem dX8_init_214 : decode cX8_init 214 = .ok (.aload_n 0, 1) := by decide +kernel
theorem dX8_init_215 : decode cX8_init 215 = .ok (.getfield 16, 3) := by decide +kernel
theorem dX8_init_218 : decode cX8_init 218 = .ok (.iconst 5, 1) := by decide +kernel
theorem dX8_init_219 : decode cX8_init 219 = .ok (.bipush 10, 2) := by decide +kernel
theorem dX8_init_221 : decode cX8_init 221 = .ok (.iastore, 1) := by decide +kernel
theorem dX8_init_222 : decode cX8_init 222 = .ok (.aload_n 0, 1) := by decide +kernel
theorem dX8_init_223 : decode cX8_init 223 = .ok (.getfield 16, 3) := by decide +kernel
theorem dX8_init_226 : decode cX8_init 226 = .ok (.bipush 6, 2) := by decide +kernel
theorem dX8_init_228 : decode cX8_init 228 = .ok (.bipush 10, 2) := by decide +kernel
theorem dX8_init_230 : decode cX8_init 230 = .ok (.iastore, 1) := by decide +kernel
theorem dX8_init_231 : decode cX8_init 231 = .ok (.aload_n 0, 1) := by decide +kernel
theorem dX8_init_232 : decode cX8_init 232 = .ok (.getfield 16, 3) := by decide +kernel
theorem dX8_init_235 : decode cX8_init 235 = .ok (.bipush 7, 2) := by decide +kernel
theorem dX8_init_237 : decode cX8_init 237 = .ok (.iconst 5, 1) := by decide +kernel
theorem dX8_init_238 : decode cX8_init 238 = .ok (.iastore, 1) := by decide +kernel
theorem dX8_init_239 : decode cX8_init 239 = .ok (.aload_n 0, 1) := by decide +kernel
theorem dX8_init_240 : decode cX8_init 240 = .ok (.getfield 16, 3) := by decide +kernel
theorem dX8_init_243 : decode cX8_init 243 = .ok (.bipush 8, 2) := by decide +kernel
theorem dX8_init_245 : decode cX8_init 245 = .ok (.iconst 2, 1) := by decide +kernel
theorem dX8_init_246 : decode cX8_init 246 = .ok (.iastore, 1) := by decide +kernel
theorem dX8_init_247 : decode cX8_init 247 = .ok (.iconst 0, 1) := by decide +kernel
theorem dX8_init_248 : decode cX8_init 248 = .ok (.istore_n 1, 1) := by decide +kernel
theorem dX8_init_249 : decode cX8_init 249 = .ok (.iload_n 1, 1) := by decide +kernel
theorem dX8_init_250 : decode cX8_init 250 = .ok (.iconst 4, 1) := by decide +kernel
theorem dX8_init_251 : decode cX8_init 251 = .ok (.if_icmp .ge 43, 3) := by decide +kernel
theorem dX8_init_254 : decode cX8_init 254 = .ok (.iconst 0, 1) := by decide +kernel
theorem dX8_init_255 : decode cX8_init 255 = .ok (.istore_n 2, 1) := by decide +kernel
theorem dX8_init_256 : decode cX8_init 256 = .ok (.iload_n 2, 1) := by decide +kernel
theorem dX8_init_257 : decode cX8_init 257 = .ok (.iconst 4, 1) := by decide +kernel
theorem dX8_init_258 : decode cX8_init 258 = .ok (.if_icmp .ge 30, 3) := by decide +kernel
theorem dX8_init_261 : decode cX8_init 261 = .ok (.aload_n 0, 1) := by decide +kernel
theorem dX8_init_262 : decode cX8_init 262 = .ok (.getfield 69, 3) := by decide +kernel
theorem dX8_init_265 : decode cX8_init 265 = .ok (.iconst 4, 1) := by decide +kernel
theorem dX8_init_266 : decode cX8_init 266 = .ok (.iload_n 1, 1) := by decide +kernel
theorem dX8_init_267 : decode cX8_init 267 = .ok (.imul, 1) := by decide +kernel
theorem dX8_init_268 : decode cX8_init 268 = .ok (.iload_n 2, 1) := by decide +kernel
theorem dX8_init_269 : decode cX8_init 269 = .ok (.iadd, 1) := by decide +kernel
theorem dX8_init_270 : decode cX8_init 270 = .ok (.iload_n 1, 1) := by decide +kernel
theorem dX8_init_271 : decode cX8_init 271 = .ok (.iload_n 2, 1) := by decide +kernel
theorem dX8_init_272 : decode cX8_init 272 = .ok (.if_icmp .ne 7, 3) := by decide +kernel
theorem dX8_init_275 : decode cX8_init 275 = .ok (.iconst 0, 1) := by decide +kernel
theorem dX8_init_276 : decode cX8_init 276 = .ok (.goto 5, 3) := by decide +kernel
theorem dX8_init_279 : decode cX8_init 279 = .ok (.bipush 10, 2) := by decide +kernel
theorem dX8_init_281 : decode cX8_init 281 = .ok (.iastore, 1) := by decide +kernel
theorem dX8_init_282 : decode cX8_init 282 = .ok (.iinc 2 1, 3) := by decide +kernel
theorem dX8_init_285 : decode cX8_init 285 = .ok (.goto (-29), 3) := by decide +kernel
theorem dX8_init_288 : decode cX8_init 288 = .ok (.iinc 1 1, 3) := by decide +kernel
theorem dX8_init_291 : decode cX8_init 291 = .ok (.goto (-42), 3) := by decide +kernel
theorem dX8_init_294 : decode cX8_init 294 = .ok (.aload_n 0, 1) := by decide +kernel
theorem dX8_init_295 : decode cX8_init 295 = .ok (.invokevirtual 78, 3) := by decide +kernel
theorem dX8_init_298 : decode cX8_init 298 = .ok (.return_, 1) := by decide +kernel
theorem dX8_in_0 : decode cX8_in 0 = .ok (.lload_n 0, 1) := by decide +kernel
theorem dX8_in_1 : decode cX8_in 1 = .ok (.lload_n 2, 1) := by decide +kernel
theorem dX8_in_2 : decode cX8_in 2 = .ok (.lcmp, 1) := by decide +kernel
theorem dX8_in_3 : decode cX8_in 3 = .ok (.ifCond .lt 14, 3) := by decide +kernel
theorem dX8_in_6 : decode cX8_in 6 = .ok (.lload_n 0, 1) := by decide +kernel
theorem dX8_in_7 : decode cX8_in 7 = .ok (.lload 4, 2) := by decide +kernel
theorem dX8_in_9 : decode cX8_in 9 = .ok (.lcmp, 1) := by decide +kernel
theorem dX8_in_10 : decode cX8_in 10 = .ok (.ifCond .gt 7, 3) := by decide +kernel
theorem dX8_in_13 : decode cX8_in 13 = .ok (.iconst 1, 1) := by decide +kernel
theorem dX8_in_14 : decode cX8_in 14 = .ok (.goto 4, 3) := by decide +kernel
theorem dX8_in_17 : decode cX8_in 17 = .ok (.iconst 0, 1) := by decide +kernel
theorem dX8_in_18 : decode cX8_in 18 = .ok (.ireturn, 1) := by decide +kernel
theorem dX8_begin_0 : decode cX8_begin 0 = .ok (.iconst 0, 1) := by decide +kernel
theorem dX8_begin_1 : decode cX8_begin 1 = .ok (.istore_n 1, 1) := by decide +kernel
theorem dX8_begin_2 : decode cX8_begin 2 = .ok (.iload_n 1, 1) := by decide +kernel
theorem dX8_begin_3 : decode cX8_begin 3 = .ok (.bipush 8, 2) := by decide +kernel
theorem dX8_begin_5 : decode cX8_begin 5 = .ok (.if_icmp .ge 32, 3) := by decide +kernel
theorem dX8_begin_8 : decode cX8_begin 8 = .ok (.aload_n 0, 1) := by decide +kernel
theorem dX8_begin_9 : decode cX8_begin 9 = .ok (.getfield 20, 3) := by decide +kernel
theorem dX8_begin_12 : decode cX8_begin 12 = .ok (.iload_n 1, 1) := by decide +kernel
theorem dX8_begin_13 : decode cX8_begin 13 = .ok (.iconst 0, 1) := by decide +kernel
theorem dX8_begin_14 : decode cX8_begin 14 = .ok (.iastore, 1) := by decide +kernel
theorem dX8_begin_15 : decode cX8_begin 15 = .ok (.aload_n 0, 1) := by decide +kernel
theorem dX8_begin_16 : decode cX8_begin 16 = .ok (.getfield 23, 3) := by decide +kernel
theorem dX8_begin_19 : decode cX8_begin 19 = .ok (.iload_n 1, 1) := by decide +kernel
theorem dX8_begin_20 : decode cX8_begin 20 = .ok (.bipush 20, 2) := by decide +kernel
theorem dX8_begin_22 : decode cX8_begin 22 = .ok (.iastore, 1) := by decide +kernel
theorem dX8_begin_23 : decode cX8_begin 23 = .ok (.aload_n 0, 1) := by decide +kernel
theorem dX8_begin_24 : decode cX8_begin 24 = .ok (.getfield 26, 3) := by decide +kernel
theorem dX8_begin_27 : decode cX8_begin 27 = .ok (.iload_n 1, 1) := by decide +kernel
theorem dX8_begin_28 : decode cX8_begin 28 = .ok (.bipush 100, 2) := by decide +kernel
theorem dX8_begin_30 : decode cX8_begin 30 = .ok (.iastore, 1) := by decide +kernel
theorem dX8_begin_31 : decode cX8_begin 31 = .ok (.iinc 1 1, 3) := by decide +kernel
theorem dX8_begin_34 : decode cX8_begin 34 = .ok (.goto (-32), 3) := by decide +kernel
theorem dX8_begin_37 : decode cX8_begin 37 = .ok (.iconst 0, 1) := by decide +kernel
theorem dX8_begin_38 : decode cX8_begin 38 = .ok (.istore_n 1, 1) := by decide +kernel
theorem dX8_begin_39 : decode cX8_begin 39 = .ok (.iload_n 1, 1) := by decide +kernel
theorem dX8_begin_40 : decode cX8_begin 40 = .ok (.bipush 40, 2) := by decide +kernel
theorem dX8_begin_42 : decode cX8_begin 42 = .ok (.if_icmp .ge 16, 3) := by decide +kernel
theorem dX8_begin_45 : decode cX8_begin 45 = .ok (.aload_n 0, 1) := by decide +kernel
theorem dX8_begin_46 : decode cX8_begin 46 = .ok (.getfield 29, 3) := by decide +kernel
theorem dX8_begin_49 : decode cX8_begin 49 = .ok (.iload_n 1, 1) := by decide +kernel
theorem dX8_begin_50 : decode cX8_begin 50 = .ok (.iconst 0, 1) := by decide +kernel
theorem dX8_begin_51 : decode cX8_begin 51 = .ok (.iastore, 1) := by decide +kernel
theorem dX8_begin_52 : decode cX8_begin 52 = .ok (.iinc 1 1, 3) := by decide +kernel
theorem dX8_begin_55 : decode cX8_begin 55 = .ok (.goto (-16), 3) := by decide +kernel
theorem dX8_begin_58 : decode cX8_begin 58 = .ok (.aload_n 0, 1) := by decide +kernel
theorem dX8_begin_59 : decode cX8_begin 59 = .ok (.iconst 0, 1) := by decide +kernel
theorem dX8_begin_60 : decode cX8_begin 60 = .ok (.putfield 81, 3) := by decide +kernel
theorem dX8_begin_63 : decode cX8_begin 63 = .ok (.aload_n 0, 1) := by decide +kernel
theorem dX8_begin_64 : decode cX8_begin 64 = .ok (.iconst 0, 1) := by decide +kernel
theorem dX8_begin_65 : decode cX8_begin 65 = .ok (.putfield 84, 3) := by decide +kernel
theorem dX8_begin_68 : decode cX8_begin 68 = .ok (.aload_n 0, 1) := by decide +kernel
theorem dX8_begin_69 : decode cX8_begin 69 = .ok (.iconst 0, 1) := by decide +kernel
theorem dX8_begin_70 : decode cX8_begin 70 = .ok (.putfield 87, 3) := by decide +kernel
theorem dX8_begin_73 : decode cX8_begin 73 = .ok (.aload_n 0, 1) := by decide +kernel
theorem dX8_begin_74 : decode cX8_begin 74 = .ok (.bipush (-6), 2) := by decide +kernel
theorem dX8_begin_76 : decode cX8_begin 76 = .ok (.putfield 39, 3) := by decide +kernel
theorem dX8_begin_79 : decode cX8_begin 79 = .ok (.aload_n 0, 1) := by decide +kernel
theorem dX8_begin_80 : decode cX8_begin 80 = .ok (.iconst 0, 1) := by decide +kernel
theorem dX8_begin_81 : decode cX8_begin 81 = .ok (.putfield 90, 3) := by decide +kernel
theorem dX8_begin_84 : decode cX8_begin 84 = .ok (.aload_n 0, 1) := by decide +kernel
theorem dX8_begin_85 : decode cX8_begin 85 = .ok (.iconst 0, 1) := by decide +kernel
theorem dX8_begin_86 : decode cX8_begin 86 = .ok (.putfield 93, 3) := by decide +kernel
theorem dX8_begin_89 : decode cX8_begin 89 = .ok (.aload_n 0, 1) := by decide +kernel
theorem dX8_begin_90 : decode cX8_begin 90 = .ok (.iconst 0, 1) := by decide +kernel
theorem dX8_begin_91 : decode cX8_begin 91 = .ok (.putfield 96, 3) := by decide +kernel
theorem dX8_begin_94 : decode cX8_begin 94 = .ok (.aload_n 0, 1) := by decide +kernel
theorem dX8_begin_95 : decode cX8_begin 95 = .ok (.iconst 0, 1) := by decide +kernel
theorem dX8_begin_96 : decode cX8_begin 96 = .ok (.putfield 99, 3) := by decide +kernel
theorem dX8_begin_99 : decode cX8_begin 99 = .ok (.return_, 1) := by decide +kernel
set_option maxRecDepth 20000 in
theorem ggX8_isZone_X8_in : GoodIn wsX8_isZone wsX8_in := goodIn_r _ [5] rfl (by decide +kernel)
set_option maxRecDepth 20000 in
theorem gX8_isZone_X8_in : GoodIn wsX8_isZone (va_wsS RX8 103 yX8_in wsX8_in) := goodIn_app (goodIn_of _ (by decide +kernel)) ggX8_isZone_X8_in
theorem dX8_isZone_0 : decode cX8_isZone 0 = .ok (.iload_n 1, 1) := by decide +kernel
theorem dX8_isZone_1 : decode cX8_isZone 1 = .ok (.i2l, 1) := by decide +kernel
theorem dX8_isZone_2 : decode cX8_isZone 2 = .ok (.lconst 0, 1) := by decide +kernel
theorem dX8_isZone_3 : decode cX8_isZone 3 = .ok (.aload_n 0, 1) := by decide +kernel
theorem dX8_isZone_4 : decode cX8_isZone 4 = .ok (.getfield 7, 3) := by decide +kernel
theorem dX8_isZone_7 : decode cX8_isZone 7 = .ok (.iconst 1, 1) := by decide +kernel
theorem dX8_isZone_8 : decode cX8_isZone 8 = .ok (.isub, 1) := by decide +kernel
theorem dX8_isZone_9 : decode cX8_isZone 9 = .ok (.i2l, 1) := by decide +kernel
theorem dX8_isZone_10 : decode cX8_isZone 10 = .ok (.invokestatic 103, 3) := by decide +kernel
theorem dX8_isZone_13 : decode cX8_isZone 13 = .ok (.ireturn, 1) := by decide +kernel
set_option maxRecDepth 20000 in
theorem ggX8_press_X8_in : GoodIn wsX8_press wsX8_in := goodIn_r _ [9] rfl (by decide +kernel)
set_option maxRecDepth 20000 in
theorem gX8_press_X8_in : GoodIn wsX8_press (va_wsS RX8 103 yX8_in wsX8_in) := goodIn_app (goodIn_of _ (by decide +kernel)) ggX8_press_X8_in
set_option maxRecDepth 20000 in
theorem ggX8_press_X8_begin : GoodIn wsX8_press wsX8_begin := goodIn_r _ [13, 14, 15, 16, 17, 18, 19, 20, 21, 22, 23, 24, 25, 26, 27, 28, 29, 30, 31, 32, 33, 34, 35, 36, 37, 38, 39, 40, 41, 42, 43, 44, 45, 46, 47, 48, 49, 50, 51, 52, 53, 54, 55, 56, 57, 58, 59, 60, 61, 62] rfl (by decide +kernel)
set_option maxRecDepth 20000 in
theorem gX8_press_X8_begin : GoodIn wsX8_press (wsV RX8 78 RX8 yX8_begin wsX8_begin) := goodIn_app (goodIn_of _ (by decide +kernel)) ggX8_press_X8_begin
theorem dX8_press_0 : decode cX8_press 0 = .ok (.iload_n 1, 1) := by decide +kernel
theorem dX8_press_1 : decode cX8_press 1 = .ok (.i2l, 1) := by decide +kernel
theorem dX8_press_2 : decode cX8_press 2 = .ok (.ldc2_w 107, 3) := by decide +kernel
theorem dX8_press_5 : decode cX8_press 5 = .ok (.ldc2_w 109, 3) := by decide +kernel
theorem dX8_press_8 : decode cX8_press 8 = .ok (.invokestatic 103, 3) := by decide +kernel
theorem dX8_press_11 : decode cX8_press 11 = .ok (.ifCond .eq 17, 3) := by decide +kernel
theorem dX8_press_14 : decode cX8_press 14 = .ok (.iload_n 2, 1) := by decide +kernel
theorem dX8_press_15 : decode cX8_press 15 = .ok (.i2l, 1) := by decide +kernel
