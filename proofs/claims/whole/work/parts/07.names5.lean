theorem dX8_presetOf_154 : decode cX8_presetOf 154 = .ok (.lload 10, 2) := by decide +kernel
theorem dX8_presetOf_156 : decode cX8_presetOf 156 = .ok (.ldiv, 1) := by decide +kernel
theorem dX8_presetOf_157 : decode cX8_presetOf 157 = .ok (.lstore 12, 2) := by decide +kernel
theorem dX8_presetOf_159 : decode cX8_presetOf 159 = .ok (.lload 12, 2) := by decide +kernel
theorem dX8_presetOf_161 : decode cX8_presetOf 161 = .ok (.lconst 0, 1) := by decide +kernel
theorem dX8_presetOf_162 : decode cX8_presetOf 162 = .ok (.lcmp, 1) := by decide +kernel
theorem dX8_presetOf_163 : decode cX8_presetOf 163 = .ok (.ifCond .ge 7, 3) := by decide +kernel
theorem dX8_presetOf_166 : decode cX8_presetOf 166 = .ok (.iconst 0, 1) := by decide +kernel
theorem dX8_presetOf_167 : decode cX8_presetOf 167 = .ok (.goto 20, 3) := by decide +kernel
theorem dX8_presetOf_170 : decode cX8_presetOf 170 = .ok (.lload 12, 2) := by decide +kernel
theorem dX8_presetOf_172 : decode cX8_presetOf 172 = .ok (.ldc2_w 125, 3) := by decide +kernel
theorem dX8_presetOf_175 : decode cX8_presetOf 175 = .ok (.lcmp, 1) := by decide +kernel
theorem dX8_presetOf_176 : decode cX8_presetOf 176 = .ok (.ifCond .le 8, 3) := by decide +kernel
theorem dX8_presetOf_179 : decode cX8_presetOf 179 = .ok (.bipush 100, 2) := by decide +kernel
theorem dX8_presetOf_181 : decode cX8_presetOf 181 = .ok (.goto 6, 3) := by decide +kernel
theorem dX8_presetOf_184 : decode cX8_presetOf 184 = .ok (.lload 12, 2) := by decide +kernel
theorem dX8_presetOf_186 : decode cX8_presetOf 186 = .ok (.l2i, 1) := by decide +kernel
theorem dX8_presetOf_187 : decode cX8_presetOf 187 = .ok (.ireturn, 1) := by decide +kernel
set_option maxRecDepth 20000 in
theorem ggX8_preset_X8_in : GoodIn wsX8_preset wsX8_in := goodIn_r _ [6] rfl (by decide +kernel)
set_option maxRecDepth 20000 in
theorem gX8_preset_X8_in : GoodIn wsX8_preset (va_wsS RX8 103 yX8_in wsX8_in) := goodIn_app (goodIn_of _ (by decide +kernel)) ggX8_preset_X8_in
set_option maxRecDepth 20000 in
theorem ggX8_preset_X8_presetOf : GoodIn wsX8_preset wsX8_presetOf := goodIn_r _ [10, 2, 11, 12, 1, 13, 14, 15, 16, 17, 18, 19, 20, 21, 22, 23, 24, 25, 26, 27, 28, 29, 30, 31, 32, 33, 34, 35, 36, 37, 38, 39, 40, 41, 42, 43, 44, 45, 46, 47, 48, 49] rfl (by decide +kernel)
set_option maxRecDepth 20000 in
theorem gX8_preset_X8_presetOf : GoodIn wsX8_preset (wsV RX8 152 RX8 yX8_presetOf wsX8_presetOf) := goodIn_app (goodIn_of _ (by decide +kernel)) ggX8_preset_X8_presetOf
theorem dX8_preset_0 : decode cX8_preset 0 = .ok (.iload_n 1, 1) := by decide +kernel
theorem dX8_preset_1 : decode cX8_preset 1 = .ok (.i2l, 1) := by decide +kernel
theorem dX8_preset_2 : decode cX8_preset 2 = .ok (.lconst 0, 1) := by decide +kernel
theorem dX8_preset_3 : decode cX8_preset 3 = .ok (.ldc2_w 125, 3) := by decide +kernel
theorem dX8_preset_6 : decode cX8_preset 6 = .ok (.invokestatic 103, 3) := by decide +kernel
theorem dX8_preset_9 : decode cX8_preset 9 = .ok (.ifCond .ne 6, 3) := by decide +kernel
theorem dX8_preset_12 : decode cX8_preset 12 = .ok (.bipush (-2), 2) := by decide +kernel
theorem dX8_preset_14 : decode cX8_preset 14 = .ok (.ireturn, 1) := by decide +kernel
theorem dX8_preset_15 : decode cX8_preset 15 = .ok (.aload_n 0, 1) := by decide +kernel
theorem dX8_preset_16 : decode cX8_preset 16 = .ok (.getfield 149, 3) := by decide +kernel
theorem dX8_preset_19 : decode cX8_preset 19 = .ok (.ifCond .ne 8, 3) := by decide +kernel
theorem dX8_preset_22 : decode cX8_preset 22 = .ok (.bipush (-3), 2) := by decide +kernel
theorem dX8_preset_24 : decode cX8_preset 24 = .ok (.goto 8, 3) := by decide +kernel
theorem dX8_preset_27 : decode cX8_preset 27 = .ok (.aload_n 0, 1) := by decide +kernel
theorem dX8_preset_28 : decode cX8_preset 28 = .ok (.iload_n 1, 1) := by decide +kernel
theorem dX8_preset_29 : decode cX8_preset 29 = .ok (.invokevirtual 152, 3) := by decide +kernel
theorem dX8_preset_32 : decode cX8_preset 32 = .ok (.ireturn, 1) := by decide +kernel
set_option maxRecDepth 20000 in
theorem ggX8_presets_X8_presetOf : GoodIn wsX8_presets wsX8_presetOf := goodIn_r _ [9, 1, 10, 11, 12, 13, 14, 15, 16, 17, 18, 19, 20, 21, 22, 23, 24, 25, 26, 27, 28, 29, 30, 31, 32, 33, 34, 35, 36, 37, 38, 39, 40, 41, 42, 43, 44, 45, 46, 47, 48, 49] rfl (by decide +kernel)
set_option maxRecDepth 20000 in
theorem gX8_presets_X8_presetOf : GoodIn wsX8_presets (wsV RX8 152 RX8 yX8_presetOf wsX8_presetOf) := goodIn_app (goodIn_of _ (by decide +kernel)) ggX8_presets_X8_presetOf
theorem dX8_presets_0 : decode cX8_presets 0 = .ok (.aload_n 0, 1) := by decide +kernel
theorem dX8_presets_1 : decode cX8_presets 1 = .ok (.getfield 149, 3) := by decide +kernel
theorem dX8_presets_4 : decode cX8_presets 4 = .ok (.ifCond .ne 6, 3) := by decide +kernel
theorem dX8_presets_7 : decode cX8_presets 7 = .ok (.bipush (-3), 2) := by decide +kernel
theorem dX8_presets_9 : decode cX8_presets 9 = .ok (.ireturn, 1) := by decide +kernel
theorem dX8_presets_10 : decode cX8_presets 10 = .ok (.iconst 0, 1) := by decide +kernel
theorem dX8_presets_11 : decode cX8_presets 11 = .ok (.istore_n 1, 1) := by decide +kernel
theorem dX8_presets_12 : decode cX8_presets 12 = .ok (.iconst 0, 1) := by decide +kernel
theorem dX8_presets_13 : decode cX8_presets 13 = .ok (.istore_n 2, 1) := by decide +kernel
theorem dX8_presets_14 : decode cX8_presets 14 = .ok (.iload_n 2, 1) := by decide +kernel
theorem dX8_presets_15 : decode cX8_presets 15 = .ok (.aload_n 0, 1) := by decide +kernel
theorem dX8_presets_16 : decode cX8_presets 16 = .ok (.getfield 7, 3) := by decide +kernel
theorem dX8_presets_19 : decode cX8_presets 19 = .ok (.if_icmp .ge 45, 3) := by decide +kernel
theorem dX8_presets_22 : decode cX8_presets 22 = .ok (.aload_n 0, 1) := by decide +kernel
theorem dX8_presets_23 : decode cX8_presets 23 = .ok (.aload_n 0, 1) := by decide +kernel
theorem dX8_presets_24 : decode cX8_presets 24 = .ok (.getfield 23, 3) := by decide +kernel
theorem dX8_presets_27 : decode cX8_presets 27 = .ok (.iload_n 2, 1) := by decide +kernel
theorem dX8_presets_28 : decode cX8_presets 28 = .ok (.iaload, 1) := by decide +kernel
theorem dX8_presets_29 : decode cX8_presets 29 = .ok (.invokevirtual 152, 3) := by decide +kernel
theorem dX8_presets_32 : decode cX8_presets 32 = .ok (.istore_n 3, 1) := by decide +kernel
theorem dX8_presets_33 : decode cX8_presets 33 = .ok (.iload_n 1, 1) := by decide +kernel
theorem dX8_presets_34 : decode cX8_presets 34 = .ok (.iload_n 3, 1) := by decide +kernel
theorem dX8_presets_35 : decode cX8_presets 35 = .ok (.aload_n 0, 1) := by decide +kernel
theorem dX8_presets_36 : decode cX8_presets 36 = .ok (.getfield 20, 3) := by decide +kernel
theorem dX8_presets_39 : decode cX8_presets 39 = .ok (.iload_n 2, 1) := by decide +kernel
theorem dX8_presets_40 : decode cX8_presets 40 = .ok (.iaload, 1) := by decide +kernel
theorem dX8_presets_41 : decode cX8_presets 41 = .ok (.if_icmp .ne 7, 3) := by decide +kernel
theorem dX8_presets_44 : decode cX8_presets 44 = .ok (.iconst 0, 1) := by decide +kernel
theorem dX8_presets_45 : decode cX8_presets 45 = .ok (.goto 4, 3) := by decide +kernel
theorem dX8_presets_48 : decode cX8_presets 48 = .ok (.iconst 1, 1) := by decide +kernel
theorem dX8_presets_49 : decode cX8_presets 49 = .ok (.iadd, 1) := by decide +kernel
theorem dX8_presets_50 : decode cX8_presets 50 = .ok (.istore_n 1, 1) := by decide +kernel
theorem dX8_presets_51 : decode cX8_presets 51 = .ok (.aload_n 0, 1) := by decide +kernel
theorem dX8_presets_52 : decode cX8_presets 52 = .ok (.getfield 20, 3) := by decide +kernel
theorem dX8_presets_55 : decode cX8_presets 55 = .ok (.iload_n 2, 1) := by decide +kernel
theorem dX8_presets_56 : decode cX8_presets 56 = .ok (.iload_n 3, 1) := by decide +kernel
theorem dX8_presets_57 : decode cX8_presets 57 = .ok (.iastore, 1) := by decide +kernel
theorem dX8_presets_58 : decode cX8_presets 58 = .ok (.iinc 2 1, 3) := by decide +kernel
theorem dX8_presets_61 : decode cX8_presets 61 = .ok (.goto (-47), 3) := by decide +kernel
theorem dX8_presets_64 : decode cX8_presets 64 = .ok (.iload_n 1, 1) := by decide +kernel
theorem dX8_presets_65 : decode cX8_presets 65 = .ok (.ireturn, 1) := by decide +kernel
theorem dX8_told_0 : decode cX8_told 0 = .ok (.iconst 0, 1) := by decide +kernel
theorem dX8_told_1 : decode cX8_told 1 = .ok (.istore_n 2, 1) := by decide +kernel
theorem dX8_told_2 : decode cX8_told 2 = .ok (.iconst 0, 1) := by decide +kernel
theorem dX8_told_3 : decode cX8_told 3 = .ok (.istore_n 3, 1) := by decide +kernel
theorem dX8_told_4 : decode cX8_told 4 = .ok (.iload_n 3, 1) := by decide +kernel
theorem dX8_told_5 : decode cX8_told 5 = .ok (.bipush 40, 2) := by decide +kernel
theorem dX8_told_7 : decode cX8_told 7 = .ok (.if_icmp .ge 18, 3) := by decide +kernel
theorem dX8_told_10 : decode cX8_told 10 = .ok (.iload_n 2, 1) := by decide +kernel
theorem dX8_told_11 : decode cX8_told 11 = .ok (.aload_n 0, 1) := by decide +kernel
theorem dX8_told_12 : decode cX8_told 12 = .ok (.getfield 29, 3) := by decide +kernel
theorem dX8_told_15 : decode cX8_told 15 = .ok (.iload_n 3, 1) := by decide +kernel
theorem dX8_told_16 : decode cX8_told 16 = .ok (.iaload, 1) := by decide +kernel
theorem dX8_told_17 : decode cX8_told 17 = .ok (.iadd, 1) := by decide +kernel
theorem dX8_told_18 : decode cX8_told 18 = .ok (.istore_n 2, 1) := by decide +kernel
theorem dX8_told_19 : decode cX8_told 19 = .ok (.iinc 3 1, 3) := by decide +kernel
theorem dX8_told_22 : decode cX8_told 22 = .ok (.goto (-18), 3) := by decide +kernel
theorem dX8_told_25 : decode cX8_told 25 = .ok (.iload_n 1, 1) := by decide +kernel
theorem dX8_told_26 : decode cX8_told 26 = .ok (.tableswitch 114 0 9 #[54, 59, 64, 74, 79, 84, 86, 91, 96, 109], 54) := by decide +kernel
theorem dX8_told_80 : decode cX8_told 80 = .ok (.aload_n 0, 1) := by decide +kernel
theorem dX8_told_81 : decode cX8_told 81 = .ok (.getfield 81, 3) := by decide +kernel
theorem dX8_told_84 : decode cX8_told 84 = .ok (.ireturn, 1) := by decide +kernel
theorem dX8_told_85 : decode cX8_told 85 = .ok (.aload_n 0, 1) := by decide +kernel
theorem dX8_told_86 : decode cX8_told 86 = .ok (.getfield 84, 3) := by decide +kernel
theorem dX8_told_89 : decode cX8_told 89 = .ok (.ireturn, 1) := by decide +kernel
theorem dX8_told_90 : decode cX8_told 90 = .ok (.aload_n 0, 1) := by decide +kernel
theorem dX8_told_91 : decode cX8_told 91 = .ok (.getfield 81, 3) := by decide +kernel
theorem dX8_told_94 : decode cX8_told 94 = .ok (.aload_n 0, 1) := by decide +kernel
theorem dX8_told_95 : decode cX8_told 95 = .ok (.getfield 84, 3) := by decide +kernel
theorem dX8_told_98 : decode cX8_told 98 = .ok (.isub, 1) := by decide +kernel
theorem dX8_told_99 : decode cX8_told 99 = .ok (.ireturn, 1) := by decide +kernel
theorem dX8_told_100 : decode cX8_told 100 = .ok (.aload_n 0, 1) := by decide +kernel
theorem dX8_told_101 : decode cX8_told 101 = .ok (.getfield 39, 3) := by decide +kernel
theorem dX8_told_104 : decode cX8_told 104 = .ok (.ireturn, 1) := by decide +kernel
theorem dX8_told_105 : decode cX8_told 105 = .ok (.aload_n 0, 1) := by decide +kernel
theorem dX8_told_106 : decode cX8_told 106 = .ok (.getfield 90, 3) := by decide +kernel
theorem dX8_told_109 : decode cX8_told 109 = .ok (.ireturn, 1) := by decide +kernel
theorem dX8_told_110 : decode cX8_told 110 = .ok (.iload_n 2, 1) := by decide +kernel
theorem dX8_told_111 : decode cX8_told 111 = .ok (.ireturn, 1) := by decide +kernel
theorem dX8_told_112 : decode cX8_told 112 = .ok (.aload_n 0, 1) := by decide +kernel
theorem dX8_told_113 : decode cX8_told 113 = .ok (.getfield 93, 3) := by decide +kernel
theorem dX8_told_116 : decode cX8_told 116 = .ok (.ireturn, 1) := by decide +kernel
theorem dX8_told_117 : decode cX8_told 117 = .ok (.aload_n 0, 1) := by decide +kernel
theorem dX8_told_118 : decode cX8_told 118 = .ok (.getfield 96, 3) := by decide +kernel
theorem dX8_told_121 : decode cX8_told 121 = .ok (.ireturn, 1) := by decide +kernel
theorem dX8_told_122 : decode cX8_told 122 = .ok (.aload_n 0, 1) := by decide +kernel
theorem dX8_told_123 : decode cX8_told 123 = .ok (.getfield 99, 3) := by decide +kernel
theorem dX8_told_126 : decode cX8_told 126 = .ok (.ifCond .eq 7, 3) := by decide +kernel
theorem dX8_told_129 : decode cX8_told 129 = .ok (.iconst 1, 1) := by decide +kernel
theorem dX8_told_130 : decode cX8_told 130 = .ok (.goto 4, 3) := by decide +kernel
theorem dX8_told_133 : decode cX8_told 133 = .ok (.iconst 0, 1) := by decide +kernel
theorem dX8_told_134 : decode cX8_told 134 = .ok (.ireturn, 1) := by decide +kernel
theorem dX8_told_135 : decode cX8_told 135 = .ok (.aload_n 0, 1) := by decide +kernel
theorem dX8_told_136 : decode cX8_told 136 = .ok (.getfield 149, 3) := by decide +kernel
theorem dX8_told_139 : decode cX8_told 139 = .ok (.ireturn, 1) := by decide +kernel
theorem dX8_told_140 : decode cX8_told 140 = .ok (.ldc 118, 2) := by decide +kernel
theorem dX8_told_142 : decode cX8_told 142 = .ok (.ireturn, 1) := by decide +kernel
set_option maxRecDepth 20000 in
theorem ggX8_isPlace_X8_in : GoodIn wsX8_isPlace wsX8_in := goodIn_r _ [4] rfl (by decide +kernel)
set_option maxRecDepth 20000 in
theorem gX8_isPlace_X8_in : GoodIn wsX8_isPlace (va_wsS RX8 103 yX8_in wsX8_in) := goodIn_app (goodIn_of _ (by decide +kernel)) ggX8_isPlace_X8_in
theorem dX8_isPlace_0 : decode cX8_isPlace 0 = .ok (.iload_n 0, 1) := by decide +kernel
theorem dX8_isPlace_1 : decode cX8_isPlace 1 = .ok (.i2l, 1) := by decide +kernel
theorem dX8_isPlace_2 : decode cX8_isPlace 2 = .ok (.iload_n 2, 1) := by decide +kernel
theorem dX8_isPlace_3 : decode cX8_isPlace 3 = .ok (.ineg, 1) := by decide +kernel
theorem dX8_isPlace_4 : decode cX8_isPlace 4 = .ok (.i2l, 1) := by decide +kernel
theorem dX8_isPlace_5 : decode cX8_isPlace 5 = .ok (.iload_n 2, 1) := by decide +kernel
theorem dX8_isPlace_6 : decode cX8_isPlace 6 = .ok (.i2l, 1) := by decide +kernel
theorem dX8_isPlace_7 : decode cX8_isPlace 7 = .ok (.invokestatic 103, 3) := by decide +kernel
theorem dX8_isPlace_10 : decode cX8_isPlace 10 = .ok (.ifCond .eq 20, 3) := by decide +kernel
theorem dX8_isPlace_13 : decode cX8_isPlace 13 = .ok (.iload_n 1, 1) := by decide +kernel
theorem dX8_isPlace_14 : decode cX8_isPlace 14 = .ok (.i2l, 1) := by decide +kernel
theorem dX8_isPlace_15 : decode cX8_isPlace 15 = .ok (.iload_n 2, 1) := by decide +kernel
theorem dX8_isPlace_16 : decode cX8_isPlace 16 = .ok (.ineg, 1) := by decide +kernel
theorem dX8_isPlace_17 : decode cX8_isPlace 17 = .ok (.i2l, 1) := by decide +kernel
theorem dX8_isPlace_18 : decode cX8_isPlace 18 = .ok (.iload_n 2, 1) := by decide +kernel
theorem dX8_isPlace_19 : decode cX8_isPlace 19 = .ok (.i2l, 1) := by decide +kernel
theorem dX8_isPlace_20 : decode cX8_isPlace 20 = .ok (.invokestatic 103, 3) := by decide +kernel
theorem dX8_isPlace_23 : decode cX8_isPlace 23 = .ok (.ifCond .eq 7, 3) := by decide +kernel
theorem dX8_isPlace_26 : decode cX8_isPlace 26 = .ok (.iconst 1, 1) := by decide +kernel
theorem dX8_isPlace_27 : decode cX8_isPlace 27 = .ok (.goto 4, 3) := by decide +kernel
theorem dX8_isPlace_30 : decode cX8_isPlace 30 = .ok (.iconst 0, 1) := by decide +kernel
theorem dX8_isPlace_31 : decode cX8_isPlace 31 = .ok (.ireturn, 1) := by decide +kernel
set_option maxRecDepth 20000 in
theorem ggX8_mark_X8_isPlace : GoodIn wsX8_mark wsX8_isPlace := goodIn_r _ [9, 10, 11, 8, 12] rfl (by decide +kernel)
set_option maxRecDepth 20000 in
theorem gX8_mark_X8_isPlace : GoodIn wsX8_mark (va_wsS RX8 155 yX8_isPlace wsX8_isPlace) := goodIn_app (goodIn_of _ (by decide +kernel)) ggX8_mark_X8_isPlace
theorem dX8_mark_0 : decode cX8_mark 0 = .ok (.iload_n 1, 1) := by decide +kernel
theorem dX8_mark_1 : decode cX8_mark 1 = .ok (.iload_n 2, 1) := by decide +kernel
theorem dX8_mark_2 : decode cX8_mark 2 = .ok (.sipush 1000, 3) := by decide +kernel
theorem dX8_mark_5 : decode cX8_mark 5 = .ok (.invokestatic 155, 3) := by decide +kernel
theorem dX8_mark_8 : decode cX8_mark 8 = .ok (.ifCond .eq 14, 3) := by decide +kernel
theorem dX8_mark_11 : decode cX8_mark 11 = .ok (.iload_n 3, 1) := by decide +kernel
theorem dX8_mark_12 : decode cX8_mark 12 = .ok (.iload 4, 2) := by decide +kernel
theorem dX8_mark_14 : decode cX8_mark 14 = .ok (.bipush 100, 2) := by decide +kernel
theorem dX8_mark_16 : decode cX8_mark 16 = .ok (.invokestatic 155, 3) := by decide +kernel
theorem dX8_mark_19 : decode cX8_mark 19 = .ok (.ifCond .ne 6, 3) := by decide +kernel
theorem dX8_mark_22 : decode cX8_mark 22 = .ok (.bipush (-2), 2) := by decide +kernel
theorem dX8_mark_24 : decode cX8_mark 24 = .ok (.ireturn, 1) := by decide +kernel
theorem dX8_mark_25 : decode cX8_mark 25 = .ok (.aload_n 0, 1) := by decide +kernel
theorem dX8_mark_26 : decode cX8_mark 26 = .ok (.getfield 159, 3) := by decide +kernel
theorem dX8_mark_29 : decode cX8_mark 29 = .ok (.bipush 8, 2) := by decide +kernel
theorem dX8_mark_31 : decode cX8_mark 31 = .ok (.if_icmp .ne 6, 3) := by decide +kernel
theorem dX8_mark_34 : decode cX8_mark 34 = .ok (.bipush (-4), 2) := by decide +kernel
theorem dX8_mark_36 : decode cX8_mark 36 = .ok (.ireturn, 1) := by decide +kernel
theorem dX8_mark_37 : decode cX8_mark 37 = .ok (.aload_n 0, 1) := by decide +kernel
theorem dX8_mark_38 : decode cX8_mark 38 = .ok (.getfield 51, 3) := by decide +kernel
theorem dX8_mark_41 : decode cX8_mark 41 = .ok (.aload_n 0, 1) := by decide +kernel
theorem dX8_mark_42 : decode cX8_mark 42 = .ok (.getfield 159, 3) := by decide +kernel
theorem dX8_mark_45 : decode cX8_mark 45 = .ok (.iload_n 1, 1) := by decide +kernel
theorem dX8_mark_46 : decode cX8_mark 46 = .ok (.iastore, 1) := by decide +kernel
theorem dX8_mark_47 : decode cX8_mark 47 = .ok (.aload_n 0, 1) := by decide +kernel
theorem dX8_mark_48 : decode cX8_mark 48 = .ok (.getfield 54, 3) := by decide +kernel
theorem dX8_mark_51 : decode cX8_mark 51 = .ok (.aload_n 0, 1) := by decide +kernel
theorem dX8_mark_52 : decode cX8_mark 52 = .ok (.getfield 159, 3) := by decide +kernel
theorem dX8_mark_55 : decode cX8_mark 55 = .ok (.iload_n 2, 1) := by decide +kernel
theorem dX8_mark_56 : decode cX8_mark 56 = .ok (.iastore, 1) := by decide +kernel
theorem dX8_mark_57 : decode cX8_mark 57 = .ok (.aload_n 0, 1) := by decide +kernel
theorem dX8_mark_58 : decode cX8_mark 58 = .ok (.getfield 57, 3) := by decide +kernel
theorem dX8_mark_61 : decode cX8_mark 61 = .ok (.aload_n 0, 1) := by decide +kernel
theorem dX8_mark_62 : decode cX8_mark 62 = .ok (.getfield 159, 3) := by decide +kernel
theorem dX8_mark_65 : decode cX8_mark 65 = .ok (.iload_n 3, 1) := by decide +kernel
theorem dX8_mark_66 : decode cX8_mark 66 = .ok (.iastore, 1) := by decide +kernel
theorem dX8_mark_67 : decode cX8_mark 67 = .ok (.aload_n 0, 1) := by decide +kernel
theorem dX8_mark_68 : decode cX8_mark 68 = .ok (.getfield 60, 3) := by decide +kernel
theorem dX8_mark_71 : decode cX8_mark 71 = .ok (.aload_n 0, 1) := by decide +kernel
theorem dX8_mark_72 : decode cX8_mark 72 = .ok (.getfield 159, 3) := by decide +kernel
theorem dX8_mark_75 : decode cX8_mark 75 = .ok (.iload 4, 2) := by decide +kernel
theorem dX8_mark_77 : decode cX8_mark 77 = .ok (.iastore, 1) := by decide +kernel
theorem dX8_mark_78 : decode cX8_mark 78 = .ok (.aload_n 0, 1) := by decide +kernel
theorem dX8_mark_79 : decode cX8_mark 79 = .ok (.dup, 1) := by decide +kernel
theorem dX8_mark_80 : decode cX8_mark 80 = .ok (.getfield 159, 3) := by decide +kernel
theorem dX8_mark_83 : decode cX8_mark 83 = .ok (.iconst 1, 1) := by decide +kernel
theorem dX8_mark_84 : decode cX8_mark 84 = .ok (.iadd, 1) := by decide +kernel
theorem dX8_mark_85 : decode cX8_mark 85 = .ok (.putfield 159, 3) := by decide +kernel
theorem dX8_mark_88 : decode cX8_mark 88 = .ok (.aload_n 0, 1) := by decide +kernel
theorem dX8_mark_89 : decode cX8_mark 89 = .ok (.getfield 159, 3) := by decide +kernel
theorem dX8_mark_92 : decode cX8_mark 92 = .ok (.ireturn, 1) := by decide +kernel
theorem dX8_clear_0 : decode cX8_clear 0 = .ok (.aload_n 0, 1) := by decide +kernel
theorem dX8_clear_1 : decode cX8_clear 1 = .ok (.getfield 159, 3) := by decide +kernel
theorem dX8_clear_4 : decode cX8_clear 4 = .ok (.istore_n 1, 1) := by decide +kernel
theorem dX8_clear_5 : decode cX8_clear 5 = .ok (.aload_n 0, 1) := by decide +kernel
theorem dX8_clear_6 : decode cX8_clear 6 = .ok (.iconst 0, 1) := by decide +kernel
theorem dX8_clear_7 : decode cX8_clear 7 = .ok (.putfield 159, 3) := by decide +kernel
theorem dX8_clear_10 : decode cX8_clear 10 = .ok (.iload_n 1, 1) := by decide +kernel
theorem dX8_clear_11 : decode cX8_clear 11 = .ok (.ireturn, 1) := by decide +kernel
theorem dX8_findFit_0 : decode cX8_findFit 0 = .ok (.lconst 0, 1) := by decide +kernel
theorem dX8_findFit_1 : decode cX8_findFit 1 = .ok (.lstore_n 1, 1) := by decide +kernel
theorem dX8_findFit_2 : decode cX8_findFit 2 = .ok (.lconst 0, 1) := by decide +kernel
theorem dX8_findFit_3 : decode cX8_findFit 3 = .ok (.lstore_n 3, 1) := by decide +kernel
theorem dX8_findFit_4 : decode cX8_findFit 4 = .ok (.lconst 0, 1) := by decide +kernel
theorem dX8_findFit_5 : decode cX8_findFit 5 = .ok (.lstore 5, 2) := by decide +kernel
theorem dX8_findFit_7 : decode cX8_findFit 7 = .ok (.lconst 0, 1) := by decide +kernel
theorem dX8_findFit_8 : decode cX8_findFit 8 = .ok (.lstore 7, 2) := by decide +kernel
theorem dX8_findFit_10 : decode cX8_findFit 10 = .ok (.lconst 0, 1) := by decide +kernel
theorem dX8_findFit_11 : decode cX8_findFit 11 = .ok (.lstore 9, 2) := by decide +kernel
theorem dX8_findFit_13 : decode cX8_findFit 13 = .ok (.lconst 0, 1) := by decide +kernel
theorem dX8_findFit_14 : decode cX8_findFit 14 = .ok (.lstore 11, 2) := by decide +kernel
theorem dX8_findFit_16 : decode cX8_findFit 16 = .ok (.lconst 0, 1) := by decide +kernel
theorem dX8_findFit_17 : decode cX8_findFit 17 = .ok (.lstore 13, 2) := by decide +kernel
theorem dX8_findFit_19 : decode cX8_findFit 19 = .ok (.iconst 0, 1) := by decide +kernel
theorem dX8_findFit_20 : decode cX8_findFit 20 = .ok (.istore 15, 2) := by decide +kernel
theorem dX8_findFit_22 : decode cX8_findFit 22 = .ok (.iload 15, 2) := by decide +kernel
theorem dX8_findFit_24 : decode cX8_findFit 24 = .ok (.aload_n 0, 1) := by decide +kernel
theorem dX8_findFit_25 : decode cX8_findFit 25 = .ok (.getfield 159, 3) := by decide +kernel
theorem dX8_findFit_28 : decode cX8_findFit 28 = .ok (.if_icmp .ge 168, 3) := by decide +kernel
theorem dX8_findFit_31 : decode cX8_findFit 31 = .ok (.lload_n 1, 1) := by decide +kernel
theorem dX8_findFit_32 : decode cX8_findFit 32 = .ok (.aload_n 0, 1) := by decide +kernel
theorem dX8_findFit_33 : decode cX8_findFit 33 = .ok (.getfield 51, 3) := by decide +kernel
theorem dX8_findFit_36 : decode cX8_findFit 36 = .ok (.iload 15, 2) := by decide +kernel
theorem dX8_findFit_38 : decode cX8_findFit 38 = .ok (.iaload, 1) := by decide +kernel
theorem dX8_findFit_39 : decode cX8_findFit 39 = .ok (.i2l, 1) := by decide +kernel
theorem dX8_findFit_40 : decode cX8_findFit 40 = .ok (.ladd, 1) := by decide +kernel
theorem dX8_findFit_41 : decode cX8_findFit 41 = .ok (.lstore_n 1, 1) := by decide +kernel
theorem dX8_findFit_42 : decode cX8_findFit 42 = .ok (.lload_n 3, 1) := by decide +kernel
theorem dX8_findFit_43 : decode cX8_findFit 43 = .ok (.aload_n 0, 1) := by decide +kernel
theorem dX8_findFit_44 : decode cX8_findFit 44 = .ok (.getfield 54, 3) := by decide +kernel
theorem dX8_findFit_47 : decode cX8_findFit 47 = .ok (.iload 15, 2) := by decide +kernel
theorem dX8_findFit_49 : decode cX8_findFit 49 = .ok (.iaload, 1) := by decide +kernel
theorem dX8_findFit_50 : decode cX8_findFit 50 = .ok (.i2l, 1) := by decide +kernel
theorem dX8_findFit_51 : decode cX8_findFit 51 = .ok (.ladd, 1) := by decide +kernel
theorem dX8_findFit_52 : decode cX8_findFit 52 = .ok (.lstore_n 3, 1) := by decide +kernel
theorem dX8_findFit_53 : decode cX8_findFit 53 = .ok (.lload 5, 2) := by decide +kernel
theorem dX8_findFit_55 : decode cX8_findFit 55 = .ok (.aload_n 0, 1) := by decide +kernel
theorem dX8_findFit_56 : decode cX8_findFit 56 = .ok (.getfield 57, 3) := by decide +kernel
theorem dX8_findFit_59 : decode cX8_findFit 59 = .ok (.iload 15, 2) := by decide +kernel
theorem dX8_findFit_61 : decode cX8_findFit 61 = .ok (.iaload, 1) := by decide +kernel
theorem dX8_findFit_62 : decode cX8_findFit 62 = .ok (.i2l, 1) := by decide +kernel
theorem dX8_findFit_63 : decode cX8_findFit 63 = .ok (.ladd, 1) := by decide +kernel
theorem dX8_findFit_64 : decode cX8_findFit 64 = .ok (.lstore 5, 2) := by decide +kernel
theorem dX8_findFit_66 : decode cX8_findFit 66 = .ok (.lload 7, 2) := by decide +kernel
theorem dX8_findFit_68 : decode cX8_findFit 68 = .ok (.aload_n 0, 1) := by decide +kernel
theorem dX8_findFit_69 : decode cX8_findFit 69 = .ok (.getfield 60, 3) := by decide +kernel
theorem dX8_findFit_72 : decode cX8_findFit 72 = .ok (.iload 15, 2) := by decide +kernel
theorem dX8_findFit_74 : decode cX8_findFit 74 = .ok (.iaload, 1) := by decide +kernel
theorem dX8_findFit_75 : decode cX8_findFit 75 = .ok (.i2l, 1) := by decide +kernel
theorem dX8_findFit_76 : decode cX8_findFit 76 = .ok (.ladd, 1) := by decide +kernel
theorem dX8_findFit_77 : decode cX8_findFit 77 = .ok (.lstore 7, 2) := by decide +kernel
theorem dX8_findFit_79 : decode cX8_findFit 79 = .ok (.lload 9, 2) := by decide +kernel
theorem dX8_findFit_81 : decode cX8_findFit 81 = .ok (.aload_n 0, 1) := by decide +kernel
theorem dX8_findFit_82 : decode cX8_findFit 82 = .ok (.getfield 51, 3) := by decide +kernel
theorem dX8_findFit_85 : decode cX8_findFit 85 = .ok (.iload 15, 2) := by decide +kernel
theorem dX8_findFit_87 : decode cX8_findFit 87 = .ok (.iaload, 1) := by decide +kernel
theorem dX8_findFit_88 : decode cX8_findFit 88 = .ok (.aload_n 0, 1) := by decide +kernel
theorem dX8_findFit_89 : decode cX8_findFit 89 = .ok (.getfield 51, 3) := by decide +kernel
theorem dX8_findFit_92 : decode cX8_findFit 92 = .ok (.iload 15, 2) := by decide +kernel
theorem dX8_findFit_94 : decode cX8_findFit 94 = .ok (.iaload, 1) := by decide +kernel
theorem dX8_findFit_95 : decode cX8_findFit 95 = .ok (.imul, 1) := by decide +kernel
theorem dX8_findFit_96 : decode cX8_findFit 96 = .ok (.aload_n 0, 1) := by decide +kernel
theorem dX8_findFit_97 : decode cX8_findFit 97 = .ok (.getfield 54, 3) := by decide +kernel
theorem dX8_findFit_100 : decode cX8_findFit 100 = .ok (.iload 15, 2) := by decide +kernel
theorem dX8_findFit_102 : decode cX8_findFit 102 = .ok (.iaload, 1) := by decide +kernel
theorem dX8_findFit_103 : decode cX8_findFit 103 = .ok (.aload_n 0, 1) := by decide +kernel
theorem dX8_findFit_104 : decode cX8_findFit 104 = .ok (.getfield 54, 3) := by decide +kernel
theorem dX8_findFit_107 : decode cX8_findFit 107 = .ok (.iload 15, 2) := by decide +kernel
theorem dX8_findFit_109 : decode cX8_findFit 109 = .ok (.iaload, 1) := by decide +kernel
theorem dX8_findFit_110 : decode cX8_findFit 110 = .ok (.imul, 1) := by decide +kernel
theorem dX8_findFit_111 : decode cX8_findFit 111 = .ok (.iadd, 1) := by decide +kernel
theorem dX8_findFit_112 : decode cX8_findFit 112 = .ok (.i2l, 1) := by decide +kernel
theorem dX8_findFit_113 : decode cX8_findFit 113 = .ok (.ladd, 1) := by decide +kernel
theorem dX8_findFit_114 : decode cX8_findFit 114 = .ok (.lstore 9, 2) := by decide +kernel
theorem dX8_findFit_116 : decode cX8_findFit 116 = .ok (.lload 11, 2) := by decide +kernel
theorem dX8_findFit_118 : decode cX8_findFit 118 = .ok (.aload_n 0, 1) := by decide +kernel
theorem dX8_findFit_119 : decode cX8_findFit 119 = .ok (.getfield 51, 3) := by decide +kernel
theorem dX8_findFit_122 : decode cX8_findFit 122 = .ok (.iload 15, 2) := by decide +kernel
theorem dX8_findFit_124 : decode cX8_findFit 124 = .ok (.iaload, 1) := by decide +kernel
theorem dX8_findFit_125 : decode cX8_findFit 125 = .ok (.aload_n 0, 1) := by decide +kernel
theorem dX8_findFit_126 : decode cX8_findFit 126 = .ok (.getfield 57, 3) := by decide +kernel
theorem dX8_findFit_129 : decode cX8_findFit 129 = .ok (.iload 15, 2) := by decide +kernel
theorem dX8_findFit_131 : decode cX8_findFit 131 = .ok (.iaload, 1) := by decide +kernel
theorem dX8_findFit_132 : decode cX8_findFit 132 = .ok (.imul, 1) := by decide +kernel
theorem dX8_findFit_133 : decode cX8_findFit 133 = .ok (.aload_n 0, 1) := by decide +kernel
theorem dX8_findFit_134 : decode cX8_findFit 134 = .ok (.getfield 54, 3) := by decide +kernel
theorem dX8_findFit_137 : decode cX8_findFit 137 = .ok (.iload 15, 2) := by decide +kernel
theorem dX8_findFit_139 : decode cX8_findFit 139 = .ok (.iaload, 1) := by decide +kernel
theorem dX8_findFit_140 : decode cX8_findFit 140 = .ok (.aload_n 0, 1) := by decide +kernel
theorem dX8_findFit_141 : decode cX8_findFit 141 = .ok (.getfield 60, 3) := by decide +kernel
theorem dX8_findFit_144 : decode cX8_findFit 144 = .ok (.iload 15, 2) := by decide +kernel
theorem dX8_findFit_146 : decode cX8_findFit 146 = .ok (.iaload, 1) := by decide +kernel
theorem dX8_findFit_147 : decode cX8_findFit 147 = .ok (.imul, 1) := by decide +kernel
theorem dX8_findFit_148 : decode cX8_findFit 148 = .ok (.iadd, 1) := by decide +kernel
theorem dX8_findFit_149 : decode cX8_findFit 149 = .ok (.i2l, 1) := by decide +kernel
theorem dX8_findFit_150 : decode cX8_findFit 150 = .ok (.ladd, 1) := by decide +kernel
theorem dX8_findFit_151 : decode cX8_findFit 151 = .ok (.lstore 11, 2) := by decide +kernel
theorem dX8_findFit_153 : decode cX8_findFit 153 = .ok (.lload 13, 2) := by decide +kernel
theorem dX8_findFit_155 : decode cX8_findFit 155 = .ok (.aload_n 0, 1) := by decide +kernel
theorem dX8_findFit_156 : decode cX8_findFit 156 = .ok (.getfield 51, 3) := by decide +kernel
theorem dX8_findFit_159 : decode cX8_findFit 159 = .ok (.iload 15, 2) := by decide +kernel
theorem dX8_findFit_161 : decode cX8_findFit 161 = .ok (.iaload, 1) := by decide +kernel
theorem dX8_findFit_162 : decode cX8_findFit 162 = .ok (.aload_n 0, 1) := by decide +kernel
theorem dX8_findFit_163 : decode cX8_findFit 163 = .ok (.getfield 60, 3) := by decide +kernel
theorem dX8_findFit_166 : decode cX8_findFit 166 = .ok (.iload 15, 2) := by decide +kernel
theorem dX8_findFit_168 : decode cX8_findFit 168 = .ok (.iaload, 1) := by decide +kernel
theorem dX8_findFit_169 : decode cX8_findFit 169 = .ok (.imul, 1) := by decide +kernel
theorem dX8_findFit_170 : decode cX8_findFit 170 = .ok (.aload_n 0, 1) := by decide +kernel
theorem dX8_findFit_171 : decode cX8_findFit 171 = .ok (.getfield 54, 3) := by decide +kernel
theorem dX8_findFit_174 : decode cX8_findFit 174 = .ok (.iload 15, 2) := by decide +kernel
theorem dX8_findFit_176 : decode cX8_findFit 176 = .ok (.iaload, 1) := by decide +kernel
theorem dX8_findFit_177 : decode cX8_findFit 177 = .ok (.aload_n 0, 1) := by decide +kernel
theorem dX8_findFit_178 : decode cX8_findFit 178 = .ok (.getfield 57, 3) := by decide +kernel
theorem dX8_findFit_181 : decode cX8_findFit 181 = .ok (.iload 15, 2) := by decide +kernel
theorem dX8_findFit_183 : decode cX8_findFit 183 = .ok (.iaload, 1) := by decide +kernel
theorem dX8_findFit_184 : decode cX8_findFit 184 = .ok (.imul, 1) := by decide +kernel
theorem dX8_findFit_185 : decode cX8_findFit 185 = .ok (.isub, 1) := by decide +kernel
theorem dX8_findFit_186 : decode cX8_findFit 186 = .ok (.i2l, 1) := by decide +kernel
theorem dX8_findFit_187 : decode cX8_findFit 187 = .ok (.ladd, 1) := by decide +kernel
theorem dX8_findFit_188 : decode cX8_findFit 188 = .ok (.lstore 13, 2) := by decide +kernel
theorem dX8_findFit_190 : decode cX8_findFit 190 = .ok (.iinc 15 1, 3) := by decide +kernel
theorem dX8_findFit_193 : decode cX8_findFit 193 = .ok (.goto (-171), 3) := by decide +kernel
theorem dX8_findFit_196 : decode cX8_findFit 196 = .ok (.aload_n 0, 1) := by decide +kernel
theorem dX8_findFit_197 : decode cX8_findFit 197 = .ok (.aload_n 0, 1) := by decide +kernel
theorem dX8_findFit_198 : decode cX8_findFit 198 = .ok (.getfield 159, 3) := by decide +kernel
theorem dX8_findFit_201 : decode cX8_findFit 201 = .ok (.i2l, 1) := by decide +kernel
theorem dX8_findFit_202 : decode cX8_findFit 202 = .ok (.lload 9, 2) := by decide +kernel
theorem dX8_findFit_204 : decode cX8_findFit 204 = .ok (.lmul, 1) := by decide +kernel
theorem dX8_findFit_205 : decode cX8_findFit 205 = .ok (.lload_n 1, 1) := by decide +kernel
theorem dX8_findFit_206 : decode cX8_findFit 206 = .ok (.lload_n 1, 1) := by decide +kernel
theorem dX8_findFit_207 : decode cX8_findFit 207 = .ok (.lmul, 1) := by decide +kernel
theorem dX8_findFit_208 : decode cX8_findFit 208 = .ok (.lsub, 1) := by decide +kernel
theorem dX8_findFit_209 : decode cX8_findFit 209 = .ok (.lload_n 3, 1) := by decide +kernel
theorem dX8_findFit_210 : decode cX8_findFit 210 = .ok (.lload_n 3, 1) := by decide +kernel
theorem dX8_findFit_211 : decode cX8_findFit 211 = .ok (.lmul, 1) := by decide +kernel
theorem dX8_findFit_212 : decode cX8_findFit 212 = .ok (.lsub, 1) := by decide +kernel
theorem dX8_findFit_213 : decode cX8_findFit 213 = .ok (.putfield 162, 3) := by decide +kernel
theorem dX8_findFit_216 : decode cX8_findFit 216 = .ok (.aload_n 0, 1) := by decide +kernel
theorem dX8_findFit_217 : decode cX8_findFit 217 = .ok (.aload_n 0, 1) := by decide +kernel
theorem dX8_findFit_218 : decode cX8_findFit 218 = .ok (.getfield 159, 3) := by decide +kernel
theorem dX8_findFit_221 : decode cX8_findFit 221 = .ok (.i2l, 1) := by decide +kernel
theorem dX8_findFit_222 : decode cX8_findFit 222 = .ok (.lload 11, 2) := by decide +kernel
theorem dX8_findFit_224 : decode cX8_findFit 224 = .ok (.lmul, 1) := by decide +kernel
theorem dX8_findFit_225 : decode cX8_findFit 225 = .ok (.lload_n 1, 1) := by decide +kernel
theorem dX8_findFit_226 : decode cX8_findFit 226 = .ok (.lload 5, 2) := by decide +kernel
theorem dX8_findFit_228 : decode cX8_findFit 228 = .ok (.lmul, 1) := by decide +kernel
theorem dX8_findFit_229 : decode cX8_findFit 229 = .ok (.lsub, 1) := by decide +kernel
theorem dX8_findFit_230 : decode cX8_findFit 230 = .ok (.lload_n 3, 1) := by decide +kernel
theorem dX8_findFit_231 : decode cX8_findFit 231 = .ok (.lload 7, 2) := by decide +kernel
theorem dX8_findFit_233 : decode cX8_findFit 233 = .ok (.lmul, 1) := by decide +kernel
theorem dX8_findFit_234 : decode cX8_findFit 234 = .ok (.lsub, 1) := by decide +kernel
theorem dX8_findFit_235 : decode cX8_findFit 235 = .ok (.putfield 166, 3) := by decide +kernel
theorem dX8_findFit_238 : decode cX8_findFit 238 = .ok (.aload_n 0, 1) := by decide +kernel
theorem dX8_findFit_239 : decode cX8_findFit 239 = .ok (.aload_n 0, 1) := by decide +kernel
theorem dX8_findFit_240 : decode cX8_findFit 240 = .ok (.getfield 159, 3) := by decide +kernel
theorem dX8_findFit_243 : decode cX8_findFit 243 = .ok (.i2l, 1) := by decide +kernel
theorem dX8_findFit_244 : decode cX8_findFit 244 = .ok (.lload 13, 2) := by decide +kernel
theorem dX8_findFit_246 : decode cX8_findFit 246 = .ok (.lmul, 1) := by decide +kernel
theorem dX8_findFit_247 : decode cX8_findFit 247 = .ok (.lload_n 1, 1) := by decide +kernel
theorem dX8_findFit_248 : decode cX8_findFit 248 = .ok (.lload 7, 2) := by decide +kernel
theorem dX8_findFit_250 : decode cX8_findFit 250 = .ok (.lmul, 1) := by decide +kernel
theorem dX8_findFit_251 : decode cX8_findFit 251 = .ok (.lsub, 1) := by decide +kernel
theorem dX8_findFit_252 : decode cX8_findFit 252 = .ok (.lload_n 3, 1) := by decide +kernel
theorem dX8_findFit_253 : decode cX8_findFit 253 = .ok (.lload 5, 2) := by decide +kernel
theorem dX8_findFit_255 : decode cX8_findFit 255 = .ok (.lmul, 1) := by decide +kernel
theorem dX8_findFit_256 : decode cX8_findFit 256 = .ok (.ladd, 1) := by decide +kernel
theorem dX8_findFit_257 : decode cX8_findFit 257 = .ok (.putfield 169, 3) := by decide +kernel
theorem dX8_findFit_260 : decode cX8_findFit 260 = .ok (.aload_n 0, 1) := by decide +kernel
theorem dX8_findFit_261 : decode cX8_findFit 261 = .ok (.lload 5, 2) := by decide +kernel
theorem dX8_findFit_263 : decode cX8_findFit 263 = .ok (.aload_n 0, 1) := by decide +kernel
theorem dX8_findFit_264 : decode cX8_findFit 264 = .ok (.getfield 162, 3) := by decide +kernel
theorem dX8_findFit_267 : decode cX8_findFit 267 = .ok (.lmul, 1) := by decide +kernel
theorem dX8_findFit_268 : decode cX8_findFit 268 = .ok (.aload_n 0, 1) := by decide +kernel
theorem dX8_findFit_269 : decode cX8_findFit 269 = .ok (.getfield 166, 3) := by decide +kernel
theorem dX8_findFit_272 : decode cX8_findFit 272 = .ok (.lload_n 1, 1) := by decide +kernel
theorem dX8_findFit_273 : decode cX8_findFit 273 = .ok (.lmul, 1) := by decide +kernel
theorem dX8_findFit_274 : decode cX8_findFit 274 = .ok (.lsub, 1) := by decide +kernel
theorem dX8_findFit_275 : decode cX8_findFit 275 = .ok (.aload_n 0, 1) := by decide +kernel
theorem dX8_findFit_276 : decode cX8_findFit 276 = .ok (.getfield 169, 3) := by decide +kernel
theorem dX8_findFit_279 : decode cX8_findFit 279 = .ok (.lload_n 3, 1) := by decide +kernel
theorem dX8_findFit_280 : decode cX8_findFit 280 = .ok (.lmul, 1) := by decide +kernel
theorem dX8_findFit_281 : decode cX8_findFit 281 = .ok (.ladd, 1) := by decide +kernel
theorem dX8_findFit_282 : decode cX8_findFit 282 = .ok (.putfield 172, 3) := by decide +kernel
theorem dX8_findFit_285 : decode cX8_findFit 285 = .ok (.aload_n 0, 1) := by decide +kernel
theorem dX8_findFit_286 : decode cX8_findFit 286 = .ok (.lload 7, 2) := by decide +kernel
theorem dX8_findFit_288 : decode cX8_findFit 288 = .ok (.aload_n 0, 1) := by decide +kernel
theorem dX8_findFit_289 : decode cX8_findFit 289 = .ok (.getfield 162, 3) := by decide +kernel
theorem dX8_findFit_292 : decode cX8_findFit 292 = .ok (.lmul, 1) := by decide +kernel
theorem dX8_findFit_293 : decode cX8_findFit 293 = .ok (.aload_n 0, 1) := by decide +kernel
theorem dX8_findFit_294 : decode cX8_findFit 294 = .ok (.getfield 166, 3) := by decide +kernel
theorem dX8_findFit_297 : decode cX8_findFit 297 = .ok (.lload_n 3, 1) := by decide +kernel
theorem dX8_findFit_298 : decode cX8_findFit 298 = .ok (.lmul, 1) := by decide +kernel
theorem dX8_findFit_299 : decode cX8_findFit 299 = .ok (.lsub, 1) := by decide +kernel
theorem dX8_findFit_300 : decode cX8_findFit 300 = .ok (.aload_n 0, 1) := by decide +kernel
theorem dX8_findFit_301 : decode cX8_findFit 301 = .ok (.getfield 169, 3) := by decide +kernel
theorem dX8_findFit_304 : decode cX8_findFit 304 = .ok (.lload_n 1, 1) := by decide +kernel
theorem dX8_findFit_305 : decode cX8_findFit 305 = .ok (.lmul, 1) := by decide +kernel
theorem dX8_findFit_306 : decode cX8_findFit 306 = .ok (.lsub, 1) := by decide +kernel
theorem dX8_findFit_307 : decode cX8_findFit 307 = .ok (.putfield 175, 3) := by decide +kernel
theorem dX8_findFit_310 : decode cX8_findFit 310 = .ok (.aload_n 0, 1) := by decide +kernel
theorem dX8_findFit_311 : decode cX8_findFit 311 = .ok (.getfield 162, 3) := by decide +kernel
theorem dX8_findFit_314 : decode cX8_findFit 314 = .ok (.lconst 0, 1) := by decide +kernel
theorem dX8_findFit_315 : decode cX8_findFit 315 = .ok (.lcmp, 1) := by decide +kernel
theorem dX8_findFit_316 : decode cX8_findFit 316 = .ok (.ifCond .le 7, 3) := by decide +kernel
theorem dX8_findFit_319 : decode cX8_findFit 319 = .ok (.iconst 1, 1) := by decide +kernel
theorem dX8_findFit_320 : decode cX8_findFit 320 = .ok (.goto 4, 3) := by decide +kernel
theorem dX8_findFit_323 : decode cX8_findFit 323 = .ok (.iconst 0, 1) := by decide +kernel
theorem dX8_findFit_324 : decode cX8_findFit 324 = .ok (.ireturn, 1) := by decide +kernel
theorem dX8_lowest_0 : decode cX8_lowest 0 = .ok (.lload_n 0, 1) := by decide +kernel
theorem dX8_lowest_1 : decode cX8_lowest 1 = .ok (.lconst 0, 1) := by decide +kernel
theorem dX8_lowest_2 : decode cX8_lowest 2 = .ok (.lcmp, 1) := by decide +kernel
theorem dX8_lowest_3 : decode cX8_lowest 3 = .ok (.ifCond .ge 8, 3) := by decide +kernel
theorem dX8_lowest_6 : decode cX8_lowest 6 = .ok (.lload_n 0, 1) := by decide +kernel
theorem dX8_lowest_7 : decode cX8_lowest 7 = .ok (.lneg, 1) := by decide +kernel
theorem dX8_lowest_8 : decode cX8_lowest 8 = .ok (.goto 4, 3) := by decide +kernel
theorem dX8_lowest_11 : decode cX8_lowest 11 = .ok (.lload_n 0, 1) := by decide +kernel
theorem dX8_lowest_12 : decode cX8_lowest 12 = .ok (.lstore 5, 2) := by decide +kernel
theorem dX8_lowest_14 : decode cX8_lowest 14 = .ok (.lload_n 2, 1) := by decide +kernel
theorem dX8_lowest_15 : decode cX8_lowest 15 = .ok (.lstore 7, 2) := by decide +kernel
theorem dX8_lowest_17 : decode cX8_lowest 17 = .ok (.lload 7, 2) := by decide +kernel
theorem dX8_lowest_19 : decode cX8_lowest 19 = .ok (.lconst 0, 1) := by decide +kernel
theorem dX8_lowest_20 : decode cX8_lowest 20 = .ok (.lcmp, 1) := by decide +kernel
theorem dX8_lowest_21 : decode cX8_lowest 21 = .ok (.ifCond .eq 21, 3) := by decide +kernel
theorem dX8_lowest_24 : decode cX8_lowest 24 = .ok (.lload 5, 2) := by decide +kernel
theorem dX8_lowest_26 : decode cX8_lowest 26 = .ok (.lload 7, 2) := by decide +kernel
theorem dX8_lowest_28 : decode cX8_lowest 28 = .ok (.lrem, 1) := by decide +kernel
theorem dX8_lowest_29 : decode cX8_lowest 29 = .ok (.lstore 9, 2) := by decide +kernel
theorem dX8_lowest_31 : decode cX8_lowest 31 = .ok (.lload 7, 2) := by decide +kernel
theorem dX8_lowest_33 : decode cX8_lowest 33 = .ok (.lstore 5, 2) := by decide +kernel
theorem dX8_lowest_35 : decode cX8_lowest 35 = .ok (.lload 9, 2) := by decide +kernel
theorem dX8_lowest_37 : decode cX8_lowest 37 = .ok (.lstore 7, 2) := by decide +kernel
theorem dX8_lowest_39 : decode cX8_lowest 39 = .ok (.goto (-22), 3) := by decide +kernel
theorem dX8_lowest_42 : decode cX8_lowest 42 = .ok (.iload 4, 2) := by decide +kernel
theorem dX8_lowest_44 : decode cX8_lowest 44 = .ok (.ifCond .ne 10, 3) := by decide +kernel
theorem dX8_lowest_47 : decode cX8_lowest 47 = .ok (.lload_n 0, 1) := by decide +kernel
theorem dX8_lowest_48 : decode cX8_lowest 48 = .ok (.lload 5, 2) := by decide +kernel
theorem dX8_lowest_50 : decode cX8_lowest 50 = .ok (.ldiv, 1) := by decide +kernel
theorem dX8_lowest_51 : decode cX8_lowest 51 = .ok (.goto 7, 3) := by decide +kernel
theorem dX8_lowest_54 : decode cX8_lowest 54 = .ok (.lload_n 2, 1) := by decide +kernel
theorem dX8_lowest_55 : decode cX8_lowest 55 = .ok (.lload 5, 2) := by decide +kernel
theorem dX8_lowest_57 : decode cX8_lowest 57 = .ok (.ldiv, 1) := by decide +kernel
theorem dX8_lowest_58 : decode cX8_lowest 58 = .ok (.lreturn, 1) := by decide +kernel
set_option maxRecDepth 20000 in
theorem ggX8_fit_X8_in : GoodIn wsX8_fit wsX8_in := goodIn_r _ [13] rfl (by decide +kernel)
set_option maxRecDepth 20000 in
theorem gX8_fit_X8_in : GoodIn wsX8_fit (va_wsS RX8 103 yX8_in wsX8_in) := goodIn_app (goodIn_of _ (by decide +kernel)) ggX8_fit_X8_in
set_option maxRecDepth 20000 in
theorem ggX8_fit_X8_findFit : GoodIn wsX8_fit wsX8_findFit := goodIn_r _ [17, 8, 18, 19, 20, 21, 5, 4, 6, 7, 9, 25, 26, 27, 28, 29, 30, 31, 32, 33, 34, 35, 36, 37, 38, 39, 40, 41, 42, 43, 44, 45, 46, 47, 48, 49, 50, 51, 52, 53, 54, 55, 56, 57, 58, 59, 60, 61] rfl (by decide +kernel)
set_option maxRecDepth 20000 in
theorem gX8_fit_X8_findFit : GoodIn wsX8_fit (wsV RX8 182 RX8 yX8_findFit wsX8_findFit) := goodIn_app (goodIn_of _ (by decide +kernel)) ggX8_fit_X8_findFit
set_option maxRecDepth 20000 in
theorem ggX8_fit_X8_lowest : GoodIn wsX8_fit wsX8_lowest := goodIn_r _ [24] rfl (by decide +kernel)
set_option maxRecDepth 20000 in
theorem gX8_fit_X8_lowest : GoodIn wsX8_fit (va_wsS RX8 188 yX8_lowest wsX8_lowest) := goodIn_app (goodIn_of _ (by decide +kernel)) ggX8_fit_X8_lowest
theorem dX8_fit_0 : decode cX8_fit 0 = .ok (.iload_n 1, 1) := by decide +kernel
theorem dX8_fit_1 : decode cX8_fit 1 = .ok (.i2l, 1) := by decide +kernel
theorem dX8_fit_2 : decode cX8_fit 2 = .ok (.lconst 0, 1) := by decide +kernel
theorem dX8_fit_3 : decode cX8_fit 3 = .ok (.ldc2_w 178, 3) := by decide +kernel
theorem dX8_fit_6 : decode cX8_fit 6 = .ok (.invokestatic 103, 3) := by decide +kernel
theorem dX8_fit_9 : decode cX8_fit 9 = .ok (.ifCond .eq 13, 3) := by decide +kernel
theorem dX8_fit_12 : decode cX8_fit 12 = .ok (.iload_n 2, 1) := by decide +kernel
theorem dX8_fit_13 : decode cX8_fit 13 = .ok (.i2l, 1) := by decide +kernel
theorem dX8_fit_14 : decode cX8_fit 14 = .ok (.lconst 0, 1) := by decide +kernel
theorem dX8_fit_15 : decode cX8_fit 15 = .ok (.lconst 1, 1) := by decide +kernel
theorem dX8_fit_16 : decode cX8_fit 16 = .ok (.invokestatic 103, 3) := by decide +kernel
theorem dX8_fit_19 : decode cX8_fit 19 = .ok (.ifCond .ne 7, 3) := by decide +kernel
theorem dX8_fit_22 : decode cX8_fit 22 = .ok (.ldc2_w 180, 3) := by decide +kernel
theorem dX8_fit_25 : decode cX8_fit 25 = .ok (.lreturn, 1) := by decide +kernel
theorem dX8_fit_26 : decode cX8_fit 26 = .ok (.aload_n 0, 1) := by decide +kernel
theorem dX8_fit_27 : decode cX8_fit 27 = .ok (.invokevirtual 182, 3) := by decide +kernel
theorem dX8_fit_30 : decode cX8_fit 30 = .ok (.ifCond .ne 7, 3) := by decide +kernel
theorem dX8_fit_33 : decode cX8_fit 33 = .ok (.ldc2_w 186, 3) := by decide +kernel
theorem dX8_fit_36 : decode cX8_fit 36 = .ok (.lreturn, 1) := by decide +kernel
theorem dX8_fit_37 : decode cX8_fit 37 = .ok (.iload_n 1, 1) := by decide +kernel
theorem dX8_fit_38 : decode cX8_fit 38 = .ok (.tableswitch 71 0 2 #[26, 39, 52], 26) := by decide +kernel
theorem dX8_fit_64 : decode cX8_fit 64 = .ok (.aload_n 0, 1) := by decide +kernel
theorem dX8_fit_65 : decode cX8_fit 65 = .ok (.getfield 166, 3) := by decide +kernel
theorem dX8_fit_68 : decode cX8_fit 68 = .ok (.aload_n 0, 1) := by decide +kernel
theorem dX8_fit_69 : decode cX8_fit 69 = .ok (.getfield 162, 3) := by decide +kernel
theorem dX8_fit_72 : decode cX8_fit 72 = .ok (.iload_n 2, 1) := by decide +kernel
theorem dX8_fit_73 : decode cX8_fit 73 = .ok (.invokestatic 188, 3) := by decide +kernel
theorem dX8_fit_76 : decode cX8_fit 76 = .ok (.lreturn, 1) := by decide +kernel
theorem dX8_fit_77 : decode cX8_fit 77 = .ok (.aload_n 0, 1) := by decide +kernel
theorem dX8_fit_78 : decode cX8_fit 78 = .ok (.getfield 169, 3) := by decide +kernel
theorem dX8_fit_81 : decode cX8_fit 81 = .ok (.aload_n 0, 1) := by decide +kernel
theorem dX8_fit_82 : decode cX8_fit 82 = .ok (.getfield 162, 3) := by decide +kernel
theorem dX8_fit_85 : decode cX8_fit 85 = .ok (.iload_n 2, 1) := by decide +kernel
theorem dX8_fit_86 : decode cX8_fit 86 = .ok (.invokestatic 188, 3) := by decide +kernel
theorem dX8_fit_89 : decode cX8_fit 89 = .ok (.lreturn, 1) := by decide +kernel
theorem dX8_fit_90 : decode cX8_fit 90 = .ok (.aload_n 0, 1) := by decide +kernel
theorem dX8_fit_91 : decode cX8_fit 91 = .ok (.getfield 172, 3) := by decide +kernel
theorem dX8_fit_94 : decode cX8_fit 94 = .ok (.aload_n 0, 1) := by decide +kernel
theorem dX8_fit_95 : decode cX8_fit 95 = .ok (.getfield 162, 3) := by decide +kernel
theorem dX8_fit_98 : decode cX8_fit 98 = .ok (.aload_n 0, 1) := by decide +kernel
theorem dX8_fit_99 : decode cX8_fit 99 = .ok (.getfield 159, 3) := by decide +kernel
theorem dX8_fit_102 : decode cX8_fit 102 = .ok (.i2l, 1) := by decide +kernel
theorem dX8_fit_103 : decode cX8_fit 103 = .ok (.lmul, 1) := by decide +kernel
theorem dX8_fit_104 : decode cX8_fit 104 = .ok (.iload_n 2, 1) := by decide +kernel
theorem dX8_fit_105 : decode cX8_fit 105 = .ok (.invokestatic 188, 3) := by decide +kernel
theorem dX8_fit_108 : decode cX8_fit 108 = .ok (.lreturn, 1) := by decide +kernel
theorem dX8_fit_109 : decode cX8_fit 109 = .ok (.aload_n 0, 1) := by decide +kernel
theorem dX8_fit_110 : decode cX8_fit 110 = .ok (.getfield 175, 3) := by decide +kernel
theorem dX8_fit_113 : decode cX8_fit 113 = .ok (.aload_n 0, 1) := by decide +kernel
theorem dX8_fit_114 : decode cX8_fit 114 = .ok (.getfield 162, 3) := by decide +kernel
theorem dX8_fit_117 : decode cX8_fit 117 = .ok (.aload_n 0, 1) := by decide +kernel
theorem dX8_fit_118 : decode cX8_fit 118 = .ok (.getfield 159, 3) := by decide +kernel
theorem dX8_fit_121 : decode cX8_fit 121 = .ok (.i2l, 1) := by decide +kernel
theorem dX8_fit_122 : decode cX8_fit 122 = .ok (.lmul, 1) := by decide +kernel
theorem dX8_fit_123 : decode cX8_fit 123 = .ok (.iload_n 2, 1) := by decide +kernel
theorem dX8_fit_124 : decode cX8_fit 124 = .ok (.invokestatic 188, 3) := by decide +kernel
theorem dX8_fit_127 : decode cX8_fit 127 = .ok (.lreturn, 1) := by decide +kernel
set_option maxRecDepth 20000 in
theorem ggX8_off_X8_in : GoodIn wsX8_off wsX8_in := goodIn_r _ [18] rfl (by decide +kernel)
set_option maxRecDepth 20000 in
theorem gX8_off_X8_in : GoodIn wsX8_off (va_wsS RX8 103 yX8_in wsX8_in) := goodIn_app (goodIn_of _ (by decide +kernel)) ggX8_off_X8_in
set_option maxRecDepth 20000 in
theorem ggX8_off_X8_findFit : GoodIn wsX8_off wsX8_findFit := goodIn_r _ [22, 1, 8, 10, 6, 12, 5, 7, 9, 11, 13, 23, 24, 25, 26, 27, 28, 29, 30, 31, 32, 33, 34, 35, 36, 37, 38, 39, 40, 41, 42, 43, 44, 45, 46, 47, 48, 49, 50, 51, 52, 53, 54, 55, 56, 57, 58, 59] rfl (by decide +kernel)
set_option maxRecDepth 20000 in
theorem gX8_off_X8_findFit : GoodIn wsX8_off (wsV RX8 182 RX8 yX8_findFit wsX8_findFit) := goodIn_app (goodIn_of _ (by decide +kernel)) ggX8_off_X8_findFit
theorem dX8_off_0 : decode cX8_off 0 = .ok (.iload_n 1, 1) := by decide +kernel
theorem dX8_off_1 : decode cX8_off 1 = .ok (.i2l, 1) := by decide +kernel
theorem dX8_off_2 : decode cX8_off 2 = .ok (.lconst 0, 1) := by decide +kernel
theorem dX8_off_3 : decode cX8_off 3 = .ok (.aload_n 0, 1) := by decide +kernel
theorem dX8_off_4 : decode cX8_off 4 = .ok (.getfield 159, 3) := by decide +kernel
theorem dX8_off_7 : decode cX8_off 7 = .ok (.iconst 1, 1) := by decide +kernel
theorem dX8_off_8 : decode cX8_off 8 = .ok (.isub, 1) := by decide +kernel
theorem dX8_off_9 : decode cX8_off 9 = .ok (.i2l, 1) := by decide +kernel
theorem dX8_off_10 : decode cX8_off 10 = .ok (.invokestatic 103, 3) := by decide +kernel
theorem dX8_off_13 : decode cX8_off 13 = .ok (.ifCond .ne 6, 3) := by decide +kernel
theorem dX8_off_16 : decode cX8_off 16 = .ok (.ldc 113, 2) := by decide +kernel
theorem dX8_off_18 : decode cX8_off 18 = .ok (.ireturn, 1) := by decide +kernel
theorem dX8_off_19 : decode cX8_off 19 = .ok (.iload_n 2, 1) := by decide +kernel
theorem dX8_off_20 : decode cX8_off 20 = .ok (.i2l, 1) := by decide +kernel
theorem dX8_off_21 : decode cX8_off 21 = .ok (.lconst 0, 1) := by decide +kernel
theorem dX8_off_22 : decode cX8_off 22 = .ok (.lconst 1, 1) := by decide +kernel
theorem dX8_off_23 : decode cX8_off 23 = .ok (.invokestatic 103, 3) := by decide +kernel
theorem dX8_off_26 : decode cX8_off 26 = .ok (.ifCond .ne 6, 3) := by decide +kernel
theorem dX8_off_29 : decode cX8_off 29 = .ok (.ldc 118, 2) := by decide +kernel
theorem dX8_off_31 : decode cX8_off 31 = .ok (.ireturn, 1) := by decide +kernel
theorem dX8_off_32 : decode cX8_off 32 = .ok (.aload_n 0, 1) := by decide +kernel
theorem dX8_off_33 : decode cX8_off 33 = .ok (.invokevirtual 182, 3) := by decide +kernel
theorem dX8_off_36 : decode cX8_off 36 = .ok (.ifCond .ne 6, 3) := by decide +kernel
theorem dX8_off_39 : decode cX8_off 39 = .ok (.ldc 192, 2) := by decide +kernel
theorem dX8_off_41 : decode cX8_off 41 = .ok (.ireturn, 1) := by decide +kernel
theorem dX8_off_42 : decode cX8_off 42 = .ok (.aload_n 0, 1) := by decide +kernel
theorem dX8_off_43 : decode cX8_off 43 = .ok (.getfield 162, 3) := by decide +kernel
theorem dX8_off_46 : decode cX8_off 46 = .ok (.aload_n 0, 1) := by decide +kernel
theorem dX8_off_47 : decode cX8_off 47 = .ok (.getfield 159, 3) := by decide +kernel
theorem dX8_off_50 : decode cX8_off 50 = .ok (.i2l, 1) := by decide +kernel
theorem dX8_off_51 : decode cX8_off 51 = .ok (.lmul, 1) := by decide +kernel
theorem dX8_off_52 : decode cX8_off 52 = .ok (.lstore_n 3, 1) := by decide +kernel
theorem dX8_off_53 : decode cX8_off 53 = .ok (.iload_n 2, 1) := by decide +kernel
theorem dX8_off_54 : decode cX8_off 54 = .ok (.ifCond .ne 54, 3) := by decide +kernel
theorem dX8_off_57 : decode cX8_off 57 = .ok (.aload_n 0, 1) := by decide +kernel
theorem dX8_off_58 : decode cX8_off 58 = .ok (.getfield 57, 3) := by decide +kernel
theorem dX8_off_61 : decode cX8_off 61 = .ok (.iload_n 1, 1) := by decide +kernel
theorem dX8_off_62 : decode cX8_off 62 = .ok (.iaload, 1) := by decide +kernel
theorem dX8_off_63 : decode cX8_off 63 = .ok (.i2l, 1) := by decide +kernel
theorem dX8_off_64 : decode cX8_off 64 = .ok (.lload_n 3, 1) := by decide +kernel
theorem dX8_off_65 : decode cX8_off 65 = .ok (.lmul, 1) := by decide +kernel
theorem dX8_off_66 : decode cX8_off 66 = .ok (.aload_n 0, 1) := by decide +kernel
theorem dX8_off_67 : decode cX8_off 67 = .ok (.getfield 159, 3) := by decide +kernel
theorem dX8_off_70 : decode cX8_off 70 = .ok (.i2l, 1) := by decide +kernel
theorem dX8_off_71 : decode cX8_off 71 = .ok (.aload_n 0, 1) := by decide +kernel
theorem dX8_off_72 : decode cX8_off 72 = .ok (.getfield 166, 3) := by decide +kernel
theorem dX8_off_75 : decode cX8_off 75 = .ok (.aload_n 0, 1) := by decide +kernel
theorem dX8_off_76 : decode cX8_off 76 = .ok (.getfield 51, 3) := by decide +kernel
theorem dX8_off_79 : decode cX8_off 79 = .ok (.iload_n 1, 1) := by decide +kernel
theorem dX8_off_80 : decode cX8_off 80 = .ok (.iaload, 1) := by decide +kernel
theorem dX8_off_81 : decode cX8_off 81 = .ok (.i2l, 1) := by decide +kernel
theorem dX8_off_82 : decode cX8_off 82 = .ok (.lmul, 1) := by decide +kernel
theorem dX8_off_83 : decode cX8_off 83 = .ok (.aload_n 0, 1) := by decide +kernel
theorem dX8_off_84 : decode cX8_off 84 = .ok (.getfield 169, 3) := by decide +kernel
theorem dX8_off_87 : decode cX8_off 87 = .ok (.aload_n 0, 1) := by decide +kernel
theorem dX8_off_88 : decode cX8_off 88 = .ok (.getfield 54, 3) := by decide +kernel
theorem dX8_off_91 : decode cX8_off 91 = .ok (.iload_n 1, 1) := by decide +kernel
theorem dX8_off_92 : decode cX8_off 92 = .ok (.iaload, 1) := by decide +kernel
theorem dX8_off_93 : decode cX8_off 93 = .ok (.i2l, 1) := by decide +kernel
theorem dX8_off_94 : decode cX8_off 94 = .ok (.lmul, 1) := by decide +kernel
theorem dX8_off_95 : decode cX8_off 95 = .ok (.lsub, 1) := by decide +kernel
theorem dX8_off_96 : decode cX8_off 96 = .ok (.lmul, 1) := by decide +kernel
theorem dX8_off_97 : decode cX8_off 97 = .ok (.lsub, 1) := by decide +kernel
theorem dX8_off_98 : decode cX8_off 98 = .ok (.aload_n 0, 1) := by decide +kernel
theorem dX8_off_99 : decode cX8_off 99 = .ok (.getfield 172, 3) := by decide +kernel
theorem dX8_off_102 : decode cX8_off 102 = .ok (.lsub, 1) := by decide +kernel
theorem dX8_off_103 : decode cX8_off 103 = .ok (.lstore 5, 2) := by decide +kernel
theorem dX8_off_105 : decode cX8_off 105 = .ok (.goto 51, 3) := by decide +kernel
theorem dX8_off_108 : decode cX8_off 108 = .ok (.aload_n 0, 1) := by decide +kernel
theorem dX8_off_109 : decode cX8_off 109 = .ok (.getfield 60, 3) := by decide +kernel
theorem dX8_off_112 : decode cX8_off 112 = .ok (.iload_n 1, 1) := by decide +kernel
theorem dX8_off_113 : decode cX8_off 113 = .ok (.iaload, 1) := by decide +kernel
theorem dX8_off_114 : decode cX8_off 114 = .ok (.i2l, 1) := by decide +kernel
theorem dX8_off_115 : decode cX8_off 115 = .ok (.lload_n 3, 1) := by decide +kernel
theorem dX8_off_116 : decode cX8_off 116 = .ok (.lmul, 1) := by decide +kernel
theorem dX8_off_117 : decode cX8_off 117 = .ok (.aload_n 0, 1) := by decide +kernel
theorem dX8_off_118 : decode cX8_off 118 = .ok (.getfield 159, 3) := by decide +kernel
theorem dX8_off_121 : decode cX8_off 121 = .ok (.i2l, 1) := by decide +kernel
theorem dX8_off_122 : decode cX8_off 122 = .ok (.aload_n 0, 1) := by decide +kernel
theorem dX8_off_123 : decode cX8_off 123 = .ok (.getfield 169, 3) := by decide +kernel
theorem dX8_off_126 : decode cX8_off 126 = .ok (.aload_n 0, 1) := by decide +kernel
theorem dX8_off_127 : decode cX8_off 127 = .ok (.getfield 51, 3) := by decide +kernel
theorem dX8_off_130 : decode cX8_off 130 = .ok (.iload_n 1, 1) := by decide +kernel
theorem dX8_off_131 : decode cX8_off 131 = .ok (.iaload, 1) := by decide +kernel
theorem dX8_off_132 : decode cX8_off 132 = .ok (.i2l, 1) := by decide +kernel
theorem dX8_off_133 : decode cX8_off 133 = .ok (.lmul, 1) := by decide +kernel
theorem dX8_off_134 : decode cX8_off 134 = .ok (.aload_n 0, 1) := by decide +kernel
theorem dX8_off_135 : decode cX8_off 135 = .ok (.getfield 166, 3) := by decide +kernel
theorem dX8_off_138 : decode cX8_off 138 = .ok (.aload_n 0, 1) := by decide +kernel
theorem dX8_off_139 : decode cX8_off 139 = .ok (.getfield 54, 3) := by decide +kernel
theorem dX8_off_142 : decode cX8_off 142 = .ok (.iload_n 1, 1) := by decide +kernel
theorem dX8_off_143 : decode cX8_off 143 = .ok (.iaload, 1) := by decide +kernel
theorem dX8_off_144 : decode cX8_off 144 = .ok (.i2l, 1) := by decide +kernel
theorem dX8_off_145 : decode cX8_off 145 = .ok (.lmul, 1) := by decide +kernel
theorem dX8_off_146 : decode cX8_off 146 = .ok (.ladd, 1) := by decide +kernel
theorem dX8_off_147 : decode cX8_off 147 = .ok (.lmul, 1) := by decide +kernel
theorem dX8_off_148 : decode cX8_off 148 = .ok (.lsub, 1) := by decide +kernel
theorem dX8_off_149 : decode cX8_off 149 = .ok (.aload_n 0, 1) := by decide +kernel
theorem dX8_off_150 : decode cX8_off 150 = .ok (.getfield 175, 3) := by decide +kernel
theorem dX8_off_153 : decode cX8_off 153 = .ok (.lsub, 1) := by decide +kernel
theorem dX8_off_154 : decode cX8_off 154 = .ok (.lstore 5, 2) := by decide +kernel
theorem dX8_off_156 : decode cX8_off 156 = .ok (.ldc2_w 123, 3) := by decide +kernel
theorem dX8_off_159 : decode cX8_off 159 = .ok (.lload 5, 2) := by decide +kernel
theorem dX8_off_161 : decode cX8_off 161 = .ok (.lmul, 1) := by decide +kernel
theorem dX8_off_162 : decode cX8_off 162 = .ok (.lload_n 3, 1) := by decide +kernel
theorem dX8_off_163 : decode cX8_off 163 = .ok (.ldiv, 1) := by decide +kernel
theorem dX8_off_164 : decode cX8_off 164 = .ok (.l2i, 1) := by decide +kernel
theorem dX8_off_165 : decode cX8_off 165 = .ok (.ireturn, 1) := by decide +kernel
set_option maxRecDepth 20000 in
theorem ggX8_job_X8_in : GoodIn wsX8_job wsX8_in := goodIn_r _ [9] rfl (by decide +kernel)
set_option maxRecDepth 20000 in
theorem gX8_job_X8_in : GoodIn wsX8_job (va_wsS RX8 103 yX8_in wsX8_in) := goodIn_app (goodIn_of _ (by decide +kernel)) ggX8_job_X8_in
theorem dX8_job_0 : decode cX8_job 0 = .ok (.iload_n 1, 1) := by decide +kernel
theorem dX8_job_1 : decode cX8_job 1 = .ok (.i2l, 1) := by decide +kernel
theorem dX8_job_2 : decode cX8_job 2 = .ok (.lconst 0, 1) := by decide +kernel
theorem dX8_job_3 : decode cX8_job 3 = .ok (.ldc2_w 178, 3) := by decide +kernel
theorem dX8_job_6 : decode cX8_job 6 = .ok (.invokestatic 103, 3) := by decide +kernel
theorem dX8_job_9 : decode cX8_job 9 = .ok (.ifCond .eq 15, 3) := by decide +kernel
theorem dX8_job_12 : decode cX8_job 12 = .ok (.iload_n 2, 1) := by decide +kernel
theorem dX8_job_13 : decode cX8_job 13 = .ok (.i2l, 1) := by decide +kernel
theorem dX8_job_14 : decode cX8_job 14 = .ok (.lconst 0, 1) := by decide +kernel
theorem dX8_job_15 : decode cX8_job 15 = .ok (.ldc2_w 111, 3) := by decide +kernel
theorem dX8_job_18 : decode cX8_job 18 = .ok (.invokestatic 103, 3) := by decide +kernel
theorem dX8_job_21 : decode cX8_job 21 = .ok (.ifCond .ne 6, 3) := by decide +kernel
theorem dX8_job_24 : decode cX8_job 24 = .ok (.bipush (-2), 2) := by decide +kernel
theorem dX8_job_26 : decode cX8_job 26 = .ok (.ireturn, 1) := by decide +kernel
theorem dX8_job_27 : decode cX8_job 27 = .ok (.aload_n 0, 1) := by decide +kernel
theorem dX8_job_28 : decode cX8_job 28 = .ok (.getfield 193, 3) := by decide +kernel
theorem dX8_job_31 : decode cX8_job 31 = .ok (.bipush 7, 2) := by decide +kernel
theorem dX8_job_33 : decode cX8_job 33 = .ok (.if_icmp .ne 6, 3) := by decide +kernel
theorem dX8_job_36 : decode cX8_job 36 = .ok (.bipush (-4), 2) := by decide +kernel
theorem dX8_job_38 : decode cX8_job 38 = .ok (.ireturn, 1) := by decide +kernel
theorem dX8_job_39 : decode cX8_job 39 = .ok (.aload_n 0, 1) := by decide +kernel
theorem dX8_job_40 : decode cX8_job 40 = .ok (.getfield 63, 3) := by decide +kernel
theorem dX8_job_43 : decode cX8_job 43 = .ok (.aload_n 0, 1) := by decide +kernel
theorem dX8_job_44 : decode cX8_job 44 = .ok (.getfield 193, 3) := by decide +kernel
theorem dX8_job_47 : decode cX8_job 47 = .ok (.iload_n 1, 1) := by decide +kernel
theorem dX8_job_48 : decode cX8_job 48 = .ok (.iastore, 1) := by decide +kernel
theorem dX8_job_49 : decode cX8_job 49 = .ok (.aload_n 0, 1) := by decide +kernel
theorem dX8_job_50 : decode cX8_job 50 = .ok (.getfield 66, 3) := by decide +kernel
theorem dX8_job_53 : decode cX8_job 53 = .ok (.aload_n 0, 1) := by decide +kernel
theorem dX8_job_54 : decode cX8_job 54 = .ok (.getfield 193, 3) := by decide +kernel
theorem dX8_job_57 : decode cX8_job 57 = .ok (.iload_n 2, 1) := by decide +kernel
theorem dX8_job_58 : decode cX8_job 58 = .ok (.iastore, 1) := by decide +kernel
theorem dX8_job_59 : decode cX8_job 59 = .ok (.aload_n 0, 1) := by decide +kernel
theorem dX8_job_60 : decode cX8_job 60 = .ok (.dup, 1) := by decide +kernel
theorem dX8_job_61 : decode cX8_job 61 = .ok (.getfield 193, 3) := by decide +kernel
theorem dX8_job_64 : decode cX8_job 64 = .ok (.iconst 1, 1) := by decide +kernel
theorem dX8_job_65 : decode cX8_job 65 = .ok (.iadd, 1) := by decide +kernel
theorem dX8_job_66 : decode cX8_job 66 = .ok (.putfield 193, 3) := by decide +kernel
theorem dX8_job_69 : decode cX8_job 69 = .ok (.aload_n 0, 1) := by decide +kernel
theorem dX8_job_70 : decode cX8_job 70 = .ok (.getfield 193, 3) := by decide +kernel
theorem dX8_job_73 : decode cX8_job 73 = .ok (.iconst 1, 1) := by decide +kernel
theorem dX8_job_74 : decode cX8_job 74 = .ok (.isub, 1) := by decide +kernel
theorem dX8_job_75 : decode cX8_job 75 = .ok (.ireturn, 1) := by decide +kernel
theorem dX8_forget_0 : decode cX8_forget 0 = .ok (.aload_n 0, 1) := by decide +kernel
theorem dX8_forget_1 : decode cX8_forget 1 = .ok (.getfield 193, 3) := by decide +kernel
theorem dX8_forget_4 : decode cX8_forget 4 = .ok (.istore_n 1, 1) := by decide +kernel
theorem dX8_forget_5 : decode cX8_forget 5 = .ok (.aload_n 0, 1) := by decide +kernel
theorem dX8_forget_6 : decode cX8_forget 6 = .ok (.iconst 0, 1) := by decide +kernel
theorem dX8_forget_7 : decode cX8_forget 7 = .ok (.putfield 193, 3) := by decide +kernel
theorem dX8_forget_10 : decode cX8_forget 10 = .ok (.iload_n 1, 1) := by decide +kernel
theorem dX8_forget_11 : decode cX8_forget 11 = .ok (.ireturn, 1) := by decide +kernel
set_option maxRecDepth 20000 in
theorem ggX8_wash_X8_in : GoodIn wsX8_wash wsX8_in := goodIn_r _ [7] rfl (by decide +kernel)
set_option maxRecDepth 20000 in
theorem gX8_wash_X8_in : GoodIn wsX8_wash (va_wsS RX8 103 yX8_in wsX8_in) := goodIn_app (goodIn_of _ (by decide +kernel)) ggX8_wash_X8_in
theorem dX8_wash_0 : decode cX8_wash 0 = .ok (.iload_n 1, 1) := by decide +kernel
theorem dX8_wash_1 : decode cX8_wash 1 = .ok (.i2l, 1) := by decide +kernel
theorem dX8_wash_2 : decode cX8_wash 2 = .ok (.lconst 0, 1) := by decide +kernel
theorem dX8_wash_3 : decode cX8_wash 3 = .ok (.ldc2_w 178, 3) := by decide +kernel
theorem dX8_wash_6 : decode cX8_wash 6 = .ok (.invokestatic 103, 3) := by decide +kernel
theorem dX8_wash_9 : decode cX8_wash 9 = .ok (.ifCond .eq 15, 3) := by decide +kernel
theorem dX8_wash_12 : decode cX8_wash 12 = .ok (.iload_n 2, 1) := by decide +kernel
theorem dX8_wash_13 : decode cX8_wash 13 = .ok (.i2l, 1) := by decide +kernel
theorem dX8_wash_14 : decode cX8_wash 14 = .ok (.lconst 0, 1) := by decide +kernel
theorem dX8_wash_15 : decode cX8_wash 15 = .ok (.ldc2_w 178, 3) := by decide +kernel
theorem dX8_wash_18 : decode cX8_wash 18 = .ok (.invokestatic 103, 3) := by decide +kernel
theorem dX8_wash_21 : decode cX8_wash 21 = .ok (.ifCond .ne 5, 3) := by decide +kernel
theorem dX8_wash_24 : decode cX8_wash 24 = .ok (.iconst (-1), 1) := by decide +kernel
theorem dX8_wash_25 : decode cX8_wash 25 = .ok (.ireturn, 1) := by decide +kernel
theorem dX8_wash_26 : decode cX8_wash 26 = .ok (.iload_n 3, 1) := by decide +kernel
theorem dX8_wash_27 : decode cX8_wash 27 = .ok (.i2l, 1) := by decide +kernel
theorem dX8_wash_28 : decode cX8_wash 28 = .ok (.lconst 0, 1) := by decide +kernel
theorem dX8_wash_29 : decode cX8_wash 29 = .ok (.ldc2_w 125, 3) := by decide +kernel
theorem dX8_wash_32 : decode cX8_wash 32 = .ok (.invokestatic 103, 3) := by decide +kernel
theorem dX8_wash_35 : decode cX8_wash 35 = .ok (.ifCond .ne 6, 3) := by decide +kernel
theorem dX8_wash_38 : decode cX8_wash 38 = .ok (.bipush (-2), 2) := by decide +kernel
theorem dX8_wash_40 : decode cX8_wash 40 = .ok (.ireturn, 1) := by decide +kernel
theorem dX8_wash_41 : decode cX8_wash 41 = .ok (.iload_n 1, 1) := by decide +kernel
theorem dX8_wash_42 : decode cX8_wash 42 = .ok (.iload_n 2, 1) := by decide +kernel
theorem dX8_wash_43 : decode cX8_wash 43 = .ok (.if_icmp .ne 6, 3) := by decide +kernel
theorem dX8_wash_46 : decode cX8_wash 46 = .ok (.bipush (-5), 2) := by decide +kernel
theorem dX8_wash_48 : decode cX8_wash 48 = .ok (.ireturn, 1) := by decide +kernel
theorem dX8_wash_49 : decode cX8_wash 49 = .ok (.aload_n 0, 1) := by decide +kernel
theorem dX8_wash_50 : decode cX8_wash 50 = .ok (.getfield 69, 3) := by decide +kernel
theorem dX8_wash_53 : decode cX8_wash 53 = .ok (.iconst 4, 1) := by decide +kernel
theorem dX8_wash_54 : decode cX8_wash 54 = .ok (.iload_n 1, 1) := by decide +kernel
theorem dX8_wash_55 : decode cX8_wash 55 = .ok (.imul, 1) := by decide +kernel
theorem dX8_wash_56 : decode cX8_wash 56 = .ok (.iload_n 2, 1) := by decide +kernel
theorem dX8_wash_57 : decode cX8_wash 57 = .ok (.iadd, 1) := by decide +kernel
theorem dX8_wash_58 : decode cX8_wash 58 = .ok (.iaload, 1) := by decide +kernel
theorem dX8_wash_59 : decode cX8_wash 59 = .ok (.istore 4, 2) := by decide +kernel
theorem dX8_wash_61 : decode cX8_wash 61 = .ok (.aload_n 0, 1) := by decide +kernel
theorem dX8_wash_62 : decode cX8_wash 62 = .ok (.getfield 69, 3) := by decide +kernel
theorem dX8_wash_65 : decode cX8_wash 65 = .ok (.iconst 4, 1) := by decide +kernel
theorem dX8_wash_66 : decode cX8_wash 66 = .ok (.iload_n 1, 1) := by decide +kernel
theorem dX8_wash_67 : decode cX8_wash 67 = .ok (.imul, 1) := by decide +kernel
theorem dX8_wash_68 : decode cX8_wash 68 = .ok (.iload_n 2, 1) := by decide +kernel
theorem dX8_wash_69 : decode cX8_wash 69 = .ok (.iadd, 1) := by decide +kernel
theorem dX8_wash_70 : decode cX8_wash 70 = .ok (.iload_n 3, 1) := by decide +kernel
theorem dX8_wash_71 : decode cX8_wash 71 = .ok (.iastore, 1) := by decide +kernel
theorem dX8_wash_72 : decode cX8_wash 72 = .ok (.iload 4, 2) := by decide +kernel
theorem dX8_wash_74 : decode cX8_wash 74 = .ok (.ireturn, 1) := by decide +kernel
theorem dX8_layRow_0 : decode cX8_layRow 0 = .ok (.iload_n 1, 1) := by decide +kernel
theorem dX8_layRow_1 : decode cX8_layRow 1 = .ok (.istore_n 3, 1) := by decide +kernel
theorem dX8_layRow_2 : decode cX8_layRow 2 = .ok (.iload_n 2, 1) := by decide +kernel
theorem dX8_layRow_3 : decode cX8_layRow 3 = .ok (.istore 4, 2) := by decide +kernel
theorem dX8_layRow_5 : decode cX8_layRow 5 = .ok (.iconst 0, 1) := by decide +kernel
theorem dX8_layRow_6 : decode cX8_layRow 6 = .ok (.istore 5, 2) := by decide +kernel
theorem dX8_layRow_8 : decode cX8_layRow 8 = .ok (.iconst 0, 1) := by decide +kernel
theorem dX8_layRow_9 : decode cX8_layRow 9 = .ok (.istore 6, 2) := by decide +kernel
theorem dX8_layRow_11 : decode cX8_layRow 11 = .ok (.iload 6, 2) := by decide +kernel
theorem dX8_layRow_13 : decode cX8_layRow 13 = .ok (.aload_n 0, 1) := by decide +kernel
theorem dX8_layRow_14 : decode cX8_layRow 14 = .ok (.getfield 193, 3) := by decide +kernel
theorem dX8_layRow_17 : decode cX8_layRow 17 = .ok (.if_icmp .ge 96, 3) := by decide +kernel
theorem dX8_layRow_20 : decode cX8_layRow 20 = .ok (.iload 4, 2) := by decide +kernel
theorem dX8_layRow_22 : decode cX8_layRow 22 = .ok (.aload_n 0, 1) := by decide +kernel
theorem dX8_layRow_23 : decode cX8_layRow 23 = .ok (.getfield 193, 3) := by decide +kernel
theorem dX8_layRow_26 : decode cX8_layRow 26 = .ok (.iload 6, 2) := by decide +kernel
theorem dX8_layRow_28 : decode cX8_layRow 28 = .ok (.isub, 1) := by decide +kernel
theorem dX8_layRow_29 : decode cX8_layRow 29 = .ok (.idiv, 1) := by decide +kernel
theorem dX8_layRow_30 : decode cX8_layRow 30 = .ok (.istore 4, 2) := by decide +kernel
theorem dX8_layRow_32 : decode cX8_layRow 32 = .ok (.iload_n 3, 1) := by decide +kernel
theorem dX8_layRow_33 : decode cX8_layRow 33 = .ok (.iload 4, 2) := by decide +kernel
theorem dX8_layRow_35 : decode cX8_layRow 35 = .ok (.idiv, 1) := by decide +kernel
theorem dX8_layRow_36 : decode cX8_layRow 36 = .ok (.istore 7, 2) := by decide +kernel
theorem dX8_layRow_38 : decode cX8_layRow 38 = .ok (.iload_n 3, 1) := by decide +kernel
theorem dX8_layRow_39 : decode cX8_layRow 39 = .ok (.iload 4, 2) := by decide +kernel
theorem dX8_layRow_41 : decode cX8_layRow 41 = .ok (.irem, 1) := by decide +kernel
theorem dX8_layRow_42 : decode cX8_layRow 42 = .ok (.istore_n 3, 1) := by decide +kernel
theorem dX8_layRow_43 : decode cX8_layRow 43 = .ok (.iconst 0, 1) := by decide +kernel
theorem dX8_layRow_44 : decode cX8_layRow 44 = .ok (.istore 8, 2) := by decide +kernel
theorem dX8_layRow_46 : decode cX8_layRow 46 = .ok (.iload 5, 2) := by decide +kernel
theorem dX8_layRow_48 : decode cX8_layRow 48 = .ok (.iload 8, 2) := by decide +kernel
theorem dX8_layRow_50 : decode cX8_layRow 50 = .ok (.ishr, 1) := by decide +kernel
theorem dX8_layRow_51 : decode cX8_layRow 51 = .ok (.iconst 1, 1) := by decide +kernel
theorem dX8_layRow_52 : decode cX8_layRow 52 = .ok (.iand, 1) := by decide +kernel
theorem dX8_layRow_53 : decode cX8_layRow 53 = .ok (.iconst 1, 1) := by decide +kernel
theorem dX8_layRow_54 : decode cX8_layRow 54 = .ok (.if_icmp .eq 8, 3) := by decide +kernel
theorem dX8_layRow_57 : decode cX8_layRow 57 = .ok (.iload 7, 2) := by decide +kernel
theorem dX8_layRow_59 : decode cX8_layRow 59 = .ok (.ifCond .le 30, 3) := by decide +kernel
theorem dX8_layRow_62 : decode cX8_layRow 62 = .ok (.iload 7, 2) := by decide +kernel
theorem dX8_layRow_64 : decode cX8_layRow 64 = .ok (.iload 5, 2) := by decide +kernel
theorem dX8_layRow_66 : decode cX8_layRow 66 = .ok (.iload 8, 2) := by decide +kernel
theorem dX8_layRow_68 : decode cX8_layRow 68 = .ok (.ishr, 1) := by decide +kernel
theorem dX8_layRow_69 : decode cX8_layRow 69 = .ok (.iconst 1, 1) := by decide +kernel
theorem dX8_layRow_70 : decode cX8_layRow 70 = .ok (.iand, 1) := by decide +kernel
theorem dX8_layRow_71 : decode cX8_layRow 71 = .ok (.iconst 1, 1) := by decide +kernel
theorem dX8_layRow_72 : decode cX8_layRow 72 = .ok (.if_icmp .ne 7, 3) := by decide +kernel
theorem dX8_layRow_75 : decode cX8_layRow 75 = .ok (.iconst 0, 1) := by decide +kernel
theorem dX8_layRow_76 : decode cX8_layRow 76 = .ok (.goto 4, 3) := by decide +kernel
theorem dX8_layRow_79 : decode cX8_layRow 79 = .ok (.iconst 1, 1) := by decide +kernel
theorem dX8_layRow_80 : decode cX8_layRow 80 = .ok (.isub, 1) := by decide +kernel
theorem dX8_layRow_81 : decode cX8_layRow 81 = .ok (.istore 7, 2) := by decide +kernel
theorem dX8_layRow_83 : decode cX8_layRow 83 = .ok (.iinc 8 1, 3) := by decide +kernel
theorem dX8_layRow_86 : decode cX8_layRow 86 = .ok (.goto (-40), 3) := by decide +kernel
theorem dX8_layRow_89 : decode cX8_layRow 89 = .ok (.aload_n 0, 1) := by decide +kernel
theorem dX8_layRow_90 : decode cX8_layRow 90 = .ok (.getfield 72, 3) := by decide +kernel
theorem dX8_layRow_93 : decode cX8_layRow 93 = .ok (.iload 6, 2) := by decide +kernel
theorem dX8_layRow_95 : decode cX8_layRow 95 = .ok (.iload 8, 2) := by decide +kernel
theorem dX8_layRow_97 : decode cX8_layRow 97 = .ok (.iastore, 1) := by decide +kernel
theorem dX8_layRow_98 : decode cX8_layRow 98 = .ok (.iload 5, 2) := by decide +kernel
theorem dX8_layRow_100 : decode cX8_layRow 100 = .ok (.iconst 1, 1) := by decide +kernel
theorem dX8_layRow_101 : decode cX8_layRow 101 = .ok (.iload 8, 2) := by decide +kernel
theorem dX8_layRow_103 : decode cX8_layRow 103 = .ok (.ishl, 1) := by decide +kernel
theorem dX8_layRow_104 : decode cX8_layRow 104 = .ok (.ior, 1) := by decide +kernel
theorem dX8_layRow_105 : decode cX8_layRow 105 = .ok (.istore 5, 2) := by decide +kernel
theorem dX8_layRow_107 : decode cX8_layRow 107 = .ok (.iinc 6 1, 3) := by decide +kernel
theorem dX8_layRow_110 : decode cX8_layRow 110 = .ok (.goto (-99), 3) := by decide +kernel
theorem dX8_layRow_113 : decode cX8_layRow 113 = .ok (.return_, 1) := by decide +kernel
theorem dX8_costOf_0 : decode cX8_costOf 0 = .ok (.iconst 0, 1) := by decide +kernel
theorem dX8_costOf_1 : decode cX8_costOf 1 = .ok (.istore_n 1, 1) := by decide +kernel
theorem dX8_costOf_2 : decode cX8_costOf 2 = .ok (.iconst 0, 1) := by decide +kernel
theorem dX8_costOf_3 : decode cX8_costOf 3 = .ok (.istore_n 2, 1) := by decide +kernel
theorem dX8_costOf_4 : decode cX8_costOf 4 = .ok (.iconst 0, 1) := by decide +kernel
theorem dX8_costOf_5 : decode cX8_costOf 5 = .ok (.istore_n 3, 1) := by decide +kernel
theorem dX8_costOf_6 : decode cX8_costOf 6 = .ok (.iconst 0, 1) := by decide +kernel
theorem dX8_costOf_7 : decode cX8_costOf 7 = .ok (.istore 4, 2) := by decide +kernel
theorem dX8_costOf_9 : decode cX8_costOf 9 = .ok (.iload 4, 2) := by decide +kernel
theorem dX8_costOf_11 : decode cX8_costOf 11 = .ok (.aload_n 0, 1) := by decide +kernel
theorem dX8_costOf_12 : decode cX8_costOf 12 = .ok (.getfield 193, 3) := by decide +kernel
theorem dX8_costOf_15 : decode cX8_costOf 15 = .ok (.if_icmp .ge 81, 3) := by decide +kernel
theorem dX8_costOf_18 : decode cX8_costOf 18 = .ok (.iload_n 1, 1) := by decide +kernel
theorem dX8_costOf_19 : decode cX8_costOf 19 = .ok (.aload_n 0, 1) := by decide +kernel
theorem dX8_costOf_20 : decode cX8_costOf 20 = .ok (.getfield 69, 3) := by decide +kernel
theorem dX8_costOf_23 : decode cX8_costOf 23 = .ok (.iconst 4, 1) := by decide +kernel
theorem dX8_costOf_24 : decode cX8_costOf 24 = .ok (.iload_n 2, 1) := by decide +kernel
theorem dX8_costOf_25 : decode cX8_costOf 25 = .ok (.imul, 1) := by decide +kernel
theorem dX8_costOf_26 : decode cX8_costOf 26 = .ok (.aload_n 0, 1) := by decide +kernel
theorem dX8_costOf_27 : decode cX8_costOf 27 = .ok (.getfield 63, 3) := by decide +kernel
theorem dX8_costOf_30 : decode cX8_costOf 30 = .ok (.aload_n 0, 1) := by decide +kernel
theorem dX8_costOf_31 : decode cX8_costOf 31 = .ok (.getfield 72, 3) := by decide +kernel
theorem dX8_costOf_34 : decode cX8_costOf 34 = .ok (.iload 4, 2) := by decide +kernel
theorem dX8_costOf_36 : decode cX8_costOf 36 = .ok (.iaload, 1) := by decide +kernel
theorem dX8_costOf_37 : decode cX8_costOf 37 = .ok (.iaload, 1) := by decide +kernel
theorem dX8_costOf_38 : decode cX8_costOf 38 = .ok (.iadd, 1) := by decide +kernel
theorem dX8_costOf_39 : decode cX8_costOf 39 = .ok (.iaload, 1) := by decide +kernel
theorem dX8_costOf_40 : decode cX8_costOf 40 = .ok (.aload_n 0, 1) := by decide +kernel
theorem dX8_costOf_41 : decode cX8_costOf 41 = .ok (.getfield 66, 3) := by decide +kernel
theorem dX8_costOf_44 : decode cX8_costOf 44 = .ok (.aload_n 0, 1) := by decide +kernel
theorem dX8_costOf_45 : decode cX8_costOf 45 = .ok (.getfield 72, 3) := by decide +kernel
theorem dX8_costOf_48 : decode cX8_costOf 48 = .ok (.iload 4, 2) := by decide +kernel
theorem dX8_costOf_50 : decode cX8_costOf 50 = .ok (.iaload, 1) := by decide +kernel
theorem dX8_costOf_51 : decode cX8_costOf 51 = .ok (.iaload, 1) := by decide +kernel
theorem dX8_costOf_52 : decode cX8_costOf 52 = .ok (.iload_n 3, 1) := by decide +kernel
theorem dX8_costOf_53 : decode cX8_costOf 53 = .ok (.if_icmp .ne 7, 3) := by decide +kernel
theorem dX8_costOf_56 : decode cX8_costOf 56 = .ok (.iconst 0, 1) := by decide +kernel
theorem dX8_costOf_57 : decode cX8_costOf 57 = .ok (.goto 4, 3) := by decide +kernel
theorem dX8_costOf_60 : decode cX8_costOf 60 = .ok (.iconst 5, 1) := by decide +kernel
theorem dX8_costOf_61 : decode cX8_costOf 61 = .ok (.iadd, 1) := by decide +kernel
theorem dX8_costOf_62 : decode cX8_costOf 62 = .ok (.iadd, 1) := by decide +kernel
theorem dX8_costOf_63 : decode cX8_costOf 63 = .ok (.istore_n 1, 1) := by decide +kernel
theorem dX8_costOf_64 : decode cX8_costOf 64 = .ok (.aload_n 0, 1) := by decide +kernel
theorem dX8_costOf_65 : decode cX8_costOf 65 = .ok (.getfield 63, 3) := by decide +kernel
theorem dX8_costOf_68 : decode cX8_costOf 68 = .ok (.aload_n 0, 1) := by decide +kernel
theorem dX8_costOf_69 : decode cX8_costOf 69 = .ok (.getfield 72, 3) := by decide +kernel
theorem dX8_costOf_72 : decode cX8_costOf 72 = .ok (.iload 4, 2) := by decide +kernel
theorem dX8_costOf_74 : decode cX8_costOf 74 = .ok (.iaload, 1) := by decide +kernel
theorem dX8_costOf_75 : decode cX8_costOf 75 = .ok (.iaload, 1) := by decide +kernel
theorem dX8_costOf_76 : decode cX8_costOf 76 = .ok (.istore_n 2, 1) := by decide +kernel
theorem dX8_costOf_77 : decode cX8_costOf 77 = .ok (.aload_n 0, 1) := by decide +kernel
theorem dX8_costOf_78 : decode cX8_costOf 78 = .ok (.getfield 66, 3) := by decide +kernel
theorem dX8_costOf_81 : decode cX8_costOf 81 = .ok (.aload_n 0, 1) := by decide +kernel
theorem dX8_costOf_82 : decode cX8_costOf 82 = .ok (.getfield 72, 3) := by decide +kernel
theorem dX8_costOf_85 : decode cX8_costOf 85 = .ok (.iload 4, 2) := by decide +kernel
theorem dX8_costOf_87 : decode cX8_costOf 87 = .ok (.iaload, 1) := by decide +kernel
theorem dX8_costOf_88 : decode cX8_costOf 88 = .ok (.iaload, 1) := by decide +kernel
theorem dX8_costOf_89 : decode cX8_costOf 89 = .ok (.istore_n 3, 1) := by decide +kernel
theorem dX8_costOf_90 : decode cX8_costOf 90 = .ok (.iinc 4 1, 3) := by decide +kernel
theorem dX8_costOf_93 : decode cX8_costOf 93 = .ok (.goto (-84), 3) := by decide +kernel
theorem dX8_costOf_96 : decode cX8_costOf 96 = .ok (.iload_n 1, 1) := by decide +kernel
theorem dX8_costOf_97 : decode cX8_costOf 97 = .ok (.ireturn, 1) := by decide +kernel
set_option maxRecDepth 20000 in
theorem ggX8_order_X8_layRow : GoodIn wsX8_order wsX8_layRow := goodIn_r _ [8, 1, 3, 16, 17, 18, 19, 20, 21, 22, 23, 24, 25, 26, 27, 28, 29, 30, 31, 32, 33, 34, 35, 36, 37, 38, 39, 40, 41, 42, 43, 44, 45, 46, 47, 48, 49, 50, 51, 52] rfl (by decide +kernel)
set_option maxRecDepth 20000 in
theorem gX8_order_X8_layRow : GoodIn wsX8_order (wsV RX8 196 RX8 yX8_layRow wsX8_layRow) := goodIn_app (goodIn_of _ (by decide +kernel)) ggX8_order_X8_layRow
set_option maxRecDepth 20000 in
theorem ggX8_order_X8_costOf : GoodIn wsX8_order wsX8_costOf := goodIn_r _ [12, 1, 13, 14, 3, 15, 16, 17, 18, 19, 20, 21, 22, 23, 24, 25, 26, 27, 28, 29, 30, 31, 32, 33, 34, 35, 36, 37, 38, 39, 40, 41, 42, 43, 44, 45, 46, 47, 48, 49, 50, 51, 52] rfl (by decide +kernel)
set_option maxRecDepth 20000 in
theorem gX8_order_X8_costOf : GoodIn wsX8_order (wsV RX8 200 RX8 yX8_costOf wsX8_costOf) := goodIn_app (goodIn_of _ (by decide +kernel)) ggX8_order_X8_costOf
theorem dX8_order_0 : decode cX8_order 0 = .ok (.iconst 1, 1) := by decide +kernel
theorem dX8_order_1 : decode cX8_order 1 = .ok (.istore_n 1, 1) := by decide +kernel
theorem dX8_order_2 : decode cX8_order 2 = .ok (.iconst 2, 1) := by decide +kernel
theorem dX8_order_3 : decode cX8_order 3 = .ok (.istore_n 2, 1) := by decide +kernel
theorem dX8_order_4 : decode cX8_order 4 = .ok (.iload_n 2, 1) := by decide +kernel
theorem dX8_order_5 : decode cX8_order 5 = .ok (.aload_n 0, 1) := by decide +kernel
theorem dX8_order_6 : decode cX8_order 6 = .ok (.getfield 193, 3) := by decide +kernel
theorem dX8_order_9 : decode cX8_order 9 = .ok (.if_icmp .gt 13, 3) := by decide +kernel
theorem dX8_order_12 : decode cX8_order 12 = .ok (.iload_n 1, 1) := by decide +kernel
theorem dX8_order_13 : decode cX8_order 13 = .ok (.iload_n 2, 1) := by decide +kernel
theorem dX8_order_14 : decode cX8_order 14 = .ok (.imul, 1) := by decide +kernel
theorem dX8_order_15 : decode cX8_order 15 = .ok (.istore_n 1, 1) := by decide +kernel
theorem dX8_order_16 : decode cX8_order 16 = .ok (.iinc 2 1, 3) := by decide +kernel
theorem dX8_order_19 : decode cX8_order 19 = .ok (.goto (-15), 3) := by decide +kernel
theorem dX8_order_22 : decode cX8_order 22 = .ok (.iconst (-1), 1) := by decide +kernel
theorem dX8_order_23 : decode cX8_order 23 = .ok (.istore_n 2, 1) := by decide +kernel
theorem dX8_order_24 : decode cX8_order 24 = .ok (.iconst 0, 1) := by decide +kernel
theorem dX8_order_25 : decode cX8_order 25 = .ok (.istore_n 3, 1) := by decide +kernel
theorem dX8_order_26 : decode cX8_order 26 = .ok (.iload_n 3, 1) := by decide +kernel
theorem dX8_order_27 : decode cX8_order 27 = .ok (.iload_n 1, 1) := by decide +kernel
theorem dX8_order_28 : decode cX8_order 28 = .ok (.if_icmp .ge 66, 3) := by decide +kernel
theorem dX8_order_31 : decode cX8_order 31 = .ok (.aload_n 0, 1) := by decide +kernel
theorem dX8_order_32 : decode cX8_order 32 = .ok (.iload_n 3, 1) := by decide +kernel
theorem dX8_order_33 : decode cX8_order 33 = .ok (.iload_n 1, 1) := by decide +kernel
