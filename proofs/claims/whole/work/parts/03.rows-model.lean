theorem dX8_init_0 : decode cX8_init 0 = .ok (.aload_n 0, 1) := by decide +kernel
theorem dX8_init_1 : decode cX8_init 1 = .ok (.invokespecial 1, 3) := by decide +kernel
theorem dX8_init_4 : decode cX8_init 4 = .ok (.aload_n 0, 1) := by decide +kernel
theorem dX8_init_5 : decode cX8_init 5 = .ok (.bipush 30, 2) := by decide +kernel
theorem dX8_init_7 : decode cX8_init 7 = .ok (.newarray .int, 2) := by decide +kernel
theorem dX8_init_9 : decode cX8_init 9 = .ok (.putfield 7, 3) := by decide +kernel
theorem dX8_init_12 : decode cX8_init 12 = .ok (.aload_n 0, 1) := by decide +kernel
theorem dX8_init_13 : decode cX8_init 13 = .ok (.bipush 30, 2) := by decide +kernel
theorem dX8_init_15 : decode cX8_init 15 = .ok (.newarray .int, 2) := by decide +kernel
theorem dX8_init_17 : decode cX8_init 17 = .ok (.putfield 13, 3) := by decide +kernel
theorem dX8_init_20 : decode cX8_init 20 = .ok (.aload_n 0, 1) := by decide +kernel
theorem dX8_init_21 : decode cX8_init 21 = .ok (.bipush 30, 2) := by decide +kernel
theorem dX8_init_23 : decode cX8_init 23 = .ok (.newarray .boolean, 2) := by decide +kernel
theorem dX8_init_25 : decode cX8_init 25 = .ok (.putfield 16, 3) := by decide +kernel
theorem dX8_init_28 : decode cX8_init 28 = .ok (.aload_n 0, 1) := by decide +kernel
theorem dX8_init_29 : decode cX8_init 29 = .ok (.bipush 16, 2) := by decide +kernel
theorem dX8_init_31 : decode cX8_init 31 = .ok (.newarray .int, 2) := by decide +kernel
theorem dX8_init_33 : decode cX8_init 33 = .ok (.putfield 20, 3) := by decide +kernel
theorem dX8_init_36 : decode cX8_init 36 = .ok (.aload_n 0, 1) := by decide +kernel
theorem dX8_init_37 : decode cX8_init 37 = .ok (.bipush 16, 2) := by decide +kernel
theorem dX8_init_39 : decode cX8_init 39 = .ok (.newarray .int, 2) := by decide +kernel
theorem dX8_init_41 : decode cX8_init 41 = .ok (.putfield 23, 3) := by decide +kernel
theorem dX8_init_44 : decode cX8_init 44 = .ok (.aload_n 0, 1) := by decide +kernel
theorem dX8_init_45 : decode cX8_init 45 = .ok (.bipush 17, 2) := by decide +kernel
theorem dX8_init_47 : decode cX8_init 47 = .ok (.newarray .int, 2) := by decide +kernel
theorem dX8_init_49 : decode cX8_init 49 = .ok (.putfield 26, 3) := by decide +kernel
theorem dX8_init_52 : decode cX8_init 52 = .ok (.aload_n 0, 1) := by decide +kernel
theorem dX8_init_53 : decode cX8_init 53 = .ok (.bipush 17, 2) := by decide +kernel
theorem dX8_init_55 : decode cX8_init 55 = .ok (.newarray .int, 2) := by decide +kernel
theorem dX8_init_57 : decode cX8_init 57 = .ok (.putfield 29, 3) := by decide +kernel
theorem dX8_init_60 : decode cX8_init 60 = .ok (.aload_n 0, 1) := by decide +kernel
theorem dX8_init_61 : decode cX8_init 61 = .ok (.sipush 272, 3) := by decide +kernel
theorem dX8_init_64 : decode cX8_init 64 = .ok (.newarray .int, 2) := by decide +kernel
theorem dX8_init_66 : decode cX8_init 66 = .ok (.putfield 32, 3) := by decide +kernel
theorem dX8_init_69 : decode cX8_init 69 = .ok (.aload_n 0, 1) := by decide +kernel
theorem dX8_init_70 : decode cX8_init 70 = .ok (.bipush 7, 2) := by decide +kernel
theorem dX8_init_72 : decode cX8_init 72 = .ok (.newarray .int, 2) := by decide +kernel
theorem dX8_init_74 : decode cX8_init 74 = .ok (.putfield 35, 3) := by decide +kernel
theorem dX8_init_77 : decode cX8_init 77 = .ok (.aload_n 0, 1) := by decide +kernel
theorem dX8_init_78 : decode cX8_init 78 = .ok (.bipush 7, 2) := by decide +kernel
theorem dX8_init_80 : decode cX8_init 80 = .ok (.newarray .int, 2) := by decide +kernel
theorem dX8_init_82 : decode cX8_init 82 = .ok (.putfield 38, 3) := by decide +kernel
theorem dX8_init_85 : decode cX8_init 85 = .ok (.aload_n 0, 1) := by decide +kernel
theorem dX8_init_86 : decode cX8_init 86 = .ok (.bipush 7, 2) := by decide +kernel
theorem dX8_init_88 : decode cX8_init 88 = .ok (.newarray .int, 2) := by decide +kernel
theorem dX8_init_90 : decode cX8_init 90 = .ok (.putfield 41, 3) := by decide +kernel
theorem dX8_init_93 : decode cX8_init 93 = .ok (.aload_n 0, 1) := by decide +kernel
theorem dX8_init_94 : decode cX8_init 94 = .ok (.bipush 7, 2) := by decide +kernel
theorem dX8_init_96 : decode cX8_init 96 = .ok (.newarray .int, 2) := by decide +kernel
theorem dX8_init_98 : decode cX8_init 98 = .ok (.putfield 44, 3) := by decide +kernel
theorem dX8_init_101 : decode cX8_init 101 = .ok (.aload_n 0, 1) := by decide +kernel
theorem dX8_init_102 : decode cX8_init 102 = .ok (.bipush 112, 2) := by decide +kernel
theorem dX8_init_104 : decode cX8_init 104 = .ok (.newarray .int, 2) := by decide +kernel
theorem dX8_init_106 : decode cX8_init 106 = .ok (.putfield 47, 3) := by decide +kernel
theorem dX8_init_109 : decode cX8_init 109 = .ok (.aload_n 0, 1) := by decide +kernel
theorem dX8_init_110 : decode cX8_init 110 = .ok (.sipush 20000, 3) := by decide +kernel
theorem dX8_init_113 : decode cX8_init 113 = .ok (.putfield 50, 3) := by decide +kernel
theorem dX8_init_116 : decode cX8_init 116 = .ok (.aload_n 0, 1) := by decide +kernel
theorem dX8_init_117 : decode cX8_init 117 = .ok (.bipush 16, 2) := by decide +kernel
theorem dX8_init_119 : decode cX8_init 119 = .ok (.newarray .int, 2) := by decide +kernel
theorem dX8_init_121 : decode cX8_init 121 = .ok (.putfield 54, 3) := by decide +kernel
theorem dX8_init_124 : decode cX8_init 124 = .ok (.aload_n 0, 1) := by decide +kernel
theorem dX8_init_125 : decode cX8_init 125 = .ok (.sipush 256, 3) := by decide +kernel
theorem dX8_init_128 : decode cX8_init 128 = .ok (.newarray .int, 2) := by decide +kernel
theorem dX8_init_130 : decode cX8_init 130 = .ok (.putfield 57, 3) := by decide +kernel
theorem dX8_init_133 : decode cX8_init 133 = .ok (.aload_n 0, 1) := by decide +kernel
theorem dX8_init_134 : decode cX8_init 134 = .ok (.bipush 40, 2) := by decide +kernel
theorem dX8_init_136 : decode cX8_init 136 = .ok (.newarray .int, 2) := by decide +kernel
theorem dX8_init_138 : decode cX8_init 138 = .ok (.putfield 60, 3) := by decide +kernel
theorem dX8_init_141 : decode cX8_init 141 = .ok (.aload_n 0, 1) := by decide +kernel
theorem dX8_init_142 : decode cX8_init 142 = .ok (.bipush 10, 2) := by decide +kernel
theorem dX8_init_144 : decode cX8_init 144 = .ok (.newarray .int, 2) := by decide +kernel
theorem dX8_init_146 : decode cX8_init 146 = .ok (.putfield 63, 3) := by decide +kernel
theorem dX8_init_149 : decode cX8_init 149 = .ok (.aload_n 0, 1) := by decide +kernel
theorem dX8_init_150 : decode cX8_init 150 = .ok (.bipush 10, 2) := by decide +kernel
theorem dX8_init_152 : decode cX8_init 152 = .ok (.newarray .int, 2) := by decide +kernel
theorem dX8_init_154 : decode cX8_init 154 = .ok (.putfield 66, 3) := by decide +kernel
theorem dX8_init_157 : decode cX8_init 157 = .ok (.aload_n 0, 1) := by decide +kernel
theorem dX8_init_158 : decode cX8_init 158 = .ok (.bipush 10, 2) := by decide +kernel
theorem dX8_init_160 : decode cX8_init 160 = .ok (.newarray .int, 2) := by decide +kernel
theorem dX8_init_162 : decode cX8_init 162 = .ok (.putfield 69, 3) := by decide +kernel
theorem dX8_init_165 : decode cX8_init 165 = .ok (.aload_n 0, 1) := by decide +kernel
theorem dX8_init_166 : decode cX8_init 166 = .ok (.bipush 40, 2) := by decide +kernel
theorem dX8_init_168 : decode cX8_init 168 = .ok (.newarray .int, 2) := by decide +kernel
theorem dX8_init_170 : decode cX8_init 170 = .ok (.putfield 72, 3) := by decide +kernel
theorem dX8_init_173 : decode cX8_init 173 = .ok (.aload_n 0, 1) := by decide +kernel
theorem dX8_init_174 : decode cX8_init 174 = .ok (.iconst 4, 1) := by decide +kernel
theorem dX8_init_175 : decode cX8_init 175 = .ok (.newarray .int, 2) := by decide +kernel
theorem dX8_init_177 : decode cX8_init 177 = .ok (.putfield 75, 3) := by decide +kernel
theorem dX8_init_180 : decode cX8_init 180 = .ok (.aload_n 0, 1) := by decide +kernel
theorem dX8_init_181 : decode cX8_init 181 = .ok (.iconst 4, 1) := by decide +kernel
theorem dX8_init_182 : decode cX8_init 182 = .ok (.newarray .int, 2) := by decide +kernel
theorem dX8_init_184 : decode cX8_init 184 = .ok (.putfield 78, 3) := by decide +kernel
theorem dX8_init_187 : decode cX8_init 187 = .ok (.aload_n 0, 1) := by decide +kernel
theorem dX8_init_188 : decode cX8_init 188 = .ok (.sipush 240, 3) := by decide +kernel
theorem dX8_init_191 : decode cX8_init 191 = .ok (.newarray .int, 2) := by decide +kernel
theorem dX8_init_193 : decode cX8_init 193 = .ok (.putfield 81, 3) := by decide +kernel
theorem dX8_init_196 : decode cX8_init 196 = .ok (.iconst 0, 1) := by decide +kernel
theorem dX8_init_197 : decode cX8_init 197 = .ok (.istore_n 1, 1) := by decide +kernel
theorem dX8_init_198 : decode cX8_init 198 = .ok (.iload_n 1, 1) := by decide +kernel
theorem dX8_init_199 : decode cX8_init 199 = .ok (.iconst 4, 1) := by decide +kernel
theorem dX8_init_200 : decode cX8_init 200 = .ok (.if_icmp .ge 17, 3) := by decide +kernel
theorem dX8_init_203 : decode cX8_init 203 = .ok (.aload_n 0, 1) := by decide +kernel
theorem dX8_init_204 : decode cX8_init 204 = .ok (.getfield 75, 3) := by decide +kernel
theorem dX8_init_207 : decode cX8_init 207 = .ok (.iload_n 1, 1) := by decide +kernel
theorem dX8_init_208 : decode cX8_init 208 = .ok (.bipush (-4), 2) := by decide +kernel
theorem dX8_init_210 : decode cX8_init 210 = .ok (.iastore, 1) := by decide +kernel
theorem dX8_init_211 : decode cX8_init 211 = .ok (.iinc 1 1, 3) := by decide +kernel
theorem dX8_init_214 : decode cX8_init 214 = .ok (.goto (-16), 3) := by decide +kernel
theorem dX8_init_217 : decode cX8_init 217 = .ok (.return_, 1) := by decide +kernel
theorem dX8_in_0 : decode cX8_in 0 = .ok (.lload_n 0, 1) := by decide +kernel
theorem dX8_in_1 : decode cX8_in 1 = .ok (.lload_n 2, 1) := by decide +kernel
theorem dX8_in_2 : decode cX8_in 2 = .ok (.lcmp, 1) := by decide +kernel
theorem dX8_in_3 : decode cX8_in 3 = .ok (.ifCond .lt 14, 3) := by decide +kernel
theorem dX8_in_6 : decode cX8_in 6 = .ok (.lload_n 0, 1) := by decide +kernel
theorem dX8_in_7 : decode cX8_in 7 = .ok (.lload 4, 2) := by decide +kernel
theorem dX8_in_9 : decode cX8_in 9 = .ok (.lcmp, 1) := by decide +kernel
theorem dX8_in_10 : decode cX8_in 10 = .ok (.ifCond .gt 7, 3) := by decide +kernel
theorem dX8_in_13 : decode cX8_in 13 = .ok (.iconst 1, 1) := by decide +kernel
theorem dX8_in_14 : decode cX8_in 14 = .ok (.goto 4, 3) := by decide +kernel
theorem dX8_in_17 : decode cX8_in 17 = .ok (.iconst 0, 1) := by decide +kernel
theorem dX8_in_18 : decode cX8_in 18 = .ok (.ireturn, 1) := by decide +kernel
theorem dX8_down_0 : decode cX8_down 0 = .ok (.lload_n 0, 1) := by decide +kernel
theorem dX8_down_1 : decode cX8_down 1 = .ok (.lload_n 2, 1) := by decide +kernel
theorem dX8_down_2 : decode cX8_down 2 = .ok (.ldiv, 1) := by decide +kernel
theorem dX8_down_3 : decode cX8_down 3 = .ok (.lstore 4, 2) := by decide +kernel
theorem dX8_down_5 : decode cX8_down 5 = .ok (.lload_n 0, 1) := by decide +kernel
theorem dX8_down_6 : decode cX8_down 6 = .ok (.lload_n 2, 1) := by decide +kernel
theorem dX8_down_7 : decode cX8_down 7 = .ok (.lrem, 1) := by decide +kernel
theorem dX8_down_8 : decode cX8_down 8 = .ok (.lconst 0, 1) := by decide +kernel
theorem dX8_down_9 : decode cX8_down 9 = .ok (.lcmp, 1) := by decide +kernel
theorem dX8_down_10 : decode cX8_down 10 = .ok (.ifCond .ge 10, 3) := by decide +kernel
theorem dX8_down_13 : decode cX8_down 13 = .ok (.lload 4, 2) := by decide +kernel
theorem dX8_down_15 : decode cX8_down 15 = .ok (.lconst 1, 1) := by decide +kernel
theorem dX8_down_16 : decode cX8_down 16 = .ok (.lsub, 1) := by decide +kernel
theorem dX8_down_17 : decode cX8_down 17 = .ok (.goto 5, 3) := by decide +kernel
theorem dX8_down_20 : decode cX8_down 20 = .ok (.lload 4, 2) := by decide +kernel
theorem dX8_down_22 : decode cX8_down 22 = .ok (.lreturn, 1) := by decide +kernel
theorem dX8_plain_0 : decode cX8_plain 0 = .ok (.iload_n 0, 1) := by decide +kernel
theorem dX8_plain_1 : decode cX8_plain 1 = .ok (.ifCond .ge 8, 3) := by decide +kernel
theorem dX8_plain_4 : decode cX8_plain 4 = .ok (.iload_n 0, 1) := by decide +kernel
theorem dX8_plain_5 : decode cX8_plain 5 = .ok (.ineg, 1) := by decide +kernel
theorem dX8_plain_6 : decode cX8_plain 6 = .ok (.goto 4, 3) := by decide +kernel
theorem dX8_plain_9 : decode cX8_plain 9 = .ok (.iload_n 0, 1) := by decide +kernel
theorem dX8_plain_10 : decode cX8_plain 10 = .ok (.ireturn, 1) := by decide +kernel
set_option maxRecDepth 20000 in
theorem ggX8_point_X8_in : GoodIn wsX8_point wsX8_in := goodIn_r _ [10] (by decide +kernel) (by decide +kernel)
set_option maxRecDepth 20000 in
theorem gX8_point_X8_in : GoodIn wsX8_point (va_wsS RX8 88 yX8_in wsX8_in) := goodIn_app (goodIn_of _ (by decide +kernel)) ggX8_point_X8_in
theorem dX8_point_0 : decode cX8_point 0 = .ok (.iload_n 1, 1) := by decide +kernel
theorem dX8_point_1 : decode cX8_point 1 = .ok (.i2l, 1) := by decide +kernel
theorem dX8_point_2 : decode cX8_point 2 = .ok (.ldc2_w 84, 3) := by decide +kernel
theorem dX8_point_5 : decode cX8_point 5 = .ok (.ldc2_w 86, 3) := by decide +kernel
theorem dX8_point_8 : decode cX8_point 8 = .ok (.invokestatic 88, 3) := by decide +kernel
theorem dX8_point_11 : decode cX8_point 11 = .ok (.ifCond .eq 17, 3) := by decide +kernel
theorem dX8_point_14 : decode cX8_point 14 = .ok (.iload_n 2, 1) := by decide +kernel
theorem dX8_point_15 : decode cX8_point 15 = .ok (.i2l, 1) := by decide +kernel
theorem dX8_point_16 : decode cX8_point 16 = .ok (.ldc2_w 84, 3) := by decide +kernel
theorem dX8_point_19 : decode cX8_point 19 = .ok (.ldc2_w 86, 3) := by decide +kernel
theorem dX8_point_22 : decode cX8_point 22 = .ok (.invokestatic 88, 3) := by decide +kernel
theorem dX8_point_25 : decode cX8_point 25 = .ok (.ifCond .ne 5, 3) := by decide +kernel
theorem dX8_point_28 : decode cX8_point 28 = .ok (.iconst (-1), 1) := by decide +kernel
theorem dX8_point_29 : decode cX8_point 29 = .ok (.ireturn, 1) := by decide +kernel
theorem dX8_point_30 : decode cX8_point 30 = .ok (.aload_n 0, 1) := by decide +kernel
theorem dX8_point_31 : decode cX8_point 31 = .ok (.getfield 92, 3) := by decide +kernel
theorem dX8_point_34 : decode cX8_point 34 = .ok (.bipush 30, 2) := by decide +kernel
theorem dX8_point_36 : decode cX8_point 36 = .ok (.if_icmp .ne 6, 3) := by decide +kernel
theorem dX8_point_39 : decode cX8_point 39 = .ok (.bipush (-3), 2) := by decide +kernel
theorem dX8_point_41 : decode cX8_point 41 = .ok (.ireturn, 1) := by decide +kernel
theorem dX8_point_42 : decode cX8_point 42 = .ok (.aload_n 0, 1) := by decide +kernel
theorem dX8_point_43 : decode cX8_point 43 = .ok (.getfield 7, 3) := by decide +kernel
theorem dX8_point_46 : decode cX8_point 46 = .ok (.aload_n 0, 1) := by decide +kernel
theorem dX8_point_47 : decode cX8_point 47 = .ok (.getfield 92, 3) := by decide +kernel
theorem dX8_point_50 : decode cX8_point 50 = .ok (.iload_n 1, 1) := by decide +kernel
theorem dX8_point_51 : decode cX8_point 51 = .ok (.iastore, 1) := by decide +kernel
theorem dX8_point_52 : decode cX8_point 52 = .ok (.aload_n 0, 1) := by decide +kernel
theorem dX8_point_53 : decode cX8_point 53 = .ok (.getfield 13, 3) := by decide +kernel
theorem dX8_point_56 : decode cX8_point 56 = .ok (.aload_n 0, 1) := by decide +kernel
theorem dX8_point_57 : decode cX8_point 57 = .ok (.getfield 92, 3) := by decide +kernel
theorem dX8_point_60 : decode cX8_point 60 = .ok (.iload_n 2, 1) := by decide +kernel
theorem dX8_point_61 : decode cX8_point 61 = .ok (.iastore, 1) := by decide +kernel
theorem dX8_point_62 : decode cX8_point 62 = .ok (.aload_n 0, 1) := by decide +kernel
theorem dX8_point_63 : decode cX8_point 63 = .ok (.getfield 16, 3) := by decide +kernel
theorem dX8_point_66 : decode cX8_point 66 = .ok (.aload_n 0, 1) := by decide +kernel
theorem dX8_point_67 : decode cX8_point 67 = .ok (.getfield 92, 3) := by decide +kernel
theorem dX8_point_70 : decode cX8_point 70 = .ok (.iload_n 3, 1) := by decide +kernel
theorem dX8_point_71 : decode cX8_point 71 = .ok (.ifCond .eq 14, 3) := by decide +kernel
theorem dX8_point_74 : decode cX8_point 74 = .ok (.aload_n 0, 1) := by decide +kernel
theorem dX8_point_75 : decode cX8_point 75 = .ok (.getfield 92, 3) := by decide +kernel
theorem dX8_point_78 : decode cX8_point 78 = .ok (.ifCond .le 7, 3) := by decide +kernel
theorem dX8_point_81 : decode cX8_point 81 = .ok (.iconst 1, 1) := by decide +kernel
theorem dX8_point_82 : decode cX8_point 82 = .ok (.goto 4, 3) := by decide +kernel
theorem dX8_point_85 : decode cX8_point 85 = .ok (.iconst 0, 1) := by decide +kernel
theorem dX8_point_86 : decode cX8_point 86 = .ok (.bastore, 1) := by decide +kernel
theorem dX8_point_87 : decode cX8_point 87 = .ok (.aload_n 0, 1) := by decide +kernel
theorem dX8_point_88 : decode cX8_point 88 = .ok (.dup, 1) := by decide +kernel
theorem dX8_point_89 : decode cX8_point 89 = .ok (.getfield 92, 3) := by decide +kernel
theorem dX8_point_92 : decode cX8_point 92 = .ok (.iconst 1, 1) := by decide +kernel
theorem dX8_point_93 : decode cX8_point 93 = .ok (.iadd, 1) := by decide +kernel
theorem dX8_point_94 : decode cX8_point 94 = .ok (.putfield 92, 3) := by decide +kernel
theorem dX8_point_97 : decode cX8_point 97 = .ok (.aload_n 0, 1) := by decide +kernel
theorem dX8_point_98 : decode cX8_point 98 = .ok (.getfield 92, 3) := by decide +kernel
theorem dX8_point_101 : decode cX8_point 101 = .ok (.ireturn, 1) := by decide +kernel
theorem dX8_clear_0 : decode cX8_clear 0 = .ok (.aload_n 0, 1) := by decide +kernel
theorem dX8_clear_1 : decode cX8_clear 1 = .ok (.getfield 92, 3) := by decide +kernel
theorem dX8_clear_4 : decode cX8_clear 4 = .ok (.istore_n 1, 1) := by decide +kernel
theorem dX8_clear_5 : decode cX8_clear 5 = .ok (.aload_n 0, 1) := by decide +kernel
theorem dX8_clear_6 : decode cX8_clear 6 = .ok (.iconst 0, 1) := by decide +kernel
theorem dX8_clear_7 : decode cX8_clear 7 = .ok (.putfield 92, 3) := by decide +kernel
theorem dX8_clear_10 : decode cX8_clear 10 = .ok (.iload_n 1, 1) := by decide +kernel
theorem dX8_clear_11 : decode cX8_clear 11 = .ok (.ireturn, 1) := by decide +kernel
set_option maxRecDepth 20000 in
theorem ggX8_drawn_X8_plain : GoodIn wsX8_drawn wsX8_plain := goodIn_r _ [7] (by decide +kernel) (by decide +kernel)
set_option maxRecDepth 20000 in
theorem gX8_drawn_X8_plain : GoodIn wsX8_drawn (va_wsS RX8 95 yX8_plain wsX8_plain) := goodIn_app (goodIn_of _ (by decide +kernel)) ggX8_drawn_X8_plain
theorem dX8_drawn_0 : decode cX8_drawn 0 = .ok (.iload_n 1, 1) := by decide +kernel
theorem dX8_drawn_1 : decode cX8_drawn 1 = .ok (.ifCond .eq 12, 3) := by decide +kernel
theorem dX8_drawn_4 : decode cX8_drawn 4 = .ok (.aload_n 0, 1) := by decide +kernel
theorem dX8_drawn_5 : decode cX8_drawn 5 = .ok (.getfield 16, 3) := by decide +kernel
theorem dX8_drawn_8 : decode cX8_drawn 8 = .ok (.iload_n 1, 1) := by decide +kernel
theorem dX8_drawn_9 : decode cX8_drawn 9 = .ok (.baload, 1) := by decide +kernel
theorem dX8_drawn_10 : decode cX8_drawn 10 = .ok (.ifCond .eq 7, 3) := by decide +kernel
theorem dX8_drawn_13 : decode cX8_drawn 13 = .ok (.iconst 0, 1) := by decide +kernel
theorem dX8_drawn_14 : decode cX8_drawn 14 = .ok (.goto 40, 3) := by decide +kernel
theorem dX8_drawn_17 : decode cX8_drawn 17 = .ok (.aload_n 0, 1) := by decide +kernel
theorem dX8_drawn_18 : decode cX8_drawn 18 = .ok (.getfield 7, 3) := by decide +kernel
theorem dX8_drawn_21 : decode cX8_drawn 21 = .ok (.iload_n 1, 1) := by decide +kernel
theorem dX8_drawn_22 : decode cX8_drawn 22 = .ok (.iaload, 1) := by decide +kernel
theorem dX8_drawn_23 : decode cX8_drawn 23 = .ok (.aload_n 0, 1) := by decide +kernel
theorem dX8_drawn_24 : decode cX8_drawn 24 = .ok (.getfield 7, 3) := by decide +kernel
theorem dX8_drawn_27 : decode cX8_drawn 27 = .ok (.iload_n 1, 1) := by decide +kernel
theorem dX8_drawn_28 : decode cX8_drawn 28 = .ok (.iconst 1, 1) := by decide +kernel
theorem dX8_drawn_29 : decode cX8_drawn 29 = .ok (.isub, 1) := by decide +kernel
theorem dX8_drawn_30 : decode cX8_drawn 30 = .ok (.iaload, 1) := by decide +kernel
theorem dX8_drawn_31 : decode cX8_drawn 31 = .ok (.isub, 1) := by decide +kernel
theorem dX8_drawn_32 : decode cX8_drawn 32 = .ok (.invokestatic 95, 3) := by decide +kernel
theorem dX8_drawn_35 : decode cX8_drawn 35 = .ok (.aload_n 0, 1) := by decide +kernel
theorem dX8_drawn_36 : decode cX8_drawn 36 = .ok (.getfield 13, 3) := by decide +kernel
theorem dX8_drawn_39 : decode cX8_drawn 39 = .ok (.iload_n 1, 1) := by decide +kernel
theorem dX8_drawn_40 : decode cX8_drawn 40 = .ok (.iaload, 1) := by decide +kernel
theorem dX8_drawn_41 : decode cX8_drawn 41 = .ok (.aload_n 0, 1) := by decide +kernel
theorem dX8_drawn_42 : decode cX8_drawn 42 = .ok (.getfield 13, 3) := by decide +kernel
theorem dX8_drawn_45 : decode cX8_drawn 45 = .ok (.iload_n 1, 1) := by decide +kernel
theorem dX8_drawn_46 : decode cX8_drawn 46 = .ok (.iconst 1, 1) := by decide +kernel
theorem dX8_drawn_47 : decode cX8_drawn 47 = .ok (.isub, 1) := by decide +kernel
theorem dX8_drawn_48 : decode cX8_drawn 48 = .ok (.iaload, 1) := by decide +kernel
theorem dX8_drawn_49 : decode cX8_drawn 49 = .ok (.isub, 1) := by decide +kernel
theorem dX8_drawn_50 : decode cX8_drawn 50 = .ok (.invokestatic 95, 3) := by decide +kernel
theorem dX8_drawn_53 : decode cX8_drawn 53 = .ok (.iadd, 1) := by decide +kernel
theorem dX8_drawn_54 : decode cX8_drawn 54 = .ok (.ireturn, 1) := by decide +kernel
set_option maxRecDepth 20000 in
theorem ggX8_way_X8_drawn : GoodIn wsX8_way wsX8_drawn := goodIn_r _ [6, 7, 8, 9, 10, 11, 5, 12, 13, 14, 15, 16, 17, 18, 19, 20, 21, 22, 23, 24, 25, 26, 27, 28, 29, 30, 31, 32, 33, 34, 35, 36, 37, 38, 39, 40, 41, 42, 43, 44] (by decide +kernel) (by decide +kernel)
set_option maxRecDepth 20000 in
theorem gX8_way_X8_drawn : GoodIn wsX8_way (wsV RX8 99 RX8 yX8_drawn wsX8_drawn) := goodIn_app (goodIn_of _ (by decide +kernel)) ggX8_way_X8_drawn
theorem dX8_way_0 : decode cX8_way 0 = .ok (.iconst 0, 1) := by decide +kernel
theorem dX8_way_1 : decode cX8_way 1 = .ok (.istore_n 1, 1) := by decide +kernel
theorem dX8_way_2 : decode cX8_way 2 = .ok (.iconst 0, 1) := by decide +kernel
theorem dX8_way_3 : decode cX8_way 3 = .ok (.istore_n 2, 1) := by decide +kernel
theorem dX8_way_4 : decode cX8_way 4 = .ok (.iload_n 2, 1) := by decide +kernel
theorem dX8_way_5 : decode cX8_way 5 = .ok (.aload_n 0, 1) := by decide +kernel
theorem dX8_way_6 : decode cX8_way 6 = .ok (.getfield 92, 3) := by decide +kernel
theorem dX8_way_9 : decode cX8_way 9 = .ok (.if_icmp .ge 17, 3) := by decide +kernel
theorem dX8_way_12 : decode cX8_way 12 = .ok (.iload_n 1, 1) := by decide +kernel
theorem dX8_way_13 : decode cX8_way 13 = .ok (.aload_n 0, 1) := by decide +kernel
theorem dX8_way_14 : decode cX8_way 14 = .ok (.iload_n 2, 1) := by decide +kernel
theorem dX8_way_15 : decode cX8_way 15 = .ok (.invokevirtual 99, 3) := by decide +kernel
theorem dX8_way_18 : decode cX8_way 18 = .ok (.iadd, 1) := by decide +kernel
theorem dX8_way_19 : decode cX8_way 19 = .ok (.istore_n 1, 1) := by decide +kernel
theorem dX8_way_20 : decode cX8_way 20 = .ok (.iinc 2 1, 3) := by decide +kernel
theorem dX8_way_23 : decode cX8_way 23 = .ok (.goto (-19), 3) := by decide +kernel
theorem dX8_way_26 : decode cX8_way 26 = .ok (.iload_n 1, 1) := by decide +kernel
theorem dX8_way_27 : decode cX8_way 27 = .ok (.ireturn, 1) := by decide +kernel
set_option maxRecDepth 20000 in
theorem ggX8_findEvens_X8_way : GoodIn wsX8_findEvens wsX8_way := goodIn_r _ [9, 10, 11, 12, 13, 8, 14, 15, 3, 4, 16, 17, 18, 22, 23, 24, 25, 26, 27, 28, 29, 30, 31, 32, 33, 34, 35, 36, 37, 38, 39, 40, 41, 42, 43, 44, 45, 46, 47, 48, 49, 50, 51, 52, 53] (by decide +kernel) (by decide +kernel)
set_option maxRecDepth 20000 in
theorem gX8_findEvens_X8_way : GoodIn wsX8_findEvens (wsV RX8 102 RX8 yX8_way wsX8_way) := goodIn_app (goodIn_of _ (by decide +kernel)) ggX8_findEvens_X8_way
set_option maxRecDepth 20000 in
theorem ggX8_findEvens_X8_drawn : GoodIn wsX8_findEvens wsX8_drawn := goodIn_r _ [14, 15, 3, 4, 16, 17, 8, 18, 22, 23, 24, 25, 26, 27, 28, 29, 30, 31, 32, 33, 34, 35, 36, 37, 38, 39, 40, 41, 42, 43, 44, 45, 46, 47, 48, 49, 50, 51, 52, 53] (by decide +kernel) (by decide +kernel)
set_option maxRecDepth 20000 in
theorem gX8_findEvens_X8_drawn : GoodIn wsX8_findEvens (wsV RX8 99 RX8 yX8_drawn wsX8_drawn) := goodIn_app (goodIn_of _ (by decide +kernel)) ggX8_findEvens_X8_drawn
set_option maxRecDepth 20000 in
theorem ggX8_findEvens_X8_down : GoodIn wsX8_findEvens wsX8_down := goodIn_r _ [21] (by decide +kernel) (by decide +kernel)
set_option maxRecDepth 20000 in
theorem gX8_findEvens_X8_down : GoodIn wsX8_findEvens (va_wsS RX8 106 yX8_down wsX8_down) := goodIn_app (goodIn_of _ (by decide +kernel)) ggX8_findEvens_X8_down
theorem dX8_findEvens_0 : decode cX8_findEvens 0 = .ok (.aload_n 0, 1) := by decide +kernel
theorem dX8_findEvens_1 : decode cX8_findEvens 1 = .ok (.invokevirtual 102, 3) := by decide +kernel
theorem dX8_findEvens_4 : decode cX8_findEvens 4 = .ok (.istore_n 1, 1) := by decide +kernel
theorem dX8_findEvens_5 : decode cX8_findEvens 5 = .ok (.iconst 0, 1) := by decide +kernel
theorem dX8_findEvens_6 : decode cX8_findEvens 6 = .ok (.istore_n 2, 1) := by decide +kernel
theorem dX8_findEvens_7 : decode cX8_findEvens 7 = .ok (.iload_n 2, 1) := by decide +kernel
theorem dX8_findEvens_8 : decode cX8_findEvens 8 = .ok (.bipush 8, 2) := by decide +kernel
theorem dX8_findEvens_10 : decode cX8_findEvens 10 = .ok (.if_icmp .ge 184, 3) := by decide +kernel
theorem dX8_findEvens_13 : decode cX8_findEvens 13 = .ok (.iconst 0, 1) := by decide +kernel
theorem dX8_findEvens_14 : decode cX8_findEvens 14 = .ok (.istore_n 3, 1) := by decide +kernel
theorem dX8_findEvens_15 : decode cX8_findEvens 15 = .ok (.iconst 1, 1) := by decide +kernel
theorem dX8_findEvens_16 : decode cX8_findEvens 16 = .ok (.istore 4, 2) := by decide +kernel
theorem dX8_findEvens_18 : decode cX8_findEvens 18 = .ok (.aload_n 0, 1) := by decide +kernel
theorem dX8_findEvens_19 : decode cX8_findEvens 19 = .ok (.iload 4, 2) := by decide +kernel
theorem dX8_findEvens_21 : decode cX8_findEvens 21 = .ok (.invokevirtual 99, 3) := by decide +kernel
theorem dX8_findEvens_24 : decode cX8_findEvens 24 = .ok (.ifCond .eq 20, 3) := by decide +kernel
theorem dX8_findEvens_27 : decode cX8_findEvens 27 = .ok (.iload_n 2, 1) := by decide +kernel
theorem dX8_findEvens_28 : decode cX8_findEvens 28 = .ok (.iload_n 1, 1) := by decide +kernel
theorem dX8_findEvens_29 : decode cX8_findEvens 29 = .ok (.imul, 1) := by decide +kernel
theorem dX8_findEvens_30 : decode cX8_findEvens 30 = .ok (.bipush 7, 2) := by decide +kernel
theorem dX8_findEvens_32 : decode cX8_findEvens 32 = .ok (.iload_n 3, 1) := by decide +kernel
theorem dX8_findEvens_33 : decode cX8_findEvens 33 = .ok (.aload_n 0, 1) := by decide +kernel
theorem dX8_findEvens_34 : decode cX8_findEvens 34 = .ok (.iload 4, 2) := by decide +kernel
theorem dX8_findEvens_36 : decode cX8_findEvens 36 = .ok (.invokevirtual 99, 3) := by decide +kernel
theorem dX8_findEvens_39 : decode cX8_findEvens 39 = .ok (.iadd, 1) := by decide +kernel
theorem dX8_findEvens_40 : decode cX8_findEvens 40 = .ok (.imul, 1) := by decide +kernel
theorem dX8_findEvens_41 : decode cX8_findEvens 41 = .ok (.if_icmp .le 18, 3) := by decide +kernel
theorem dX8_findEvens_44 : decode cX8_findEvens 44 = .ok (.iload_n 3, 1) := by decide +kernel
theorem dX8_findEvens_45 : decode cX8_findEvens 45 = .ok (.aload_n 0, 1) := by decide +kernel
theorem dX8_findEvens_46 : decode cX8_findEvens 46 = .ok (.iload 4, 2) := by decide +kernel
theorem dX8_findEvens_48 : decode cX8_findEvens 48 = .ok (.invokevirtual 99, 3) := by decide +kernel
theorem dX8_findEvens_51 : decode cX8_findEvens 51 = .ok (.iadd, 1) := by decide +kernel
theorem dX8_findEvens_52 : decode cX8_findEvens 52 = .ok (.istore_n 3, 1) := by decide +kernel
theorem dX8_findEvens_53 : decode cX8_findEvens 53 = .ok (.iinc 4 1, 3) := by decide +kernel
theorem dX8_findEvens_56 : decode cX8_findEvens 56 = .ok (.goto (-38), 3) := by decide +kernel
theorem dX8_findEvens_59 : decode cX8_findEvens 59 = .ok (.aload_n 0, 1) := by decide +kernel
theorem dX8_findEvens_60 : decode cX8_findEvens 60 = .ok (.iload 4, 2) := by decide +kernel
theorem dX8_findEvens_62 : decode cX8_findEvens 62 = .ok (.invokevirtual 99, 3) := by decide +kernel
theorem dX8_findEvens_65 : decode cX8_findEvens 65 = .ok (.istore 5, 2) := by decide +kernel
theorem dX8_findEvens_67 : decode cX8_findEvens 67 = .ok (.ldc2_w 86, 3) := by decide +kernel
theorem dX8_findEvens_70 : decode cX8_findEvens 70 = .ok (.iload_n 2, 1) := by decide +kernel
theorem dX8_findEvens_71 : decode cX8_findEvens 71 = .ok (.iload_n 1, 1) := by decide +kernel
theorem dX8_findEvens_72 : decode cX8_findEvens 72 = .ok (.imul, 1) := by decide +kernel
theorem dX8_findEvens_73 : decode cX8_findEvens 73 = .ok (.bipush 7, 2) := by decide +kernel
theorem dX8_findEvens_75 : decode cX8_findEvens 75 = .ok (.iload_n 3, 1) := by decide +kernel
theorem dX8_findEvens_76 : decode cX8_findEvens 76 = .ok (.imul, 1) := by decide +kernel
theorem dX8_findEvens_77 : decode cX8_findEvens 77 = .ok (.isub, 1) := by decide +kernel
theorem dX8_findEvens_78 : decode cX8_findEvens 78 = .ok (.i2l, 1) := by decide +kernel
theorem dX8_findEvens_79 : decode cX8_findEvens 79 = .ok (.lmul, 1) := by decide +kernel
theorem dX8_findEvens_80 : decode cX8_findEvens 80 = .ok (.lstore 6, 2) := by decide +kernel
theorem dX8_findEvens_82 : decode cX8_findEvens 82 = .ok (.aload_n 0, 1) := by decide +kernel
theorem dX8_findEvens_83 : decode cX8_findEvens 83 = .ok (.getfield 20, 3) := by decide +kernel
theorem dX8_findEvens_86 : decode cX8_findEvens 86 = .ok (.iconst 2, 1) := by decide +kernel
theorem dX8_findEvens_87 : decode cX8_findEvens 87 = .ok (.iload_n 2, 1) := by decide +kernel
theorem dX8_findEvens_88 : decode cX8_findEvens 88 = .ok (.imul, 1) := by decide +kernel
theorem dX8_findEvens_89 : decode cX8_findEvens 89 = .ok (.bipush 100, 2) := by decide +kernel
theorem dX8_findEvens_91 : decode cX8_findEvens 91 = .ok (.aload_n 0, 1) := by decide +kernel
theorem dX8_findEvens_92 : decode cX8_findEvens 92 = .ok (.getfield 7, 3) := by decide +kernel
theorem dX8_findEvens_95 : decode cX8_findEvens 95 = .ok (.iload 4, 2) := by decide +kernel
theorem dX8_findEvens_97 : decode cX8_findEvens 97 = .ok (.iconst 1, 1) := by decide +kernel
theorem dX8_findEvens_98 : decode cX8_findEvens 98 = .ok (.isub, 1) := by decide +kernel
theorem dX8_findEvens_99 : decode cX8_findEvens 99 = .ok (.iaload, 1) := by decide +kernel
theorem dX8_findEvens_100 : decode cX8_findEvens 100 = .ok (.imul, 1) := by decide +kernel
theorem dX8_findEvens_101 : decode cX8_findEvens 101 = .ok (.aload_n 0, 1) := by decide +kernel
theorem dX8_findEvens_102 : decode cX8_findEvens 102 = .ok (.getfield 7, 3) := by decide +kernel
theorem dX8_findEvens_105 : decode cX8_findEvens 105 = .ok (.iload 4, 2) := by decide +kernel
theorem dX8_findEvens_107 : decode cX8_findEvens 107 = .ok (.iaload, 1) := by decide +kernel
theorem dX8_findEvens_108 : decode cX8_findEvens 108 = .ok (.aload_n 0, 1) := by decide +kernel
theorem dX8_findEvens_109 : decode cX8_findEvens 109 = .ok (.getfield 7, 3) := by decide +kernel
theorem dX8_findEvens_112 : decode cX8_findEvens 112 = .ok (.iload 4, 2) := by decide +kernel
theorem dX8_findEvens_114 : decode cX8_findEvens 114 = .ok (.iconst 1, 1) := by decide +kernel
theorem dX8_findEvens_115 : decode cX8_findEvens 115 = .ok (.isub, 1) := by decide +kernel
theorem dX8_findEvens_116 : decode cX8_findEvens 116 = .ok (.iaload, 1) := by decide +kernel
theorem dX8_findEvens_117 : decode cX8_findEvens 117 = .ok (.isub, 1) := by decide +kernel
theorem dX8_findEvens_118 : decode cX8_findEvens 118 = .ok (.i2l, 1) := by decide +kernel
theorem dX8_findEvens_119 : decode cX8_findEvens 119 = .ok (.lload 6, 2) := by decide +kernel
theorem dX8_findEvens_121 : decode cX8_findEvens 121 = .ok (.lmul, 1) := by decide +kernel
theorem dX8_findEvens_122 : decode cX8_findEvens 122 = .ok (.bipush 7, 2) := by decide +kernel
theorem dX8_findEvens_124 : decode cX8_findEvens 124 = .ok (.iload 5, 2) := by decide +kernel
theorem dX8_findEvens_126 : decode cX8_findEvens 126 = .ok (.imul, 1) := by decide +kernel
theorem dX8_findEvens_127 : decode cX8_findEvens 127 = .ok (.i2l, 1) := by decide +kernel
theorem dX8_findEvens_128 : decode cX8_findEvens 128 = .ok (.invokestatic 106, 3) := by decide +kernel
theorem dX8_findEvens_131 : decode cX8_findEvens 131 = .ok (.l2i, 1) := by decide +kernel
theorem dX8_findEvens_132 : decode cX8_findEvens 132 = .ok (.iadd, 1) := by decide +kernel
theorem dX8_findEvens_133 : decode cX8_findEvens 133 = .ok (.iastore, 1) := by decide +kernel
theorem dX8_findEvens_134 : decode cX8_findEvens 134 = .ok (.aload_n 0, 1) := by decide +kernel
theorem dX8_findEvens_135 : decode cX8_findEvens 135 = .ok (.getfield 20, 3) := by decide +kernel
theorem dX8_findEvens_138 : decode cX8_findEvens 138 = .ok (.iconst 2, 1) := by decide +kernel
theorem dX8_findEvens_139 : decode cX8_findEvens 139 = .ok (.iload_n 2, 1) := by decide +kernel
theorem dX8_findEvens_140 : decode cX8_findEvens 140 = .ok (.imul, 1) := by decide +kernel
theorem dX8_findEvens_141 : decode cX8_findEvens 141 = .ok (.iconst 1, 1) := by decide +kernel
theorem dX8_findEvens_142 : decode cX8_findEvens 142 = .ok (.iadd, 1) := by decide +kernel
theorem dX8_findEvens_143 : decode cX8_findEvens 143 = .ok (.bipush 100, 2) := by decide +kernel
theorem dX8_findEvens_145 : decode cX8_findEvens 145 = .ok (.aload_n 0, 1) := by decide +kernel
theorem dX8_findEvens_146 : decode cX8_findEvens 146 = .ok (.getfield 13, 3) := by decide +kernel
theorem dX8_findEvens_149 : decode cX8_findEvens 149 = .ok (.iload 4, 2) := by decide +kernel
theorem dX8_findEvens_151 : decode cX8_findEvens 151 = .ok (.iconst 1, 1) := by decide +kernel
theorem dX8_findEvens_152 : decode cX8_findEvens 152 = .ok (.isub, 1) := by decide +kernel
theorem dX8_findEvens_153 : decode cX8_findEvens 153 = .ok (.iaload, 1) := by decide +kernel
theorem dX8_findEvens_154 : decode cX8_findEvens 154 = .ok (.imul, 1) := by decide +kernel
theorem dX8_findEvens_155 : decode cX8_findEvens 155 = .ok (.aload_n 0, 1) := by decide +kernel
theorem dX8_findEvens_156 : decode cX8_findEvens 156 = .ok (.getfield 13, 3) := by decide +kernel
theorem dX8_findEvens_159 : decode cX8_findEvens 159 = .ok (.iload 4, 2) := by decide +kernel
theorem dX8_findEvens_161 : decode cX8_findEvens 161 = .ok (.iaload, 1) := by decide +kernel
theorem dX8_findEvens_162 : decode cX8_findEvens 162 = .ok (.aload_n 0, 1) := by decide +kernel
theorem dX8_findEvens_163 : decode cX8_findEvens 163 = .ok (.getfield 13, 3) := by decide +kernel
theorem dX8_findEvens_166 : decode cX8_findEvens 166 = .ok (.iload 4, 2) := by decide +kernel
theorem dX8_findEvens_168 : decode cX8_findEvens 168 = .ok (.iconst 1, 1) := by decide +kernel
theorem dX8_findEvens_169 : decode cX8_findEvens 169 = .ok (.isub, 1) := by decide +kernel
theorem dX8_findEvens_170 : decode cX8_findEvens 170 = .ok (.iaload, 1) := by decide +kernel
theorem dX8_findEvens_171 : decode cX8_findEvens 171 = .ok (.isub, 1) := by decide +kernel
theorem dX8_findEvens_172 : decode cX8_findEvens 172 = .ok (.i2l, 1) := by decide +kernel
theorem dX8_findEvens_173 : decode cX8_findEvens 173 = .ok (.lload 6, 2) := by decide +kernel
theorem dX8_findEvens_175 : decode cX8_findEvens 175 = .ok (.lmul, 1) := by decide +kernel
theorem dX8_findEvens_176 : decode cX8_findEvens 176 = .ok (.bipush 7, 2) := by decide +kernel
theorem dX8_findEvens_178 : decode cX8_findEvens 178 = .ok (.iload 5, 2) := by decide +kernel
theorem dX8_findEvens_180 : decode cX8_findEvens 180 = .ok (.imul, 1) := by decide +kernel
theorem dX8_findEvens_181 : decode cX8_findEvens 181 = .ok (.i2l, 1) := by decide +kernel
theorem dX8_findEvens_182 : decode cX8_findEvens 182 = .ok (.invokestatic 106, 3) := by decide +kernel
theorem dX8_findEvens_185 : decode cX8_findEvens 185 = .ok (.l2i, 1) := by decide +kernel
theorem dX8_findEvens_186 : decode cX8_findEvens 186 = .ok (.iadd, 1) := by decide +kernel
theorem dX8_findEvens_187 : decode cX8_findEvens 187 = .ok (.iastore, 1) := by decide +kernel
theorem dX8_findEvens_188 : decode cX8_findEvens 188 = .ok (.iinc 2 1, 3) := by decide +kernel
theorem dX8_findEvens_191 : decode cX8_findEvens 191 = .ok (.goto (-184), 3) := by decide +kernel
theorem dX8_findEvens_194 : decode cX8_findEvens 194 = .ok (.return_, 1) := by decide +kernel
set_option maxRecDepth 20000 in
theorem ggX8_findNorms_X8_findEvens : GoodIn wsX8_findNorms wsX8_findEvens := goodIn_r _ [9, 10, 1, 11, 12, 13, 14, 15, 8, 16, 17, 18, 19, 20, 21, 22, 23, 24, 25, 26, 27, 28, 29, 30, 31, 32, 33, 34, 35, 36, 37, 38, 39, 40, 41, 42, 43, 44, 45, 46, 47, 48, 49, 50, 51, 52, 53, 54, 55, 56, 57, 58, 59, 60] (by decide +kernel) (by decide +kernel)
set_option maxRecDepth 20000 in
theorem gX8_findNorms_X8_findEvens : GoodIn wsX8_findNorms (wsV RX8 110 RX8 yX8_findEvens wsX8_findEvens) := goodIn_app (goodIn_of _ (by decide +kernel)) ggX8_findNorms_X8_findEvens
set_option maxRecDepth 20000 in
theorem ggX8_findNorms_X8_down : GoodIn wsX8_findNorms wsX8_down := goodIn_r _ [28] (by decide +kernel) (by decide +kernel)
set_option maxRecDepth 20000 in
theorem gX8_findNorms_X8_down : GoodIn wsX8_findNorms (va_wsS RX8 106 yX8_down wsX8_down) := goodIn_app (goodIn_of _ (by decide +kernel)) ggX8_findNorms_X8_down
set_option maxRecDepth 20000 in
theorem ggX8_findNorms_X8_plain : GoodIn wsX8_findNorms wsX8_plain := goodIn_r _ [25] (by decide +kernel) (by decide +kernel)
set_option maxRecDepth 20000 in
theorem gX8_findNorms_X8_plain : GoodIn wsX8_findNorms (va_wsS RX8 95 yX8_plain wsX8_plain) := goodIn_app (goodIn_of _ (by decide +kernel)) ggX8_findNorms_X8_plain
theorem dX8_findNorms_0 : decode cX8_findNorms 0 = .ok (.aload_n 0, 1) := by decide +kernel
theorem dX8_findNorms_1 : decode cX8_findNorms 1 = .ok (.invokevirtual 110, 3) := by decide +kernel
theorem dX8_findNorms_4 : decode cX8_findNorms 4 = .ok (.iconst 0, 1) := by decide +kernel
theorem dX8_findNorms_5 : decode cX8_findNorms 5 = .ok (.istore_n 1, 1) := by decide +kernel
theorem dX8_findNorms_6 : decode cX8_findNorms 6 = .ok (.iconst 0, 1) := by decide +kernel
theorem dX8_findNorms_7 : decode cX8_findNorms 7 = .ok (.istore_n 2, 1) := by decide +kernel
theorem dX8_findNorms_8 : decode cX8_findNorms 8 = .ok (.iload_n 2, 1) := by decide +kernel
theorem dX8_findNorms_9 : decode cX8_findNorms 9 = .ok (.iconst 2, 1) := by decide +kernel
theorem dX8_findNorms_10 : decode cX8_findNorms 10 = .ok (.if_icmp .ge 174, 3) := by decide +kernel
theorem dX8_findNorms_13 : decode cX8_findNorms 13 = .ok (.aload_n 0, 1) := by decide +kernel
theorem dX8_findNorms_14 : decode cX8_findNorms 14 = .ok (.getfield 20, 3) := by decide +kernel
theorem dX8_findNorms_17 : decode cX8_findNorms 17 = .ok (.iload_n 2, 1) := by decide +kernel
theorem dX8_findNorms_18 : decode cX8_findNorms 18 = .ok (.iaload, 1) := by decide +kernel
theorem dX8_findNorms_19 : decode cX8_findNorms 19 = .ok (.istore_n 3, 1) := by decide +kernel
theorem dX8_findNorms_20 : decode cX8_findNorms 20 = .ok (.aload_n 0, 1) := by decide +kernel
theorem dX8_findNorms_21 : decode cX8_findNorms 21 = .ok (.getfield 20, 3) := by decide +kernel
theorem dX8_findNorms_24 : decode cX8_findNorms 24 = .ok (.iload_n 2, 1) := by decide +kernel
theorem dX8_findNorms_25 : decode cX8_findNorms 25 = .ok (.iaload, 1) := by decide +kernel
theorem dX8_findNorms_26 : decode cX8_findNorms 26 = .ok (.istore 4, 2) := by decide +kernel
theorem dX8_findNorms_28 : decode cX8_findNorms 28 = .ok (.iconst 1, 1) := by decide +kernel
theorem dX8_findNorms_29 : decode cX8_findNorms 29 = .ok (.istore 5, 2) := by decide +kernel
theorem dX8_findNorms_31 : decode cX8_findNorms 31 = .ok (.iload 5, 2) := by decide +kernel
theorem dX8_findNorms_33 : decode cX8_findNorms 33 = .ok (.bipush 8, 2) := by decide +kernel
theorem dX8_findNorms_35 : decode cX8_findNorms 35 = .ok (.if_icmp .ge 51, 3) := by decide +kernel
theorem dX8_findNorms_38 : decode cX8_findNorms 38 = .ok (.aload_n 0, 1) := by decide +kernel
theorem dX8_findNorms_39 : decode cX8_findNorms 39 = .ok (.getfield 20, 3) := by decide +kernel
theorem dX8_findNorms_42 : decode cX8_findNorms 42 = .ok (.iconst 2, 1) := by decide +kernel
theorem dX8_findNorms_43 : decode cX8_findNorms 43 = .ok (.iload 5, 2) := by decide +kernel
theorem dX8_findNorms_45 : decode cX8_findNorms 45 = .ok (.imul, 1) := by decide +kernel
theorem dX8_findNorms_46 : decode cX8_findNorms 46 = .ok (.iload_n 2, 1) := by decide +kernel
theorem dX8_findNorms_47 : decode cX8_findNorms 47 = .ok (.iadd, 1) := by decide +kernel
theorem dX8_findNorms_48 : decode cX8_findNorms 48 = .ok (.iaload, 1) := by decide +kernel
theorem dX8_findNorms_49 : decode cX8_findNorms 49 = .ok (.istore 6, 2) := by decide +kernel
theorem dX8_findNorms_51 : decode cX8_findNorms 51 = .ok (.iload 6, 2) := by decide +kernel
theorem dX8_findNorms_53 : decode cX8_findNorms 53 = .ok (.iload_n 3, 1) := by decide +kernel
theorem dX8_findNorms_54 : decode cX8_findNorms 54 = .ok (.if_icmp .ge 8, 3) := by decide +kernel
theorem dX8_findNorms_57 : decode cX8_findNorms 57 = .ok (.iload 6, 2) := by decide +kernel
theorem dX8_findNorms_59 : decode cX8_findNorms 59 = .ok (.goto 4, 3) := by decide +kernel
theorem dX8_findNorms_62 : decode cX8_findNorms 62 = .ok (.iload_n 3, 1) := by decide +kernel
theorem dX8_findNorms_63 : decode cX8_findNorms 63 = .ok (.istore_n 3, 1) := by decide +kernel
theorem dX8_findNorms_64 : decode cX8_findNorms 64 = .ok (.iload 6, 2) := by decide +kernel
theorem dX8_findNorms_66 : decode cX8_findNorms 66 = .ok (.iload 4, 2) := by decide +kernel
theorem dX8_findNorms_68 : decode cX8_findNorms 68 = .ok (.if_icmp .le 8, 3) := by decide +kernel
theorem dX8_findNorms_71 : decode cX8_findNorms 71 = .ok (.iload 6, 2) := by decide +kernel
theorem dX8_findNorms_73 : decode cX8_findNorms 73 = .ok (.goto 5, 3) := by decide +kernel
theorem dX8_findNorms_76 : decode cX8_findNorms 76 = .ok (.iload 4, 2) := by decide +kernel
theorem dX8_findNorms_78 : decode cX8_findNorms 78 = .ok (.istore 4, 2) := by decide +kernel
theorem dX8_findNorms_80 : decode cX8_findNorms 80 = .ok (.iinc 5 1, 3) := by decide +kernel
theorem dX8_findNorms_83 : decode cX8_findNorms 83 = .ok (.goto (-52), 3) := by decide +kernel
theorem dX8_findNorms_86 : decode cX8_findNorms 86 = .ok (.iload_n 3, 1) := by decide +kernel
theorem dX8_findNorms_87 : decode cX8_findNorms 87 = .ok (.iload 4, 2) := by decide +kernel
theorem dX8_findNorms_89 : decode cX8_findNorms 89 = .ok (.iadd, 1) := by decide +kernel
theorem dX8_findNorms_90 : decode cX8_findNorms 90 = .ok (.i2l, 1) := by decide +kernel
theorem dX8_findNorms_91 : decode cX8_findNorms 91 = .ok (.ldc2_w 113, 3) := by decide +kernel
theorem dX8_findNorms_94 : decode cX8_findNorms 94 = .ok (.invokestatic 106, 3) := by decide +kernel
theorem dX8_findNorms_97 : decode cX8_findNorms 97 = .ok (.l2i, 1) := by decide +kernel
theorem dX8_findNorms_98 : decode cX8_findNorms 98 = .ok (.istore 5, 2) := by decide +kernel
theorem dX8_findNorms_100 : decode cX8_findNorms 100 = .ok (.iconst 0, 1) := by decide +kernel
theorem dX8_findNorms_101 : decode cX8_findNorms 101 = .ok (.istore 6, 2) := by decide +kernel
theorem dX8_findNorms_103 : decode cX8_findNorms 103 = .ok (.iload 6, 2) := by decide +kernel
theorem dX8_findNorms_105 : decode cX8_findNorms 105 = .ok (.bipush 8, 2) := by decide +kernel
theorem dX8_findNorms_107 : decode cX8_findNorms 107 = .ok (.if_icmp .ge 71, 3) := by decide +kernel
theorem dX8_findNorms_110 : decode cX8_findNorms 110 = .ok (.aload_n 0, 1) := by decide +kernel
theorem dX8_findNorms_111 : decode cX8_findNorms 111 = .ok (.getfield 23, 3) := by decide +kernel
theorem dX8_findNorms_114 : decode cX8_findNorms 114 = .ok (.iconst 2, 1) := by decide +kernel
theorem dX8_findNorms_115 : decode cX8_findNorms 115 = .ok (.iload 6, 2) := by decide +kernel
theorem dX8_findNorms_117 : decode cX8_findNorms 117 = .ok (.imul, 1) := by decide +kernel
theorem dX8_findNorms_118 : decode cX8_findNorms 118 = .ok (.iload_n 2, 1) := by decide +kernel
theorem dX8_findNorms_119 : decode cX8_findNorms 119 = .ok (.iadd, 1) := by decide +kernel
theorem dX8_findNorms_120 : decode cX8_findNorms 120 = .ok (.aload_n 0, 1) := by decide +kernel
theorem dX8_findNorms_121 : decode cX8_findNorms 121 = .ok (.getfield 20, 3) := by decide +kernel
theorem dX8_findNorms_124 : decode cX8_findNorms 124 = .ok (.iconst 2, 1) := by decide +kernel
theorem dX8_findNorms_125 : decode cX8_findNorms 125 = .ok (.iload 6, 2) := by decide +kernel
theorem dX8_findNorms_127 : decode cX8_findNorms 127 = .ok (.imul, 1) := by decide +kernel
theorem dX8_findNorms_128 : decode cX8_findNorms 128 = .ok (.iload_n 2, 1) := by decide +kernel
theorem dX8_findNorms_129 : decode cX8_findNorms 129 = .ok (.iadd, 1) := by decide +kernel
theorem dX8_findNorms_130 : decode cX8_findNorms 130 = .ok (.iaload, 1) := by decide +kernel
theorem dX8_findNorms_131 : decode cX8_findNorms 131 = .ok (.iload 5, 2) := by decide +kernel
theorem dX8_findNorms_133 : decode cX8_findNorms 133 = .ok (.isub, 1) := by decide +kernel
theorem dX8_findNorms_134 : decode cX8_findNorms 134 = .ok (.iastore, 1) := by decide +kernel
theorem dX8_findNorms_135 : decode cX8_findNorms 135 = .ok (.aload_n 0, 1) := by decide +kernel
theorem dX8_findNorms_136 : decode cX8_findNorms 136 = .ok (.getfield 23, 3) := by decide +kernel
theorem dX8_findNorms_139 : decode cX8_findNorms 139 = .ok (.iconst 2, 1) := by decide +kernel
theorem dX8_findNorms_140 : decode cX8_findNorms 140 = .ok (.iload 6, 2) := by decide +kernel
theorem dX8_findNorms_142 : decode cX8_findNorms 142 = .ok (.imul, 1) := by decide +kernel
theorem dX8_findNorms_143 : decode cX8_findNorms 143 = .ok (.iload_n 2, 1) := by decide +kernel
theorem dX8_findNorms_144 : decode cX8_findNorms 144 = .ok (.iadd, 1) := by decide +kernel
theorem dX8_findNorms_145 : decode cX8_findNorms 145 = .ok (.iaload, 1) := by decide +kernel
theorem dX8_findNorms_146 : decode cX8_findNorms 146 = .ok (.invokestatic 95, 3) := by decide +kernel
theorem dX8_findNorms_149 : decode cX8_findNorms 149 = .ok (.iload_n 1, 1) := by decide +kernel
theorem dX8_findNorms_150 : decode cX8_findNorms 150 = .ok (.if_icmp .le 20, 3) := by decide +kernel
theorem dX8_findNorms_153 : decode cX8_findNorms 153 = .ok (.aload_n 0, 1) := by decide +kernel
theorem dX8_findNorms_154 : decode cX8_findNorms 154 = .ok (.getfield 23, 3) := by decide +kernel
theorem dX8_findNorms_157 : decode cX8_findNorms 157 = .ok (.iconst 2, 1) := by decide +kernel
theorem dX8_findNorms_158 : decode cX8_findNorms 158 = .ok (.iload 6, 2) := by decide +kernel
theorem dX8_findNorms_160 : decode cX8_findNorms 160 = .ok (.imul, 1) := by decide +kernel
theorem dX8_findNorms_161 : decode cX8_findNorms 161 = .ok (.iload_n 2, 1) := by decide +kernel
theorem dX8_findNorms_162 : decode cX8_findNorms 162 = .ok (.iadd, 1) := by decide +kernel
theorem dX8_findNorms_163 : decode cX8_findNorms 163 = .ok (.iaload, 1) := by decide +kernel
theorem dX8_findNorms_164 : decode cX8_findNorms 164 = .ok (.invokestatic 95, 3) := by decide +kernel
theorem dX8_findNorms_167 : decode cX8_findNorms 167 = .ok (.goto 4, 3) := by decide +kernel
theorem dX8_findNorms_170 : decode cX8_findNorms 170 = .ok (.iload_n 1, 1) := by decide +kernel
theorem dX8_findNorms_171 : decode cX8_findNorms 171 = .ok (.istore_n 1, 1) := by decide +kernel
theorem dX8_findNorms_172 : decode cX8_findNorms 172 = .ok (.iinc 6 1, 3) := by decide +kernel
theorem dX8_findNorms_175 : decode cX8_findNorms 175 = .ok (.goto (-72), 3) := by decide +kernel
theorem dX8_findNorms_178 : decode cX8_findNorms 178 = .ok (.iinc 2 1, 3) := by decide +kernel
theorem dX8_findNorms_181 : decode cX8_findNorms 181 = .ok (.goto (-173), 3) := by decide +kernel
theorem dX8_findNorms_184 : decode cX8_findNorms 184 = .ok (.iconst 0, 1) := by decide +kernel
theorem dX8_findNorms_185 : decode cX8_findNorms 185 = .ok (.istore_n 2, 1) := by decide +kernel
theorem dX8_findNorms_186 : decode cX8_findNorms 186 = .ok (.iload_n 2, 1) := by decide +kernel
theorem dX8_findNorms_187 : decode cX8_findNorms 187 = .ok (.bipush 16, 2) := by decide +kernel
theorem dX8_findNorms_189 : decode cX8_findNorms 189 = .ok (.if_icmp .ge 40, 3) := by decide +kernel
theorem dX8_findNorms_192 : decode cX8_findNorms 192 = .ok (.aload_n 0, 1) := by decide +kernel
theorem dX8_findNorms_193 : decode cX8_findNorms 193 = .ok (.getfield 23, 3) := by decide +kernel
theorem dX8_findNorms_196 : decode cX8_findNorms 196 = .ok (.iload_n 2, 1) := by decide +kernel
theorem dX8_findNorms_197 : decode cX8_findNorms 197 = .ok (.iload_n 1, 1) := by decide +kernel
theorem dX8_findNorms_198 : decode cX8_findNorms 198 = .ok (.ifCond .ne 7, 3) := by decide +kernel
theorem dX8_findNorms_201 : decode cX8_findNorms 201 = .ok (.iconst 0, 1) := by decide +kernel
theorem dX8_findNorms_202 : decode cX8_findNorms 202 = .ok (.goto 20, 3) := by decide +kernel
theorem dX8_findNorms_205 : decode cX8_findNorms 205 = .ok (.ldc2_w 115, 3) := by decide +kernel
theorem dX8_findNorms_208 : decode cX8_findNorms 208 = .ok (.aload_n 0, 1) := by decide +kernel
theorem dX8_findNorms_209 : decode cX8_findNorms 209 = .ok (.getfield 23, 3) := by decide +kernel
theorem dX8_findNorms_212 : decode cX8_findNorms 212 = .ok (.iload_n 2, 1) := by decide +kernel
theorem dX8_findNorms_213 : decode cX8_findNorms 213 = .ok (.iaload, 1) := by decide +kernel
theorem dX8_findNorms_214 : decode cX8_findNorms 214 = .ok (.i2l, 1) := by decide +kernel
theorem dX8_findNorms_215 : decode cX8_findNorms 215 = .ok (.lmul, 1) := by decide +kernel
theorem dX8_findNorms_216 : decode cX8_findNorms 216 = .ok (.iload_n 1, 1) := by decide +kernel
theorem dX8_findNorms_217 : decode cX8_findNorms 217 = .ok (.i2l, 1) := by decide +kernel
theorem dX8_findNorms_218 : decode cX8_findNorms 218 = .ok (.invokestatic 106, 3) := by decide +kernel
theorem dX8_findNorms_221 : decode cX8_findNorms 221 = .ok (.l2i, 1) := by decide +kernel
theorem dX8_findNorms_222 : decode cX8_findNorms 222 = .ok (.iastore, 1) := by decide +kernel
theorem dX8_findNorms_223 : decode cX8_findNorms 223 = .ok (.iinc 2 1, 3) := by decide +kernel
theorem dX8_findNorms_226 : decode cX8_findNorms 226 = .ok (.goto (-40), 3) := by decide +kernel
theorem dX8_findNorms_229 : decode cX8_findNorms 229 = .ok (.return_, 1) := by decide +kernel
set_option maxRecDepth 20000 in
theorem ggX8_even_X8_way : GoodIn wsX8_even wsX8_way := goodIn_r _ [8, 9, 10, 11, 12, 7, 13, 14, 15, 16, 17, 18, 19, 31, 32, 33, 34, 35, 36, 37, 38, 39, 40, 41, 42, 43, 44, 45, 46, 47, 48, 49, 50, 51, 52, 53, 54, 55, 56, 57, 58, 59, 60, 61, 62] (by decide +kernel) (by decide +kernel)
set_option maxRecDepth 20000 in
theorem gX8_even_X8_way : GoodIn wsX8_even (wsV RX8 102 RX8 yX8_way wsX8_way) := goodIn_app (goodIn_of _ (by decide +kernel)) ggX8_even_X8_way
set_option maxRecDepth 20000 in
theorem ggX8_even_X8_in : GoodIn wsX8_even wsX8_in := goodIn_r _ [22] (by decide +kernel) (by decide +kernel)
set_option maxRecDepth 20000 in
theorem gX8_even_X8_in : GoodIn wsX8_even (va_wsS RX8 88 yX8_in wsX8_in) := goodIn_app (goodIn_of _ (by decide +kernel)) ggX8_even_X8_in
set_option maxRecDepth 20000 in
theorem ggX8_even_X8_findEvens : GoodIn wsX8_even wsX8_findEvens := goodIn_r _ [26, 27, 3, 15, 16, 4, 5, 6, 7, 8, 9, 10, 11, 12, 13, 14, 17, 18, 19, 28, 29, 30, 31, 32, 33, 34, 35, 36, 37, 38, 39, 40, 41, 42, 43, 44, 45, 46, 47, 48, 49, 50, 51, 52, 53, 54, 55, 56, 57, 58, 59, 60, 61, 62] (by decide +kernel) (by decide +kernel)
set_option maxRecDepth 20000 in
theorem gX8_even_X8_findEvens : GoodIn wsX8_even (wsV RX8 110 RX8 yX8_findEvens wsX8_findEvens) := goodIn_app (goodIn_of _ (by decide +kernel)) ggX8_even_X8_findEvens
theorem dX8_even_0 : decode cX8_even 0 = .ok (.aload_n 0, 1) := by decide +kernel
theorem dX8_even_1 : decode cX8_even 1 = .ok (.invokevirtual 102, 3) := by decide +kernel
theorem dX8_even_4 : decode cX8_even 4 = .ok (.ifCond .eq 25, 3) := by decide +kernel
theorem dX8_even_7 : decode cX8_even 7 = .ok (.iload_n 1, 1) := by decide +kernel
theorem dX8_even_8 : decode cX8_even 8 = .ok (.i2l, 1) := by decide +kernel
theorem dX8_even_9 : decode cX8_even 9 = .ok (.lconst 0, 1) := by decide +kernel
theorem dX8_even_10 : decode cX8_even 10 = .ok (.ldc2_w 117, 3) := by decide +kernel
theorem dX8_even_13 : decode cX8_even 13 = .ok (.invokestatic 88, 3) := by decide +kernel
theorem dX8_even_16 : decode cX8_even 16 = .ok (.ifCond .eq 13, 3) := by decide +kernel
theorem dX8_even_19 : decode cX8_even 19 = .ok (.iload_n 2, 1) := by decide +kernel
theorem dX8_even_20 : decode cX8_even 20 = .ok (.i2l, 1) := by decide +kernel
theorem dX8_even_21 : decode cX8_even 21 = .ok (.lconst 0, 1) := by decide +kernel
theorem dX8_even_22 : decode cX8_even 22 = .ok (.lconst 1, 1) := by decide +kernel
theorem dX8_even_23 : decode cX8_even 23 = .ok (.invokestatic 88, 3) := by decide +kernel
theorem dX8_even_26 : decode cX8_even 26 = .ok (.ifCond .ne 6, 3) := by decide +kernel
theorem dX8_even_29 : decode cX8_even 29 = .ok (.ldc 119, 2) := by decide +kernel
theorem dX8_even_31 : decode cX8_even 31 = .ok (.ireturn, 1) := by decide +kernel
theorem dX8_even_32 : decode cX8_even 32 = .ok (.aload_n 0, 1) := by decide +kernel
theorem dX8_even_33 : decode cX8_even 33 = .ok (.invokevirtual 110, 3) := by decide +kernel
theorem dX8_even_36 : decode cX8_even 36 = .ok (.aload_n 0, 1) := by decide +kernel
theorem dX8_even_37 : decode cX8_even 37 = .ok (.getfield 20, 3) := by decide +kernel
theorem dX8_even_40 : decode cX8_even 40 = .ok (.iconst 2, 1) := by decide +kernel
theorem dX8_even_41 : decode cX8_even 41 = .ok (.iload_n 1, 1) := by decide +kernel
theorem dX8_even_42 : decode cX8_even 42 = .ok (.imul, 1) := by decide +kernel
theorem dX8_even_43 : decode cX8_even 43 = .ok (.iload_n 2, 1) := by decide +kernel
theorem dX8_even_44 : decode cX8_even 44 = .ok (.iadd, 1) := by decide +kernel
theorem dX8_even_45 : decode cX8_even 45 = .ok (.iaload, 1) := by decide +kernel
theorem dX8_even_46 : decode cX8_even 46 = .ok (.ireturn, 1) := by decide +kernel
set_option maxRecDepth 20000 in
theorem ggX8_normal_X8_way : GoodIn wsX8_normal wsX8_way := goodIn_r _ [8, 9, 10, 11, 12, 7, 13, 14, 15, 16, 17, 18, 19, 38, 39, 40, 41, 42, 43, 44, 45, 46, 47, 48, 49, 50, 51, 52, 53, 54, 55, 56, 57, 58, 59, 60, 61, 62, 63, 64, 65, 66, 67, 68, 69] (by decide +kernel) (by decide +kernel)
set_option maxRecDepth 20000 in
theorem gX8_normal_X8_way : GoodIn wsX8_normal (wsV RX8 102 RX8 yX8_way wsX8_way) := goodIn_app (goodIn_of _ (by decide +kernel)) ggX8_normal_X8_way
set_option maxRecDepth 20000 in
theorem ggX8_normal_X8_in : GoodIn wsX8_normal wsX8_in := goodIn_r _ [22] (by decide +kernel) (by decide +kernel)
set_option maxRecDepth 20000 in
theorem gX8_normal_X8_in : GoodIn wsX8_normal (va_wsS RX8 88 yX8_in wsX8_in) := goodIn_app (goodIn_of _ (by decide +kernel)) ggX8_normal_X8_in
set_option maxRecDepth 20000 in
theorem ggX8_normal_X8_findNorms : GoodIn wsX8_normal wsX8_findNorms := goodIn_r _ [26, 27, 28, 3, 29, 30, 31, 32, 7, 33, 34, 15, 16, 4, 5, 6, 8, 9, 10, 11, 12, 13, 14, 17, 18, 19, 35, 36, 37, 38, 39, 40, 41, 42, 43, 44, 45, 46, 47, 48, 49, 50, 51, 52, 53, 54, 55, 56, 57, 58, 59, 60, 61, 62, 63, 64, 65, 66, 67, 68, 69] (by decide +kernel) (by decide +kernel)
set_option maxRecDepth 20000 in
theorem gX8_normal_X8_findNorms : GoodIn wsX8_normal (wsV RX8 120 RX8 yX8_findNorms wsX8_findNorms) := goodIn_app (goodIn_of _ (by decide +kernel)) ggX8_normal_X8_findNorms
theorem dX8_normal_0 : decode cX8_normal 0 = .ok (.aload_n 0, 1) := by decide +kernel
theorem dX8_normal_1 : decode cX8_normal 1 = .ok (.invokevirtual 102, 3) := by decide +kernel
theorem dX8_normal_4 : decode cX8_normal 4 = .ok (.ifCond .eq 25, 3) := by decide +kernel
theorem dX8_normal_7 : decode cX8_normal 7 = .ok (.iload_n 1, 1) := by decide +kernel
theorem dX8_normal_8 : decode cX8_normal 8 = .ok (.i2l, 1) := by decide +kernel
theorem dX8_normal_9 : decode cX8_normal 9 = .ok (.lconst 0, 1) := by decide +kernel
theorem dX8_normal_10 : decode cX8_normal 10 = .ok (.ldc2_w 117, 3) := by decide +kernel
theorem dX8_normal_13 : decode cX8_normal 13 = .ok (.invokestatic 88, 3) := by decide +kernel
theorem dX8_normal_16 : decode cX8_normal 16 = .ok (.ifCond .eq 13, 3) := by decide +kernel
theorem dX8_normal_19 : decode cX8_normal 19 = .ok (.iload_n 2, 1) := by decide +kernel
theorem dX8_normal_20 : decode cX8_normal 20 = .ok (.i2l, 1) := by decide +kernel
theorem dX8_normal_21 : decode cX8_normal 21 = .ok (.lconst 0, 1) := by decide +kernel
theorem dX8_normal_22 : decode cX8_normal 22 = .ok (.lconst 1, 1) := by decide +kernel
theorem dX8_normal_23 : decode cX8_normal 23 = .ok (.invokestatic 88, 3) := by decide +kernel
theorem dX8_normal_26 : decode cX8_normal 26 = .ok (.ifCond .ne 6, 3) := by decide +kernel
theorem dX8_normal_29 : decode cX8_normal 29 = .ok (.ldc 119, 2) := by decide +kernel
theorem dX8_normal_31 : decode cX8_normal 31 = .ok (.ireturn, 1) := by decide +kernel
theorem dX8_normal_32 : decode cX8_normal 32 = .ok (.aload_n 0, 1) := by decide +kernel
theorem dX8_normal_33 : decode cX8_normal 33 = .ok (.invokevirtual 120, 3) := by decide +kernel
theorem dX8_normal_36 : decode cX8_normal 36 = .ok (.aload_n 0, 1) := by decide +kernel
theorem dX8_normal_37 : decode cX8_normal 37 = .ok (.getfield 23, 3) := by decide +kernel
theorem dX8_normal_40 : decode cX8_normal 40 = .ok (.iconst 2, 1) := by decide +kernel
theorem dX8_normal_41 : decode cX8_normal 41 = .ok (.iload_n 1, 1) := by decide +kernel
theorem dX8_normal_42 : decode cX8_normal 42 = .ok (.imul, 1) := by decide +kernel
theorem dX8_normal_43 : decode cX8_normal 43 = .ok (.iload_n 2, 1) := by decide +kernel
theorem dX8_normal_44 : decode cX8_normal 44 = .ok (.iadd, 1) := by decide +kernel
theorem dX8_normal_45 : decode cX8_normal 45 = .ok (.iaload, 1) := by decide +kernel
theorem dX8_normal_46 : decode cX8_normal 46 = .ok (.ireturn, 1) := by decide +kernel
set_option maxRecDepth 20000 in
theorem ggX8_isTaught_X8_in : GoodIn wsX8_isTaught wsX8_in := goodIn_r _ [5] (by decide +kernel) (by decide +kernel)
set_option maxRecDepth 20000 in
theorem gX8_isTaught_X8_in : GoodIn wsX8_isTaught (va_wsS RX8 88 yX8_in wsX8_in) := goodIn_app (goodIn_of _ (by decide +kernel)) ggX8_isTaught_X8_in
theorem dX8_isTaught_0 : decode cX8_isTaught 0 = .ok (.iload_n 1, 1) := by decide +kernel
theorem dX8_isTaught_1 : decode cX8_isTaught 1 = .ok (.i2l, 1) := by decide +kernel
theorem dX8_isTaught_2 : decode cX8_isTaught 2 = .ok (.lconst 0, 1) := by decide +kernel
theorem dX8_isTaught_3 : decode cX8_isTaught 3 = .ok (.aload_n 0, 1) := by decide +kernel
theorem dX8_isTaught_4 : decode cX8_isTaught 4 = .ok (.getfield 123, 3) := by decide +kernel
theorem dX8_isTaught_7 : decode cX8_isTaught 7 = .ok (.iconst 1, 1) := by decide +kernel
theorem dX8_isTaught_8 : decode cX8_isTaught 8 = .ok (.isub, 1) := by decide +kernel
theorem dX8_isTaught_9 : decode cX8_isTaught 9 = .ok (.i2l, 1) := by decide +kernel
theorem dX8_isTaught_10 : decode cX8_isTaught 10 = .ok (.invokestatic 88, 3) := by decide +kernel
theorem dX8_isTaught_13 : decode cX8_isTaught 13 = .ok (.ireturn, 1) := by decide +kernel
theorem dX8_keeps_0 : decode cX8_keeps 0 = .ok (.aload_n 0, 1) := by decide +kernel
theorem dX8_keeps_1 : decode cX8_keeps 1 = .ok (.getfield 126, 3) := by decide +kernel
theorem dX8_keeps_4 : decode cX8_keeps 4 = .ok (.bipush 6, 2) := by decide +kernel
theorem dX8_keeps_6 : decode cX8_keeps 6 = .ok (.if_icmp .ne 125, 3) := by decide +kernel
theorem dX8_keeps_9 : decode cX8_keeps 9 = .ok (.iconst 1, 1) := by decide +kernel
theorem dX8_keeps_10 : decode cX8_keeps 10 = .ok (.istore_n 3, 1) := by decide +kernel
theorem dX8_keeps_11 : decode cX8_keeps 11 = .ok (.iload_n 3, 1) := by decide +kernel
theorem dX8_keeps_12 : decode cX8_keeps 12 = .ok (.bipush 6, 2) := by decide +kernel
theorem dX8_keeps_14 : decode cX8_keeps 14 = .ok (.if_icmp .ge 107, 3) := by decide +kernel
theorem dX8_keeps_17 : decode cX8_keeps 17 = .ok (.aload_n 0, 1) := by decide +kernel
theorem dX8_keeps_18 : decode cX8_keeps 18 = .ok (.getfield 35, 3) := by decide +kernel
theorem dX8_keeps_21 : decode cX8_keeps 21 = .ok (.iload_n 3, 1) := by decide +kernel
theorem dX8_keeps_22 : decode cX8_keeps 22 = .ok (.iconst 1, 1) := by decide +kernel
theorem dX8_keeps_23 : decode cX8_keeps 23 = .ok (.isub, 1) := by decide +kernel
theorem dX8_keeps_24 : decode cX8_keeps 24 = .ok (.aload_n 0, 1) := by decide +kernel
theorem dX8_keeps_25 : decode cX8_keeps 25 = .ok (.getfield 35, 3) := by decide +kernel
theorem dX8_keeps_28 : decode cX8_keeps 28 = .ok (.iload_n 3, 1) := by decide +kernel
theorem dX8_keeps_29 : decode cX8_keeps 29 = .ok (.iaload, 1) := by decide +kernel
theorem dX8_keeps_30 : decode cX8_keeps 30 = .ok (.iastore, 1) := by decide +kernel
theorem dX8_keeps_31 : decode cX8_keeps 31 = .ok (.aload_n 0, 1) := by decide +kernel
theorem dX8_keeps_32 : decode cX8_keeps 32 = .ok (.getfield 38, 3) := by decide +kernel
theorem dX8_keeps_35 : decode cX8_keeps 35 = .ok (.iload_n 3, 1) := by decide +kernel
theorem dX8_keeps_36 : decode cX8_keeps 36 = .ok (.iconst 1, 1) := by decide +kernel
theorem dX8_keeps_37 : decode cX8_keeps 37 = .ok (.isub, 1) := by decide +kernel
theorem dX8_keeps_38 : decode cX8_keeps 38 = .ok (.aload_n 0, 1) := by decide +kernel
theorem dX8_keeps_39 : decode cX8_keeps 39 = .ok (.getfield 38, 3) := by decide +kernel
theorem dX8_keeps_42 : decode cX8_keeps 42 = .ok (.iload_n 3, 1) := by decide +kernel
theorem dX8_keeps_43 : decode cX8_keeps 43 = .ok (.iaload, 1) := by decide +kernel
theorem dX8_keeps_44 : decode cX8_keeps 44 = .ok (.iastore, 1) := by decide +kernel
theorem dX8_keeps_45 : decode cX8_keeps 45 = .ok (.aload_n 0, 1) := by decide +kernel
theorem dX8_keeps_46 : decode cX8_keeps 46 = .ok (.getfield 41, 3) := by decide +kernel
theorem dX8_keeps_49 : decode cX8_keeps 49 = .ok (.iload_n 3, 1) := by decide +kernel
theorem dX8_keeps_50 : decode cX8_keeps 50 = .ok (.iconst 1, 1) := by decide +kernel
theorem dX8_keeps_51 : decode cX8_keeps 51 = .ok (.isub, 1) := by decide +kernel
theorem dX8_keeps_52 : decode cX8_keeps 52 = .ok (.aload_n 0, 1) := by decide +kernel
theorem dX8_keeps_53 : decode cX8_keeps 53 = .ok (.getfield 41, 3) := by decide +kernel
theorem dX8_keeps_56 : decode cX8_keeps 56 = .ok (.iload_n 3, 1) := by decide +kernel
theorem dX8_keeps_57 : decode cX8_keeps 57 = .ok (.iaload, 1) := by decide +kernel
theorem dX8_keeps_58 : decode cX8_keeps 58 = .ok (.iastore, 1) := by decide +kernel
theorem dX8_keeps_59 : decode cX8_keeps 59 = .ok (.aload_n 0, 1) := by decide +kernel
theorem dX8_keeps_60 : decode cX8_keeps 60 = .ok (.getfield 44, 3) := by decide +kernel
theorem dX8_keeps_63 : decode cX8_keeps 63 = .ok (.iload_n 3, 1) := by decide +kernel
theorem dX8_keeps_64 : decode cX8_keeps 64 = .ok (.iconst 1, 1) := by decide +kernel
theorem dX8_keeps_65 : decode cX8_keeps 65 = .ok (.isub, 1) := by decide +kernel
theorem dX8_keeps_66 : decode cX8_keeps 66 = .ok (.aload_n 0, 1) := by decide +kernel
theorem dX8_keeps_67 : decode cX8_keeps 67 = .ok (.getfield 44, 3) := by decide +kernel
theorem dX8_keeps_70 : decode cX8_keeps 70 = .ok (.iload_n 3, 1) := by decide +kernel
theorem dX8_keeps_71 : decode cX8_keeps 71 = .ok (.iaload, 1) := by decide +kernel
theorem dX8_keeps_72 : decode cX8_keeps 72 = .ok (.iastore, 1) := by decide +kernel
theorem dX8_keeps_73 : decode cX8_keeps 73 = .ok (.iconst 0, 1) := by decide +kernel
theorem dX8_keeps_74 : decode cX8_keeps 74 = .ok (.istore 4, 2) := by decide +kernel
theorem dX8_keeps_76 : decode cX8_keeps 76 = .ok (.iload 4, 2) := by decide +kernel
theorem dX8_keeps_78 : decode cX8_keeps 78 = .ok (.bipush 16, 2) := by decide +kernel
theorem dX8_keeps_80 : decode cX8_keeps 80 = .ok (.if_icmp .ge 35, 3) := by decide +kernel
theorem dX8_keeps_83 : decode cX8_keeps 83 = .ok (.aload_n 0, 1) := by decide +kernel
theorem dX8_keeps_84 : decode cX8_keeps 84 = .ok (.getfield 47, 3) := by decide +kernel
theorem dX8_keeps_87 : decode cX8_keeps 87 = .ok (.bipush 16, 2) := by decide +kernel
theorem dX8_keeps_89 : decode cX8_keeps 89 = .ok (.iload_n 3, 1) := by decide +kernel
theorem dX8_keeps_90 : decode cX8_keeps 90 = .ok (.iconst 1, 1) := by decide +kernel
theorem dX8_keeps_91 : decode cX8_keeps 91 = .ok (.isub, 1) := by decide +kernel
theorem dX8_keeps_92 : decode cX8_keeps 92 = .ok (.imul, 1) := by decide +kernel
theorem dX8_keeps_93 : decode cX8_keeps 93 = .ok (.iload 4, 2) := by decide +kernel
theorem dX8_keeps_95 : decode cX8_keeps 95 = .ok (.iadd, 1) := by decide +kernel
theorem dX8_keeps_96 : decode cX8_keeps 96 = .ok (.aload_n 0, 1) := by decide +kernel
theorem dX8_keeps_97 : decode cX8_keeps 97 = .ok (.getfield 47, 3) := by decide +kernel
theorem dX8_keeps_100 : decode cX8_keeps 100 = .ok (.bipush 16, 2) := by decide +kernel
theorem dX8_keeps_102 : decode cX8_keeps 102 = .ok (.iload_n 3, 1) := by decide +kernel
theorem dX8_keeps_103 : decode cX8_keeps 103 = .ok (.imul, 1) := by decide +kernel
theorem dX8_keeps_104 : decode cX8_keeps 104 = .ok (.iload 4, 2) := by decide +kernel
theorem dX8_keeps_106 : decode cX8_keeps 106 = .ok (.iadd, 1) := by decide +kernel
theorem dX8_keeps_107 : decode cX8_keeps 107 = .ok (.iaload, 1) := by decide +kernel
theorem dX8_keeps_108 : decode cX8_keeps 108 = .ok (.iastore, 1) := by decide +kernel
theorem dX8_keeps_109 : decode cX8_keeps 109 = .ok (.iinc 4 1, 3) := by decide +kernel
theorem dX8_keeps_112 : decode cX8_keeps 112 = .ok (.goto (-36), 3) := by decide +kernel
theorem dX8_keeps_115 : decode cX8_keeps 115 = .ok (.iinc 3 1, 3) := by decide +kernel
theorem dX8_keeps_118 : decode cX8_keeps 118 = .ok (.goto (-107), 3) := by decide +kernel
theorem dX8_keeps_121 : decode cX8_keeps 121 = .ok (.aload_n 0, 1) := by decide +kernel
theorem dX8_keeps_122 : decode cX8_keeps 122 = .ok (.dup, 1) := by decide +kernel
theorem dX8_keeps_123 : decode cX8_keeps 123 = .ok (.getfield 126, 3) := by decide +kernel
theorem dX8_keeps_126 : decode cX8_keeps 126 = .ok (.iconst 1, 1) := by decide +kernel
theorem dX8_keeps_127 : decode cX8_keeps 127 = .ok (.isub, 1) := by decide +kernel
theorem dX8_keeps_128 : decode cX8_keeps 128 = .ok (.putfield 126, 3) := by decide +kernel
theorem dX8_keeps_131 : decode cX8_keeps 131 = .ok (.aload_n 0, 1) := by decide +kernel
theorem dX8_keeps_132 : decode cX8_keeps 132 = .ok (.getfield 35, 3) := by decide +kernel
theorem dX8_keeps_135 : decode cX8_keeps 135 = .ok (.aload_n 0, 1) := by decide +kernel
theorem dX8_keeps_136 : decode cX8_keeps 136 = .ok (.getfield 126, 3) := by decide +kernel
theorem dX8_keeps_139 : decode cX8_keeps 139 = .ok (.iload_n 1, 1) := by decide +kernel
theorem dX8_keeps_140 : decode cX8_keeps 140 = .ok (.iastore, 1) := by decide +kernel
theorem dX8_keeps_141 : decode cX8_keeps 141 = .ok (.aload_n 0, 1) := by decide +kernel
theorem dX8_keeps_142 : decode cX8_keeps 142 = .ok (.getfield 38, 3) := by decide +kernel
theorem dX8_keeps_145 : decode cX8_keeps 145 = .ok (.aload_n 0, 1) := by decide +kernel
theorem dX8_keeps_146 : decode cX8_keeps 146 = .ok (.getfield 126, 3) := by decide +kernel
theorem dX8_keeps_149 : decode cX8_keeps 149 = .ok (.iload_n 2, 1) := by decide +kernel
theorem dX8_keeps_150 : decode cX8_keeps 150 = .ok (.iastore, 1) := by decide +kernel
theorem dX8_keeps_151 : decode cX8_keeps 151 = .ok (.aload_n 0, 1) := by decide +kernel
theorem dX8_keeps_152 : decode cX8_keeps 152 = .ok (.getfield 41, 3) := by decide +kernel
theorem dX8_keeps_155 : decode cX8_keeps 155 = .ok (.aload_n 0, 1) := by decide +kernel
theorem dX8_keeps_156 : decode cX8_keeps 156 = .ok (.getfield 126, 3) := by decide +kernel
theorem dX8_keeps_159 : decode cX8_keeps 159 = .ok (.aload_n 0, 1) := by decide +kernel
theorem dX8_keeps_160 : decode cX8_keeps 160 = .ok (.getfield 26, 3) := by decide +kernel
theorem dX8_keeps_163 : decode cX8_keeps 163 = .ok (.iload_n 2, 1) := by decide +kernel
theorem dX8_keeps_164 : decode cX8_keeps 164 = .ok (.iaload, 1) := by decide +kernel
theorem dX8_keeps_165 : decode cX8_keeps 165 = .ok (.iastore, 1) := by decide +kernel
theorem dX8_keeps_166 : decode cX8_keeps 166 = .ok (.aload_n 0, 1) := by decide +kernel
theorem dX8_keeps_167 : decode cX8_keeps 167 = .ok (.getfield 44, 3) := by decide +kernel
theorem dX8_keeps_170 : decode cX8_keeps 170 = .ok (.aload_n 0, 1) := by decide +kernel
theorem dX8_keeps_171 : decode cX8_keeps 171 = .ok (.getfield 126, 3) := by decide +kernel
theorem dX8_keeps_174 : decode cX8_keeps 174 = .ok (.aload_n 0, 1) := by decide +kernel
theorem dX8_keeps_175 : decode cX8_keeps 175 = .ok (.getfield 29, 3) := by decide +kernel
theorem dX8_keeps_178 : decode cX8_keeps 178 = .ok (.iload_n 2, 1) := by decide +kernel
theorem dX8_keeps_179 : decode cX8_keeps 179 = .ok (.iaload, 1) := by decide +kernel
theorem dX8_keeps_180 : decode cX8_keeps 180 = .ok (.iastore, 1) := by decide +kernel
theorem dX8_keeps_181 : decode cX8_keeps 181 = .ok (.iconst 0, 1) := by decide +kernel
theorem dX8_keeps_182 : decode cX8_keeps 182 = .ok (.istore_n 3, 1) := by decide +kernel
theorem dX8_keeps_183 : decode cX8_keeps 183 = .ok (.iload_n 3, 1) := by decide +kernel
theorem dX8_keeps_184 : decode cX8_keeps 184 = .ok (.bipush 16, 2) := by decide +kernel
theorem dX8_keeps_186 : decode cX8_keeps 186 = .ok (.if_icmp .ge 34, 3) := by decide +kernel
theorem dX8_keeps_189 : decode cX8_keeps 189 = .ok (.aload_n 0, 1) := by decide +kernel
theorem dX8_keeps_190 : decode cX8_keeps 190 = .ok (.getfield 47, 3) := by decide +kernel
theorem dX8_keeps_193 : decode cX8_keeps 193 = .ok (.bipush 16, 2) := by decide +kernel
theorem dX8_keeps_195 : decode cX8_keeps 195 = .ok (.aload_n 0, 1) := by decide +kernel
theorem dX8_keeps_196 : decode cX8_keeps 196 = .ok (.getfield 126, 3) := by decide +kernel
theorem dX8_keeps_199 : decode cX8_keeps 199 = .ok (.imul, 1) := by decide +kernel
theorem dX8_keeps_200 : decode cX8_keeps 200 = .ok (.iload_n 3, 1) := by decide +kernel
theorem dX8_keeps_201 : decode cX8_keeps 201 = .ok (.iadd, 1) := by decide +kernel
theorem dX8_keeps_202 : decode cX8_keeps 202 = .ok (.aload_n 0, 1) := by decide +kernel
theorem dX8_keeps_203 : decode cX8_keeps 203 = .ok (.getfield 32, 3) := by decide +kernel
theorem dX8_keeps_206 : decode cX8_keeps 206 = .ok (.bipush 16, 2) := by decide +kernel
theorem dX8_keeps_208 : decode cX8_keeps 208 = .ok (.iload_n 2, 1) := by decide +kernel
theorem dX8_keeps_209 : decode cX8_keeps 209 = .ok (.imul, 1) := by decide +kernel
theorem dX8_keeps_210 : decode cX8_keeps 210 = .ok (.iload_n 3, 1) := by decide +kernel
theorem dX8_keeps_211 : decode cX8_keeps 211 = .ok (.iadd, 1) := by decide +kernel
theorem dX8_keeps_212 : decode cX8_keeps 212 = .ok (.iaload, 1) := by decide +kernel
theorem dX8_keeps_213 : decode cX8_keeps 213 = .ok (.iastore, 1) := by decide +kernel
theorem dX8_keeps_214 : decode cX8_keeps 214 = .ok (.iinc 3 1, 3) := by decide +kernel
theorem dX8_keeps_217 : decode cX8_keeps 217 = .ok (.goto (-34), 3) := by decide +kernel
theorem dX8_keeps_220 : decode cX8_keeps 220 = .ok (.aload_n 0, 1) := by decide +kernel
theorem dX8_keeps_221 : decode cX8_keeps 221 = .ok (.dup, 1) := by decide +kernel
theorem dX8_keeps_222 : decode cX8_keeps 222 = .ok (.getfield 126, 3) := by decide +kernel
theorem dX8_keeps_225 : decode cX8_keeps 225 = .ok (.iconst 1, 1) := by decide +kernel
theorem dX8_keeps_226 : decode cX8_keeps 226 = .ok (.iadd, 1) := by decide +kernel
theorem dX8_keeps_227 : decode cX8_keeps 227 = .ok (.putfield 126, 3) := by decide +kernel
theorem dX8_keeps_230 : decode cX8_keeps 230 = .ok (.return_, 1) := by decide +kernel
theorem dX8_moves_0 : decode cX8_moves 0 = .ok (.aload_n 0, 1) := by decide +kernel
theorem dX8_moves_1 : decode cX8_moves 1 = .ok (.getfield 26, 3) := by decide +kernel
theorem dX8_moves_4 : decode cX8_moves 4 = .ok (.iload_n 2, 1) := by decide +kernel
theorem dX8_moves_5 : decode cX8_moves 5 = .ok (.aload_n 0, 1) := by decide +kernel
theorem dX8_moves_6 : decode cX8_moves 6 = .ok (.getfield 26, 3) := by decide +kernel
theorem dX8_moves_9 : decode cX8_moves 9 = .ok (.iload_n 1, 1) := by decide +kernel
theorem dX8_moves_10 : decode cX8_moves 10 = .ok (.iaload, 1) := by decide +kernel
theorem dX8_moves_11 : decode cX8_moves 11 = .ok (.iastore, 1) := by decide +kernel
theorem dX8_moves_12 : decode cX8_moves 12 = .ok (.aload_n 0, 1) := by decide +kernel
theorem dX8_moves_13 : decode cX8_moves 13 = .ok (.getfield 29, 3) := by decide +kernel
theorem dX8_moves_16 : decode cX8_moves 16 = .ok (.iload_n 2, 1) := by decide +kernel
theorem dX8_moves_17 : decode cX8_moves 17 = .ok (.aload_n 0, 1) := by decide +kernel
theorem dX8_moves_18 : decode cX8_moves 18 = .ok (.getfield 29, 3) := by decide +kernel
theorem dX8_moves_21 : decode cX8_moves 21 = .ok (.iload_n 1, 1) := by decide +kernel
theorem dX8_moves_22 : decode cX8_moves 22 = .ok (.iaload, 1) := by decide +kernel
theorem dX8_moves_23 : decode cX8_moves 23 = .ok (.iastore, 1) := by decide +kernel
theorem dX8_moves_24 : decode cX8_moves 24 = .ok (.iconst 0, 1) := by decide +kernel
theorem dX8_moves_25 : decode cX8_moves 25 = .ok (.istore_n 3, 1) := by decide +kernel
theorem dX8_moves_26 : decode cX8_moves 26 = .ok (.iload_n 3, 1) := by decide +kernel
theorem dX8_moves_27 : decode cX8_moves 27 = .ok (.bipush 16, 2) := by decide +kernel
theorem dX8_moves_29 : decode cX8_moves 29 = .ok (.if_icmp .ge 31, 3) := by decide +kernel
theorem dX8_moves_32 : decode cX8_moves 32 = .ok (.aload_n 0, 1) := by decide +kernel
theorem dX8_moves_33 : decode cX8_moves 33 = .ok (.getfield 32, 3) := by decide +kernel
theorem dX8_moves_36 : decode cX8_moves 36 = .ok (.bipush 16, 2) := by decide +kernel
theorem dX8_moves_38 : decode cX8_moves 38 = .ok (.iload_n 2, 1) := by decide +kernel
theorem dX8_moves_39 : decode cX8_moves 39 = .ok (.imul, 1) := by decide +kernel
theorem dX8_moves_40 : decode cX8_moves 40 = .ok (.iload_n 3, 1) := by decide +kernel
theorem dX8_moves_41 : decode cX8_moves 41 = .ok (.iadd, 1) := by decide +kernel
theorem dX8_moves_42 : decode cX8_moves 42 = .ok (.aload_n 0, 1) := by decide +kernel
theorem dX8_moves_43 : decode cX8_moves 43 = .ok (.getfield 32, 3) := by decide +kernel
theorem dX8_moves_46 : decode cX8_moves 46 = .ok (.bipush 16, 2) := by decide +kernel
theorem dX8_moves_48 : decode cX8_moves 48 = .ok (.iload_n 1, 1) := by decide +kernel
theorem dX8_moves_49 : decode cX8_moves 49 = .ok (.imul, 1) := by decide +kernel
theorem dX8_moves_50 : decode cX8_moves 50 = .ok (.iload_n 3, 1) := by decide +kernel
theorem dX8_moves_51 : decode cX8_moves 51 = .ok (.iadd, 1) := by decide +kernel
theorem dX8_moves_52 : decode cX8_moves 52 = .ok (.iaload, 1) := by decide +kernel
theorem dX8_moves_53 : decode cX8_moves 53 = .ok (.iastore, 1) := by decide +kernel
theorem dX8_moves_54 : decode cX8_moves 54 = .ok (.iinc 3 1, 3) := by decide +kernel
theorem dX8_moves_57 : decode cX8_moves 57 = .ok (.goto (-31), 3) := by decide +kernel
theorem dX8_moves_60 : decode cX8_moves 60 = .ok (.return_, 1) := by decide +kernel
set_option maxRecDepth 20000 in
theorem ggX8_teach_X8_in : GoodIn wsX8_teach wsX8_in := goodIn_r _ [11] (by decide +kernel) (by decide +kernel)
set_option maxRecDepth 20000 in
theorem gX8_teach_X8_in : GoodIn wsX8_teach (va_wsS RX8 88 yX8_in wsX8_in) := goodIn_app (goodIn_of _ (by decide +kernel)) ggX8_teach_X8_in
set_option maxRecDepth 20000 in
theorem ggX8_teach_X8_way : GoodIn wsX8_teach wsX8_way := goodIn_r _ [15, 16, 17, 18, 19, 10, 20, 21, 22, 23, 24, 25, 26, 52, 53, 54, 55, 56, 57, 58, 59, 60, 61, 62, 63, 64, 65, 66, 67, 68, 69, 70, 71, 72, 73, 74, 75, 76, 77, 78, 79, 80, 81, 82, 83] (by decide +kernel) (by decide +kernel)
set_option maxRecDepth 20000 in
theorem gX8_teach_X8_way : GoodIn wsX8_teach (wsV RX8 102 RX8 yX8_way wsX8_way) := goodIn_app (goodIn_of _ (by decide +kernel)) ggX8_teach_X8_way
set_option maxRecDepth 20000 in
theorem ggX8_teach_X8_findNorms : GoodIn wsX8_teach wsX8_findNorms := goodIn_r _ [30, 31, 32, 7, 33, 34, 35, 36, 10, 37, 38, 22, 23, 12, 13, 14, 15, 16, 17, 18, 19, 20, 21, 24, 25, 26, 39, 40, 41, 52, 53, 54, 55, 56, 57, 58, 59, 60, 61, 62, 63, 64, 65, 66, 67, 68, 69, 70, 71, 72, 73, 74, 75, 76, 77, 78, 79, 80, 81, 82, 83] (by decide +kernel) (by decide +kernel)
set_option maxRecDepth 20000 in
theorem gX8_teach_X8_findNorms : GoodIn wsX8_teach (wsV RX8 120 RX8 yX8_findNorms wsX8_findNorms) := goodIn_app (goodIn_of _ (by decide +kernel)) ggX8_teach_X8_findNorms
set_option maxRecDepth 20000 in
theorem ggX8_teach_X8_keeps : GoodIn wsX8_teach wsX8_keeps := goodIn_r _ [45, 46, 47, 48, 49, 50, 51, 4, 5, 6, 52, 53, 54, 55, 56, 57, 58, 59, 60, 61, 62, 63, 64, 65, 66, 67, 68, 69, 70, 71, 72, 73, 74, 75, 76, 77, 78, 79, 80, 81, 82, 83] (by decide +kernel) (by decide +kernel)
set_option maxRecDepth 20000 in
theorem gX8_teach_X8_keeps : GoodIn wsX8_teach (wsV RX8 133 RX8 yX8_keeps wsX8_keeps) := goodIn_app (goodIn_of _ (by decide +kernel)) ggX8_teach_X8_keeps
theorem dX8_teach_0 : decode cX8_teach 0 = .ok (.iload_n 1, 1) := by decide +kernel
theorem dX8_teach_1 : decode cX8_teach 1 = .ok (.i2l, 1) := by decide +kernel
theorem dX8_teach_2 : decode cX8_teach 2 = .ok (.lconst 0, 1) := by decide +kernel
theorem dX8_teach_3 : decode cX8_teach 3 = .ok (.ldc2_w 129, 3) := by decide +kernel
theorem dX8_teach_6 : decode cX8_teach 6 = .ok (.invokestatic 88, 3) := by decide +kernel
theorem dX8_teach_9 : decode cX8_teach 9 = .ok (.ifCond .eq 15, 3) := by decide +kernel
theorem dX8_teach_12 : decode cX8_teach 12 = .ok (.iload_n 2, 1) := by decide +kernel
theorem dX8_teach_13 : decode cX8_teach 13 = .ok (.i2l, 1) := by decide +kernel
theorem dX8_teach_14 : decode cX8_teach 14 = .ok (.lconst 0, 1) := by decide +kernel
theorem dX8_teach_15 : decode cX8_teach 15 = .ok (.ldc2_w 131, 3) := by decide +kernel
theorem dX8_teach_18 : decode cX8_teach 18 = .ok (.invokestatic 88, 3) := by decide +kernel
theorem dX8_teach_21 : decode cX8_teach 21 = .ok (.ifCond .ne 5, 3) := by decide +kernel
theorem dX8_teach_24 : decode cX8_teach 24 = .ok (.iconst (-1), 1) := by decide +kernel
theorem dX8_teach_25 : decode cX8_teach 25 = .ok (.ireturn, 1) := by decide +kernel
theorem dX8_teach_26 : decode cX8_teach 26 = .ok (.aload_n 0, 1) := by decide +kernel
theorem dX8_teach_27 : decode cX8_teach 27 = .ok (.invokevirtual 102, 3) := by decide +kernel
theorem dX8_teach_30 : decode cX8_teach 30 = .ok (.ifCond .ne 6, 3) := by decide +kernel
theorem dX8_teach_33 : decode cX8_teach 33 = .ok (.bipush (-2), 2) := by decide +kernel
theorem dX8_teach_35 : decode cX8_teach 35 = .ok (.ireturn, 1) := by decide +kernel
theorem dX8_teach_36 : decode cX8_teach 36 = .ok (.aload_n 0, 1) := by decide +kernel
theorem dX8_teach_37 : decode cX8_teach 37 = .ok (.getfield 123, 3) := by decide +kernel
theorem dX8_teach_40 : decode cX8_teach 40 = .ok (.bipush 16, 2) := by decide +kernel
theorem dX8_teach_42 : decode cX8_teach 42 = .ok (.if_icmp .ne 6, 3) := by decide +kernel
theorem dX8_teach_45 : decode cX8_teach 45 = .ok (.bipush (-3), 2) := by decide +kernel
theorem dX8_teach_47 : decode cX8_teach 47 = .ok (.ireturn, 1) := by decide +kernel
theorem dX8_teach_48 : decode cX8_teach 48 = .ok (.aload_n 0, 1) := by decide +kernel
theorem dX8_teach_49 : decode cX8_teach 49 = .ok (.invokevirtual 120, 3) := by decide +kernel
theorem dX8_teach_52 : decode cX8_teach 52 = .ok (.aload_n 0, 1) := by decide +kernel
theorem dX8_teach_53 : decode cX8_teach 53 = .ok (.getfield 26, 3) := by decide +kernel
theorem dX8_teach_56 : decode cX8_teach 56 = .ok (.aload_n 0, 1) := by decide +kernel
theorem dX8_teach_57 : decode cX8_teach 57 = .ok (.getfield 123, 3) := by decide +kernel
theorem dX8_teach_60 : decode cX8_teach 60 = .ok (.iload_n 1, 1) := by decide +kernel
theorem dX8_teach_61 : decode cX8_teach 61 = .ok (.iastore, 1) := by decide +kernel
theorem dX8_teach_62 : decode cX8_teach 62 = .ok (.aload_n 0, 1) := by decide +kernel
theorem dX8_teach_63 : decode cX8_teach 63 = .ok (.getfield 29, 3) := by decide +kernel
theorem dX8_teach_66 : decode cX8_teach 66 = .ok (.aload_n 0, 1) := by decide +kernel
theorem dX8_teach_67 : decode cX8_teach 67 = .ok (.getfield 123, 3) := by decide +kernel
theorem dX8_teach_70 : decode cX8_teach 70 = .ok (.iload_n 2, 1) := by decide +kernel
theorem dX8_teach_71 : decode cX8_teach 71 = .ok (.iastore, 1) := by decide +kernel
theorem dX8_teach_72 : decode cX8_teach 72 = .ok (.iconst 0, 1) := by decide +kernel
theorem dX8_teach_73 : decode cX8_teach 73 = .ok (.istore_n 3, 1) := by decide +kernel
theorem dX8_teach_74 : decode cX8_teach 74 = .ok (.iload_n 3, 1) := by decide +kernel
theorem dX8_teach_75 : decode cX8_teach 75 = .ok (.bipush 16, 2) := by decide +kernel
theorem dX8_teach_77 : decode cX8_teach 77 = .ok (.if_icmp .ge 29, 3) := by decide +kernel
theorem dX8_teach_80 : decode cX8_teach 80 = .ok (.aload_n 0, 1) := by decide +kernel
theorem dX8_teach_81 : decode cX8_teach 81 = .ok (.getfield 32, 3) := by decide +kernel
theorem dX8_teach_84 : decode cX8_teach 84 = .ok (.bipush 16, 2) := by decide +kernel
theorem dX8_teach_86 : decode cX8_teach 86 = .ok (.aload_n 0, 1) := by decide +kernel
theorem dX8_teach_87 : decode cX8_teach 87 = .ok (.getfield 123, 3) := by decide +kernel
theorem dX8_teach_90 : decode cX8_teach 90 = .ok (.imul, 1) := by decide +kernel
theorem dX8_teach_91 : decode cX8_teach 91 = .ok (.iload_n 3, 1) := by decide +kernel
theorem dX8_teach_92 : decode cX8_teach 92 = .ok (.iadd, 1) := by decide +kernel
theorem dX8_teach_93 : decode cX8_teach 93 = .ok (.aload_n 0, 1) := by decide +kernel
theorem dX8_teach_94 : decode cX8_teach 94 = .ok (.getfield 23, 3) := by decide +kernel
theorem dX8_teach_97 : decode cX8_teach 97 = .ok (.iload_n 3, 1) := by decide +kernel
theorem dX8_teach_98 : decode cX8_teach 98 = .ok (.iaload, 1) := by decide +kernel
theorem dX8_teach_99 : decode cX8_teach 99 = .ok (.iastore, 1) := by decide +kernel
theorem dX8_teach_100 : decode cX8_teach 100 = .ok (.iinc 3 1, 3) := by decide +kernel
theorem dX8_teach_103 : decode cX8_teach 103 = .ok (.goto (-29), 3) := by decide +kernel
theorem dX8_teach_106 : decode cX8_teach 106 = .ok (.aload_n 0, 1) := by decide +kernel
theorem dX8_teach_107 : decode cX8_teach 107 = .ok (.iconst 0, 1) := by decide +kernel
theorem dX8_teach_108 : decode cX8_teach 108 = .ok (.aload_n 0, 1) := by decide +kernel
theorem dX8_teach_109 : decode cX8_teach 109 = .ok (.getfield 123, 3) := by decide +kernel
theorem dX8_teach_112 : decode cX8_teach 112 = .ok (.invokevirtual 133, 3) := by decide +kernel
theorem dX8_teach_115 : decode cX8_teach 115 = .ok (.aload_n 0, 1) := by decide +kernel
theorem dX8_teach_116 : decode cX8_teach 116 = .ok (.dup, 1) := by decide +kernel
theorem dX8_teach_117 : decode cX8_teach 117 = .ok (.getfield 123, 3) := by decide +kernel
theorem dX8_teach_120 : decode cX8_teach 120 = .ok (.iconst 1, 1) := by decide +kernel
theorem dX8_teach_121 : decode cX8_teach 121 = .ok (.iadd, 1) := by decide +kernel
theorem dX8_teach_122 : decode cX8_teach 122 = .ok (.putfield 123, 3) := by decide +kernel
theorem dX8_teach_125 : decode cX8_teach 125 = .ok (.aload_n 0, 1) := by decide +kernel
theorem dX8_teach_126 : decode cX8_teach 126 = .ok (.getfield 123, 3) := by decide +kernel
theorem dX8_teach_129 : decode cX8_teach 129 = .ok (.iconst 1, 1) := by decide +kernel
theorem dX8_teach_130 : decode cX8_teach 130 = .ok (.isub, 1) := by decide +kernel
theorem dX8_teach_131 : decode cX8_teach 131 = .ok (.ireturn, 1) := by decide +kernel
set_option maxRecDepth 20000 in
theorem ggX8_goes_X8_moves : GoodIn wsX8_goes wsX8_moves := goodIn_r _ [6, 7, 8, 9, 10, 11, 12, 13, 14, 15, 16, 17, 18, 19, 20, 21, 22, 23, 24, 25, 26, 27, 28, 29, 30, 31, 32, 33, 34, 35, 36, 37, 38, 39, 40, 41] (by decide +kernel) (by decide +kernel)
set_option maxRecDepth 20000 in
theorem gX8_goes_X8_moves : GoodIn wsX8_goes (wsV RX8 137 RX8 yX8_moves wsX8_moves) := goodIn_app (goodIn_of _ (by decide +kernel)) ggX8_goes_X8_moves
theorem dX8_goes_0 : decode cX8_goes 0 = .ok (.aload_n 0, 1) := by decide +kernel
theorem dX8_goes_1 : decode cX8_goes 1 = .ok (.dup, 1) := by decide +kernel
theorem dX8_goes_2 : decode cX8_goes 2 = .ok (.getfield 123, 3) := by decide +kernel
theorem dX8_goes_5 : decode cX8_goes 5 = .ok (.iconst 1, 1) := by decide +kernel
theorem dX8_goes_6 : decode cX8_goes 6 = .ok (.isub, 1) := by decide +kernel
theorem dX8_goes_7 : decode cX8_goes 7 = .ok (.putfield 123, 3) := by decide +kernel
theorem dX8_goes_10 : decode cX8_goes 10 = .ok (.iload_n 1, 1) := by decide +kernel
theorem dX8_goes_11 : decode cX8_goes 11 = .ok (.istore_n 2, 1) := by decide +kernel
theorem dX8_goes_12 : decode cX8_goes 12 = .ok (.iload_n 2, 1) := by decide +kernel
theorem dX8_goes_13 : decode cX8_goes 13 = .ok (.aload_n 0, 1) := by decide +kernel
theorem dX8_goes_14 : decode cX8_goes 14 = .ok (.getfield 123, 3) := by decide +kernel
theorem dX8_goes_17 : decode cX8_goes 17 = .ok (.if_icmp .ge 17, 3) := by decide +kernel
theorem dX8_goes_20 : decode cX8_goes 20 = .ok (.aload_n 0, 1) := by decide +kernel
theorem dX8_goes_21 : decode cX8_goes 21 = .ok (.iload_n 2, 1) := by decide +kernel
theorem dX8_goes_22 : decode cX8_goes 22 = .ok (.iconst 1, 1) := by decide +kernel
theorem dX8_goes_23 : decode cX8_goes 23 = .ok (.iadd, 1) := by decide +kernel
theorem dX8_goes_24 : decode cX8_goes 24 = .ok (.iload_n 2, 1) := by decide +kernel
theorem dX8_goes_25 : decode cX8_goes 25 = .ok (.invokevirtual 137, 3) := by decide +kernel
theorem dX8_goes_28 : decode cX8_goes 28 = .ok (.iinc 2 1, 3) := by decide +kernel
theorem dX8_goes_31 : decode cX8_goes 31 = .ok (.goto (-19), 3) := by decide +kernel
theorem dX8_goes_34 : decode cX8_goes 34 = .ok (.return_, 1) := by decide +kernel
set_option maxRecDepth 20000 in
theorem ggX8_forget_X8_isTaught : GoodIn wsX8_forget wsX8_isTaught := goodIn_r _ [6, 7, 8, 9, 5, 10, 31, 32, 33, 34, 35, 36, 37, 38, 39, 40, 41, 42, 43, 44, 45, 46, 47, 48, 49, 50, 51, 52, 53, 54, 55, 56, 57, 58, 59, 60, 61, 62] (by decide +kernel) (by decide +kernel)
set_option maxRecDepth 20000 in
theorem gX8_forget_X8_isTaught : GoodIn wsX8_forget (wsV RX8 140 RX8 yX8_isTaught wsX8_isTaught) := goodIn_app (goodIn_of _ (by decide +kernel)) ggX8_forget_X8_isTaught
set_option maxRecDepth 20000 in
theorem ggX8_forget_X8_keeps : GoodIn wsX8_forget wsX8_keeps := goodIn_r _ [14, 15, 16, 17, 18, 19, 20, 1, 21, 22, 31, 32, 33, 34, 35, 36, 37, 38, 39, 40, 41, 42, 43, 44, 45, 46, 47, 48, 49, 50, 51, 52, 53, 54, 55, 56, 57, 58, 59, 60, 61, 62] (by decide +kernel) (by decide +kernel)
set_option maxRecDepth 20000 in
theorem gX8_forget_X8_keeps : GoodIn wsX8_forget (wsV RX8 133 RX8 yX8_keeps wsX8_keeps) := goodIn_app (goodIn_of _ (by decide +kernel)) ggX8_forget_X8_keeps
set_option maxRecDepth 20000 in
theorem ggX8_forget_X8_goes : GoodIn wsX8_forget wsX8_goes := goodIn_r _ [26, 7, 27, 28, 29, 5, 30, 1, 21, 22, 31, 32, 33, 34, 35, 36, 37, 38, 39, 40, 41, 42, 43, 44, 45, 46, 47, 48, 49, 50, 51, 52, 53, 54, 55, 56, 57, 58, 59, 60, 61, 62] (by decide +kernel) (by decide +kernel)
set_option maxRecDepth 20000 in
theorem gX8_forget_X8_goes : GoodIn wsX8_forget (wsV RX8 144 RX8 yX8_goes wsX8_goes) := goodIn_app (goodIn_of _ (by decide +kernel)) ggX8_forget_X8_goes
theorem dX8_forget_0 : decode cX8_forget 0 = .ok (.aload_n 0, 1) := by decide +kernel
theorem dX8_forget_1 : decode cX8_forget 1 = .ok (.iload_n 1, 1) := by decide +kernel
theorem dX8_forget_2 : decode cX8_forget 2 = .ok (.invokevirtual 140, 3) := by decide +kernel
theorem dX8_forget_5 : decode cX8_forget 5 = .ok (.ifCond .ne 5, 3) := by decide +kernel
theorem dX8_forget_8 : decode cX8_forget 8 = .ok (.iconst (-1), 1) := by decide +kernel
theorem dX8_forget_9 : decode cX8_forget 9 = .ok (.ireturn, 1) := by decide +kernel
theorem dX8_forget_10 : decode cX8_forget 10 = .ok (.aload_n 0, 1) := by decide +kernel
theorem dX8_forget_11 : decode cX8_forget 11 = .ok (.getfield 26, 3) := by decide +kernel
theorem dX8_forget_14 : decode cX8_forget 14 = .ok (.iload_n 1, 1) := by decide +kernel
theorem dX8_forget_15 : decode cX8_forget 15 = .ok (.iaload, 1) := by decide +kernel
theorem dX8_forget_16 : decode cX8_forget 16 = .ok (.istore_n 2, 1) := by decide +kernel
theorem dX8_forget_17 : decode cX8_forget 17 = .ok (.aload_n 0, 1) := by decide +kernel
theorem dX8_forget_18 : decode cX8_forget 18 = .ok (.iconst 1, 1) := by decide +kernel
theorem dX8_forget_19 : decode cX8_forget 19 = .ok (.iload_n 1, 1) := by decide +kernel
theorem dX8_forget_20 : decode cX8_forget 20 = .ok (.invokevirtual 133, 3) := by decide +kernel
theorem dX8_forget_23 : decode cX8_forget 23 = .ok (.aload_n 0, 1) := by decide +kernel
theorem dX8_forget_24 : decode cX8_forget 24 = .ok (.iload_n 1, 1) := by decide +kernel
theorem dX8_forget_25 : decode cX8_forget 25 = .ok (.invokevirtual 144, 3) := by decide +kernel
theorem dX8_forget_28 : decode cX8_forget 28 = .ok (.iload_n 2, 1) := by decide +kernel
theorem dX8_forget_29 : decode cX8_forget 29 = .ok (.ireturn, 1) := by decide +kernel
set_option maxRecDepth 20000 in
theorem ggX8_undo_X8_goes : GoodIn wsX8_undo wsX8_goes := goodIn_r _ [15, 4, 16, 17, 18, 14, 19, 5, 7, 9, 20, 21, 22, 23, 24, 25, 26, 27, 28, 29, 30, 31, 32, 33, 34, 35, 36, 37, 38, 39, 40, 41, 42, 43, 44, 45, 46, 47, 48, 49, 50, 51] (by decide +kernel) (by decide +kernel)
set_option maxRecDepth 20000 in
theorem gX8_undo_X8_goes : GoodIn wsX8_undo (wsV RX8 144 RX8 yX8_goes wsX8_goes) := goodIn_app (goodIn_of _ (by decide +kernel)) ggX8_undo_X8_goes
set_option maxRecDepth 20000 in
theorem ggX8_undo_X8_moves : GoodIn wsX8_undo wsX8_moves := goodIn_r _ [19, 5, 7, 9, 20, 21, 22, 23, 24, 25, 26, 27, 28, 29, 30, 31, 32, 33, 34, 35, 36, 37, 38, 39, 40, 41, 42, 43, 44, 45, 46, 47, 48, 49, 50, 51] (by decide +kernel) (by decide +kernel)
set_option maxRecDepth 20000 in
theorem gX8_undo_X8_moves : GoodIn wsX8_undo (wsV RX8 137 RX8 yX8_moves wsX8_moves) := goodIn_app (goodIn_of _ (by decide +kernel)) ggX8_undo_X8_moves
theorem dX8_undo_0 : decode cX8_undo 0 = .ok (.aload_n 0, 1) := by decide +kernel
theorem dX8_undo_1 : decode cX8_undo 1 = .ok (.getfield 126, 3) := by decide +kernel
theorem dX8_undo_4 : decode cX8_undo 4 = .ok (.ifCond .ne 6, 3) := by decide +kernel
theorem dX8_undo_7 : decode cX8_undo 7 = .ok (.bipush (-4), 2) := by decide +kernel
theorem dX8_undo_9 : decode cX8_undo 9 = .ok (.ireturn, 1) := by decide +kernel
theorem dX8_undo_10 : decode cX8_undo 10 = .ok (.aload_n 0, 1) := by decide +kernel
theorem dX8_undo_11 : decode cX8_undo 11 = .ok (.dup, 1) := by decide +kernel
theorem dX8_undo_12 : decode cX8_undo 12 = .ok (.getfield 126, 3) := by decide +kernel
theorem dX8_undo_15 : decode cX8_undo 15 = .ok (.iconst 1, 1) := by decide +kernel
theorem dX8_undo_16 : decode cX8_undo 16 = .ok (.isub, 1) := by decide +kernel
theorem dX8_undo_17 : decode cX8_undo 17 = .ok (.putfield 126, 3) := by decide +kernel
theorem dX8_undo_20 : decode cX8_undo 20 = .ok (.aload_n 0, 1) := by decide +kernel
theorem dX8_undo_21 : decode cX8_undo 21 = .ok (.getfield 38, 3) := by decide +kernel
theorem dX8_undo_24 : decode cX8_undo 24 = .ok (.aload_n 0, 1) := by decide +kernel
theorem dX8_undo_25 : decode cX8_undo 25 = .ok (.getfield 126, 3) := by decide +kernel
theorem dX8_undo_28 : decode cX8_undo 28 = .ok (.iaload, 1) := by decide +kernel
theorem dX8_undo_29 : decode cX8_undo 29 = .ok (.istore_n 1, 1) := by decide +kernel
theorem dX8_undo_30 : decode cX8_undo 30 = .ok (.aload_n 0, 1) := by decide +kernel
theorem dX8_undo_31 : decode cX8_undo 31 = .ok (.getfield 35, 3) := by decide +kernel
theorem dX8_undo_34 : decode cX8_undo 34 = .ok (.aload_n 0, 1) := by decide +kernel
theorem dX8_undo_35 : decode cX8_undo 35 = .ok (.getfield 126, 3) := by decide +kernel
theorem dX8_undo_38 : decode cX8_undo 38 = .ok (.iaload, 1) := by decide +kernel
theorem dX8_undo_39 : decode cX8_undo 39 = .ok (.ifCond .ne 13, 3) := by decide +kernel
theorem dX8_undo_42 : decode cX8_undo 42 = .ok (.aload_n 0, 1) := by decide +kernel
theorem dX8_undo_43 : decode cX8_undo 43 = .ok (.iload_n 1, 1) := by decide +kernel
theorem dX8_undo_44 : decode cX8_undo 44 = .ok (.invokevirtual 144, 3) := by decide +kernel
theorem dX8_undo_47 : decode cX8_undo 47 = .ok (.aload_n 0, 1) := by decide +kernel
theorem dX8_undo_48 : decode cX8_undo 48 = .ok (.getfield 126, 3) := by decide +kernel
theorem dX8_undo_51 : decode cX8_undo 51 = .ok (.ireturn, 1) := by decide +kernel
theorem dX8_undo_52 : decode cX8_undo 52 = .ok (.aload_n 0, 1) := by decide +kernel
theorem dX8_undo_53 : decode cX8_undo 53 = .ok (.getfield 35, 3) := by decide +kernel
theorem dX8_undo_56 : decode cX8_undo 56 = .ok (.aload_n 0, 1) := by decide +kernel
theorem dX8_undo_57 : decode cX8_undo 57 = .ok (.getfield 126, 3) := by decide +kernel
theorem dX8_undo_60 : decode cX8_undo 60 = .ok (.iaload, 1) := by decide +kernel
theorem dX8_undo_61 : decode cX8_undo 61 = .ok (.iconst 1, 1) := by decide +kernel
theorem dX8_undo_62 : decode cX8_undo 62 = .ok (.if_icmp .ne 37, 3) := by decide +kernel
theorem dX8_undo_65 : decode cX8_undo 65 = .ok (.aload_n 0, 1) := by decide +kernel
theorem dX8_undo_66 : decode cX8_undo 66 = .ok (.getfield 123, 3) := by decide +kernel
theorem dX8_undo_69 : decode cX8_undo 69 = .ok (.istore_n 2, 1) := by decide +kernel
theorem dX8_undo_70 : decode cX8_undo 70 = .ok (.iload_n 2, 1) := by decide +kernel
theorem dX8_undo_71 : decode cX8_undo 71 = .ok (.iload_n 1, 1) := by decide +kernel
theorem dX8_undo_72 : decode cX8_undo 72 = .ok (.if_icmp .le 17, 3) := by decide +kernel
theorem dX8_undo_75 : decode cX8_undo 75 = .ok (.aload_n 0, 1) := by decide +kernel
theorem dX8_undo_76 : decode cX8_undo 76 = .ok (.iload_n 2, 1) := by decide +kernel
theorem dX8_undo_77 : decode cX8_undo 77 = .ok (.iconst 1, 1) := by decide +kernel
theorem dX8_undo_78 : decode cX8_undo 78 = .ok (.isub, 1) := by decide +kernel
theorem dX8_undo_79 : decode cX8_undo 79 = .ok (.iload_n 2, 1) := by decide +kernel
theorem dX8_undo_80 : decode cX8_undo 80 = .ok (.invokevirtual 137, 3) := by decide +kernel
theorem dX8_undo_83 : decode cX8_undo 83 = .ok (.iinc 2 (-1), 3) := by decide +kernel
theorem dX8_undo_86 : decode cX8_undo 86 = .ok (.goto (-16), 3) := by decide +kernel
theorem dX8_undo_89 : decode cX8_undo 89 = .ok (.aload_n 0, 1) := by decide +kernel
theorem dX8_undo_90 : decode cX8_undo 90 = .ok (.dup, 1) := by decide +kernel
theorem dX8_undo_91 : decode cX8_undo 91 = .ok (.getfield 123, 3) := by decide +kernel
theorem dX8_undo_94 : decode cX8_undo 94 = .ok (.iconst 1, 1) := by decide +kernel
theorem dX8_undo_95 : decode cX8_undo 95 = .ok (.iadd, 1) := by decide +kernel
theorem dX8_undo_96 : decode cX8_undo 96 = .ok (.putfield 123, 3) := by decide +kernel
theorem dX8_undo_99 : decode cX8_undo 99 = .ok (.aload_n 0, 1) := by decide +kernel
theorem dX8_undo_100 : decode cX8_undo 100 = .ok (.getfield 26, 3) := by decide +kernel
theorem dX8_undo_103 : decode cX8_undo 103 = .ok (.iload_n 1, 1) := by decide +kernel
theorem dX8_undo_104 : decode cX8_undo 104 = .ok (.aload_n 0, 1) := by decide +kernel
theorem dX8_undo_105 : decode cX8_undo 105 = .ok (.getfield 41, 3) := by decide +kernel
theorem dX8_undo_108 : decode cX8_undo 108 = .ok (.aload_n 0, 1) := by decide +kernel
theorem dX8_undo_109 : decode cX8_undo 109 = .ok (.getfield 126, 3) := by decide +kernel
theorem dX8_undo_112 : decode cX8_undo 112 = .ok (.iaload, 1) := by decide +kernel
theorem dX8_undo_113 : decode cX8_undo 113 = .ok (.iastore, 1) := by decide +kernel
theorem dX8_undo_114 : decode cX8_undo 114 = .ok (.aload_n 0, 1) := by decide +kernel
theorem dX8_undo_115 : decode cX8_undo 115 = .ok (.getfield 29, 3) := by decide +kernel
theorem dX8_undo_118 : decode cX8_undo 118 = .ok (.iload_n 1, 1) := by decide +kernel
theorem dX8_undo_119 : decode cX8_undo 119 = .ok (.aload_n 0, 1) := by decide +kernel
theorem dX8_undo_120 : decode cX8_undo 120 = .ok (.getfield 44, 3) := by decide +kernel
theorem dX8_undo_123 : decode cX8_undo 123 = .ok (.aload_n 0, 1) := by decide +kernel
theorem dX8_undo_124 : decode cX8_undo 124 = .ok (.getfield 126, 3) := by decide +kernel
theorem dX8_undo_127 : decode cX8_undo 127 = .ok (.iaload, 1) := by decide +kernel
theorem dX8_undo_128 : decode cX8_undo 128 = .ok (.iastore, 1) := by decide +kernel
theorem dX8_undo_129 : decode cX8_undo 129 = .ok (.iconst 0, 1) := by decide +kernel
theorem dX8_undo_130 : decode cX8_undo 130 = .ok (.istore_n 2, 1) := by decide +kernel
theorem dX8_undo_131 : decode cX8_undo 131 = .ok (.iload_n 2, 1) := by decide +kernel
theorem dX8_undo_132 : decode cX8_undo 132 = .ok (.bipush 16, 2) := by decide +kernel
theorem dX8_undo_134 : decode cX8_undo 134 = .ok (.if_icmp .ge 34, 3) := by decide +kernel
theorem dX8_undo_137 : decode cX8_undo 137 = .ok (.aload_n 0, 1) := by decide +kernel
theorem dX8_undo_138 : decode cX8_undo 138 = .ok (.getfield 32, 3) := by decide +kernel
theorem dX8_undo_141 : decode cX8_undo 141 = .ok (.bipush 16, 2) := by decide +kernel
theorem dX8_undo_143 : decode cX8_undo 143 = .ok (.iload_n 1, 1) := by decide +kernel
theorem dX8_undo_144 : decode cX8_undo 144 = .ok (.imul, 1) := by decide +kernel
theorem dX8_undo_145 : decode cX8_undo 145 = .ok (.iload_n 2, 1) := by decide +kernel
theorem dX8_undo_146 : decode cX8_undo 146 = .ok (.iadd, 1) := by decide +kernel
theorem dX8_undo_147 : decode cX8_undo 147 = .ok (.aload_n 0, 1) := by decide +kernel
theorem dX8_undo_148 : decode cX8_undo 148 = .ok (.getfield 47, 3) := by decide +kernel
theorem dX8_undo_151 : decode cX8_undo 151 = .ok (.bipush 16, 2) := by decide +kernel
theorem dX8_undo_153 : decode cX8_undo 153 = .ok (.aload_n 0, 1) := by decide +kernel
theorem dX8_undo_154 : decode cX8_undo 154 = .ok (.getfield 126, 3) := by decide +kernel
theorem dX8_undo_157 : decode cX8_undo 157 = .ok (.imul, 1) := by decide +kernel
theorem dX8_undo_158 : decode cX8_undo 158 = .ok (.iload_n 2, 1) := by decide +kernel
theorem dX8_undo_159 : decode cX8_undo 159 = .ok (.iadd, 1) := by decide +kernel
theorem dX8_undo_160 : decode cX8_undo 160 = .ok (.iaload, 1) := by decide +kernel
theorem dX8_undo_161 : decode cX8_undo 161 = .ok (.iastore, 1) := by decide +kernel
theorem dX8_undo_162 : decode cX8_undo 162 = .ok (.iinc 2 1, 3) := by decide +kernel
theorem dX8_undo_165 : decode cX8_undo 165 = .ok (.goto (-34), 3) := by decide +kernel
theorem dX8_undo_168 : decode cX8_undo 168 = .ok (.aload_n 0, 1) := by decide +kernel
theorem dX8_undo_169 : decode cX8_undo 169 = .ok (.getfield 126, 3) := by decide +kernel
theorem dX8_undo_172 : decode cX8_undo 172 = .ok (.ireturn, 1) := by decide +kernel
set_option maxRecDepth 20000 in
theorem ggX8_label_X8_isTaught : GoodIn wsX8_label wsX8_isTaught := goodIn_r _ [7, 8, 9, 10, 6, 11, 24, 25, 26, 27, 28, 29, 30, 31, 32, 33, 34, 35, 36, 37, 38, 39, 40, 41, 42, 43, 44, 45, 46, 47, 48, 49, 50, 51, 52, 53, 54, 55] (by decide +kernel) (by decide +kernel)
set_option maxRecDepth 20000 in
theorem gX8_label_X8_isTaught : GoodIn wsX8_label (wsV RX8 140 RX8 yX8_isTaught wsX8_isTaught) := goodIn_app (goodIn_of _ (by decide +kernel)) ggX8_label_X8_isTaught
set_option maxRecDepth 20000 in
theorem ggX8_label_X8_in : GoodIn wsX8_label wsX8_in := goodIn_r _ [11] (by decide +kernel) (by decide +kernel)
set_option maxRecDepth 20000 in
theorem gX8_label_X8_in : GoodIn wsX8_label (va_wsS RX8 88 yX8_in wsX8_in) := goodIn_app (goodIn_of _ (by decide +kernel)) ggX8_label_X8_in
set_option maxRecDepth 20000 in
theorem ggX8_label_X8_keeps : GoodIn wsX8_label wsX8_keeps := goodIn_r _ [15, 16, 17, 18, 19, 20, 21, 2, 22, 23, 24, 25, 26, 27, 28, 29, 30, 31, 32, 33, 34, 35, 36, 37, 38, 39, 40, 41, 42, 43, 44, 45, 46, 47, 48, 49, 50, 51, 52, 53, 54, 55] (by decide +kernel) (by decide +kernel)
set_option maxRecDepth 20000 in
theorem gX8_label_X8_keeps : GoodIn wsX8_label (wsV RX8 133 RX8 yX8_keeps wsX8_keeps) := goodIn_app (goodIn_of _ (by decide +kernel)) ggX8_label_X8_keeps
theorem dX8_label_0 : decode cX8_label 0 = .ok (.aload_n 0, 1) := by decide +kernel
theorem dX8_label_1 : decode cX8_label 1 = .ok (.iload_n 1, 1) := by decide +kernel
theorem dX8_label_2 : decode cX8_label 2 = .ok (.invokevirtual 140, 3) := by decide +kernel
theorem dX8_label_5 : decode cX8_label 5 = .ok (.ifCond .eq 15, 3) := by decide +kernel
theorem dX8_label_8 : decode cX8_label 8 = .ok (.iload_n 2, 1) := by decide +kernel
theorem dX8_label_9 : decode cX8_label 9 = .ok (.i2l, 1) := by decide +kernel
theorem dX8_label_10 : decode cX8_label 10 = .ok (.lconst 0, 1) := by decide +kernel
theorem dX8_label_11 : decode cX8_label 11 = .ok (.ldc2_w 129, 3) := by decide +kernel
theorem dX8_label_14 : decode cX8_label 14 = .ok (.invokestatic 88, 3) := by decide +kernel
theorem dX8_label_17 : decode cX8_label 17 = .ok (.ifCond .ne 5, 3) := by decide +kernel
theorem dX8_label_20 : decode cX8_label 20 = .ok (.iconst (-1), 1) := by decide +kernel
theorem dX8_label_21 : decode cX8_label 21 = .ok (.ireturn, 1) := by decide +kernel
theorem dX8_label_22 : decode cX8_label 22 = .ok (.aload_n 0, 1) := by decide +kernel
theorem dX8_label_23 : decode cX8_label 23 = .ok (.getfield 26, 3) := by decide +kernel
theorem dX8_label_26 : decode cX8_label 26 = .ok (.iload_n 1, 1) := by decide +kernel
theorem dX8_label_27 : decode cX8_label 27 = .ok (.iaload, 1) := by decide +kernel
theorem dX8_label_28 : decode cX8_label 28 = .ok (.istore_n 3, 1) := by decide +kernel
theorem dX8_label_29 : decode cX8_label 29 = .ok (.aload_n 0, 1) := by decide +kernel
theorem dX8_label_30 : decode cX8_label 30 = .ok (.iconst 2, 1) := by decide +kernel
theorem dX8_label_31 : decode cX8_label 31 = .ok (.iload_n 1, 1) := by decide +kernel
theorem dX8_label_32 : decode cX8_label 32 = .ok (.invokevirtual 133, 3) := by decide +kernel
theorem dX8_label_35 : decode cX8_label 35 = .ok (.aload_n 0, 1) := by decide +kernel
theorem dX8_label_36 : decode cX8_label 36 = .ok (.getfield 26, 3) := by decide +kernel
theorem dX8_label_39 : decode cX8_label 39 = .ok (.iload_n 1, 1) := by decide +kernel
theorem dX8_label_40 : decode cX8_label 40 = .ok (.iload_n 2, 1) := by decide +kernel
theorem dX8_label_41 : decode cX8_label 41 = .ok (.iastore, 1) := by decide +kernel
theorem dX8_label_42 : decode cX8_label 42 = .ok (.iload_n 3, 1) := by decide +kernel
theorem dX8_label_43 : decode cX8_label 43 = .ok (.ireturn, 1) := by decide +kernel
set_option maxRecDepth 20000 in
theorem ggX8_told_X8_isTaught : GoodIn wsX8_told wsX8_isTaught := goodIn_r _ [7, 8, 9, 10, 6, 11, 12, 13, 14, 15, 16, 17, 18, 19, 20, 21, 22, 23, 24, 25, 26, 27, 28, 29, 30, 31, 32, 33, 34, 35, 36, 37, 38, 39, 40, 41, 42, 43] (by decide +kernel) (by decide +kernel)
set_option maxRecDepth 20000 in
theorem gX8_told_X8_isTaught : GoodIn wsX8_told (wsV RX8 140 RX8 yX8_isTaught wsX8_isTaught) := goodIn_app (goodIn_of _ (by decide +kernel)) ggX8_told_X8_isTaught
set_option maxRecDepth 20000 in
theorem ggX8_told_X8_in : GoodIn wsX8_told wsX8_in := goodIn_r _ [11] (by decide +kernel) (by decide +kernel)
set_option maxRecDepth 20000 in
theorem gX8_told_X8_in : GoodIn wsX8_told (va_wsS RX8 88 yX8_in wsX8_in) := goodIn_app (goodIn_of _ (by decide +kernel)) ggX8_told_X8_in
theorem dX8_told_0 : decode cX8_told 0 = .ok (.aload_n 0, 1) := by decide +kernel
theorem dX8_told_1 : decode cX8_told 1 = .ok (.iload_n 1, 1) := by decide +kernel
theorem dX8_told_2 : decode cX8_told 2 = .ok (.invokevirtual 140, 3) := by decide +kernel
theorem dX8_told_5 : decode cX8_told 5 = .ok (.ifCond .eq 13, 3) := by decide +kernel
theorem dX8_told_8 : decode cX8_told 8 = .ok (.iload_n 2, 1) := by decide +kernel
theorem dX8_told_9 : decode cX8_told 9 = .ok (.i2l, 1) := by decide +kernel
theorem dX8_told_10 : decode cX8_told 10 = .ok (.lconst 0, 1) := by decide +kernel
theorem dX8_told_11 : decode cX8_told 11 = .ok (.lconst 1, 1) := by decide +kernel
theorem dX8_told_12 : decode cX8_told 12 = .ok (.invokestatic 88, 3) := by decide +kernel
theorem dX8_told_15 : decode cX8_told 15 = .ok (.ifCond .ne 7, 3) := by decide +kernel
theorem dX8_told_18 : decode cX8_told 18 = .ok (.iconst (-1), 1) := by decide +kernel
theorem dX8_told_19 : decode cX8_told 19 = .ok (.goto 22, 3) := by decide +kernel
theorem dX8_told_22 : decode cX8_told 22 = .ok (.iload_n 2, 1) := by decide +kernel
theorem dX8_told_23 : decode cX8_told 23 = .ok (.ifCond .ne 12, 3) := by decide +kernel
theorem dX8_told_26 : decode cX8_told 26 = .ok (.aload_n 0, 1) := by decide +kernel
theorem dX8_told_27 : decode cX8_told 27 = .ok (.getfield 26, 3) := by decide +kernel
theorem dX8_told_30 : decode cX8_told 30 = .ok (.iload_n 1, 1) := by decide +kernel
theorem dX8_told_31 : decode cX8_told 31 = .ok (.iaload, 1) := by decide +kernel
theorem dX8_told_32 : decode cX8_told 32 = .ok (.goto 9, 3) := by decide +kernel
theorem dX8_told_35 : decode cX8_told 35 = .ok (.aload_n 0, 1) := by decide +kernel
theorem dX8_told_36 : decode cX8_told 36 = .ok (.getfield 29, 3) := by decide +kernel
theorem dX8_told_39 : decode cX8_told 39 = .ok (.iload_n 1, 1) := by decide +kernel
theorem dX8_told_40 : decode cX8_told 40 = .ok (.iaload, 1) := by decide +kernel
theorem dX8_told_41 : decode cX8_told 41 = .ok (.ireturn, 1) := by decide +kernel
set_option maxRecDepth 20000 in
theorem ggX8_taught_X8_isTaught : GoodIn wsX8_taught wsX8_isTaught := goodIn_r _ [8, 9, 10, 11, 7, 12, 13, 14, 15, 16, 17, 18, 19, 20, 21, 22, 23, 24, 25, 26, 27, 28, 29, 30, 31, 32, 33, 34, 35, 36, 37, 38, 39, 40, 41, 42, 43, 44] (by decide +kernel) (by decide +kernel)
set_option maxRecDepth 20000 in
theorem gX8_taught_X8_isTaught : GoodIn wsX8_taught (wsV RX8 140 RX8 yX8_isTaught wsX8_isTaught) := goodIn_app (goodIn_of _ (by decide +kernel)) ggX8_taught_X8_isTaught
set_option maxRecDepth 20000 in
theorem ggX8_taught_X8_in : GoodIn wsX8_taught wsX8_in := goodIn_r _ [12] (by decide +kernel) (by decide +kernel)
set_option maxRecDepth 20000 in
theorem gX8_taught_X8_in : GoodIn wsX8_taught (va_wsS RX8 88 yX8_in wsX8_in) := goodIn_app (goodIn_of _ (by decide +kernel)) ggX8_taught_X8_in
theorem dX8_taught_0 : decode cX8_taught 0 = .ok (.aload_n 0, 1) := by decide +kernel
theorem dX8_taught_1 : decode cX8_taught 1 = .ok (.iload_n 1, 1) := by decide +kernel
theorem dX8_taught_2 : decode cX8_taught 2 = .ok (.invokevirtual 140, 3) := by decide +kernel
theorem dX8_taught_5 : decode cX8_taught 5 = .ok (.ifCond .eq 43, 3) := by decide +kernel
theorem dX8_taught_8 : decode cX8_taught 8 = .ok (.iload_n 2, 1) := by decide +kernel
theorem dX8_taught_9 : decode cX8_taught 9 = .ok (.i2l, 1) := by decide +kernel
theorem dX8_taught_10 : decode cX8_taught 10 = .ok (.lconst 0, 1) := by decide +kernel
theorem dX8_taught_11 : decode cX8_taught 11 = .ok (.ldc2_w 117, 3) := by decide +kernel
theorem dX8_taught_14 : decode cX8_taught 14 = .ok (.invokestatic 88, 3) := by decide +kernel
theorem dX8_taught_17 : decode cX8_taught 17 = .ok (.ifCond .eq 31, 3) := by decide +kernel
theorem dX8_taught_20 : decode cX8_taught 20 = .ok (.iload_n 3, 1) := by decide +kernel
theorem dX8_taught_21 : decode cX8_taught 21 = .ok (.i2l, 1) := by decide +kernel
theorem dX8_taught_22 : decode cX8_taught 22 = .ok (.lconst 0, 1) := by decide +kernel
theorem dX8_taught_23 : decode cX8_taught 23 = .ok (.lconst 1, 1) := by decide +kernel
theorem dX8_taught_24 : decode cX8_taught 24 = .ok (.invokestatic 88, 3) := by decide +kernel
theorem dX8_taught_27 : decode cX8_taught 27 = .ok (.ifCond .eq 21, 3) := by decide +kernel
theorem dX8_taught_30 : decode cX8_taught 30 = .ok (.aload_n 0, 1) := by decide +kernel
theorem dX8_taught_31 : decode cX8_taught 31 = .ok (.getfield 32, 3) := by decide +kernel
theorem dX8_taught_34 : decode cX8_taught 34 = .ok (.bipush 16, 2) := by decide +kernel
theorem dX8_taught_36 : decode cX8_taught 36 = .ok (.iload_n 1, 1) := by decide +kernel
theorem dX8_taught_37 : decode cX8_taught 37 = .ok (.imul, 1) := by decide +kernel
theorem dX8_taught_38 : decode cX8_taught 38 = .ok (.iconst 2, 1) := by decide +kernel
theorem dX8_taught_39 : decode cX8_taught 39 = .ok (.iload_n 2, 1) := by decide +kernel
theorem dX8_taught_40 : decode cX8_taught 40 = .ok (.imul, 1) := by decide +kernel
theorem dX8_taught_41 : decode cX8_taught 41 = .ok (.iadd, 1) := by decide +kernel
theorem dX8_taught_42 : decode cX8_taught 42 = .ok (.iload_n 3, 1) := by decide +kernel
theorem dX8_taught_43 : decode cX8_taught 43 = .ok (.iadd, 1) := by decide +kernel
theorem dX8_taught_44 : decode cX8_taught 44 = .ok (.iaload, 1) := by decide +kernel
theorem dX8_taught_45 : decode cX8_taught 45 = .ok (.goto 5, 3) := by decide +kernel
theorem dX8_taught_48 : decode cX8_taught 48 = .ok (.ldc 119, 2) := by decide +kernel
theorem dX8_taught_50 : decode cX8_taught 50 = .ok (.ireturn, 1) := by decide +kernel
set_option maxRecDepth 20000 in
theorem ggX8_ends_X8_in : GoodIn wsX8_ends wsX8_in := goodIn_r _ [7] (by decide +kernel) (by decide +kernel)
set_option maxRecDepth 20000 in
theorem gX8_ends_X8_in : GoodIn wsX8_ends (va_wsS RX8 88 yX8_in wsX8_in) := goodIn_app (goodIn_of _ (by decide +kernel)) ggX8_ends_X8_in
theorem dX8_ends_0 : decode cX8_ends 0 = .ok (.iload_n 1, 1) := by decide +kernel
theorem dX8_ends_1 : decode cX8_ends 1 = .ok (.i2l, 1) := by decide +kernel
theorem dX8_ends_2 : decode cX8_ends 2 = .ok (.lconst 0, 1) := by decide +kernel
theorem dX8_ends_3 : decode cX8_ends 3 = .ok (.ldc2_w 148, 3) := by decide +kernel
theorem dX8_ends_6 : decode cX8_ends 6 = .ok (.invokestatic 88, 3) := by decide +kernel
theorem dX8_ends_9 : decode cX8_ends 9 = .ok (.ifCond .eq 15, 3) := by decide +kernel
theorem dX8_ends_12 : decode cX8_ends 12 = .ok (.iload_n 2, 1) := by decide +kernel
theorem dX8_ends_13 : decode cX8_ends 13 = .ok (.i2l, 1) := by decide +kernel
theorem dX8_ends_14 : decode cX8_ends 14 = .ok (.lconst 0, 1) := by decide +kernel
theorem dX8_ends_15 : decode cX8_ends 15 = .ok (.ldc2_w 148, 3) := by decide +kernel
theorem dX8_ends_18 : decode cX8_ends 18 = .ok (.invokestatic 88, 3) := by decide +kernel
theorem dX8_ends_21 : decode cX8_ends 21 = .ok (.ifCond .ne 5, 3) := by decide +kernel
theorem dX8_ends_24 : decode cX8_ends 24 = .ok (.iconst (-1), 1) := by decide +kernel
theorem dX8_ends_25 : decode cX8_ends 25 = .ok (.ireturn, 1) := by decide +kernel
theorem dX8_ends_26 : decode cX8_ends 26 = .ok (.aload_n 0, 1) := by decide +kernel
theorem dX8_ends_27 : decode cX8_ends 27 = .ok (.iload_n 1, 1) := by decide +kernel
theorem dX8_ends_28 : decode cX8_ends 28 = .ok (.putfield 50, 3) := by decide +kernel
theorem dX8_ends_31 : decode cX8_ends 31 = .ok (.aload_n 0, 1) := by decide +kernel
theorem dX8_ends_32 : decode cX8_ends 32 = .ok (.iload_n 2, 1) := by decide +kernel
theorem dX8_ends_33 : decode cX8_ends 33 = .ok (.putfield 150, 3) := by decide +kernel
theorem dX8_ends_36 : decode cX8_ends 36 = .ok (.iconst 1, 1) := by decide +kernel
theorem dX8_ends_37 : decode cX8_ends 37 = .ok (.ireturn, 1) := by decide +kernel
theorem dX8_turns_0 : decode cX8_turns 0 = .ok (.iconst 0, 1) := by decide +kernel
theorem dX8_turns_1 : decode cX8_turns 1 = .ok (.istore_n 1, 1) := by decide +kernel
theorem dX8_turns_2 : decode cX8_turns 2 = .ok (.iload_n 1, 1) := by decide +kernel
theorem dX8_turns_3 : decode cX8_turns 3 = .ok (.bipush 8, 2) := by decide +kernel
theorem dX8_turns_5 : decode cX8_turns 5 = .ok (.if_icmp .ge 48, 3) := by decide +kernel
theorem dX8_turns_8 : decode cX8_turns 8 = .ok (.aload_n 0, 1) := by decide +kernel
theorem dX8_turns_9 : decode cX8_turns 9 = .ok (.getfield 54, 3) := by decide +kernel
theorem dX8_turns_12 : decode cX8_turns 12 = .ok (.iconst 2, 1) := by decide +kernel
theorem dX8_turns_13 : decode cX8_turns 13 = .ok (.iload_n 1, 1) := by decide +kernel
theorem dX8_turns_14 : decode cX8_turns 14 = .ok (.imul, 1) := by decide +kernel
theorem dX8_turns_15 : decode cX8_turns 15 = .ok (.iaload, 1) := by decide +kernel
theorem dX8_turns_16 : decode cX8_turns 16 = .ok (.istore_n 2, 1) := by decide +kernel
theorem dX8_turns_17 : decode cX8_turns 17 = .ok (.aload_n 0, 1) := by decide +kernel
theorem dX8_turns_18 : decode cX8_turns 18 = .ok (.getfield 54, 3) := by decide +kernel
theorem dX8_turns_21 : decode cX8_turns 21 = .ok (.iconst 2, 1) := by decide +kernel
theorem dX8_turns_22 : decode cX8_turns 22 = .ok (.iload_n 1, 1) := by decide +kernel
theorem dX8_turns_23 : decode cX8_turns 23 = .ok (.imul, 1) := by decide +kernel
theorem dX8_turns_24 : decode cX8_turns 24 = .ok (.aload_n 0, 1) := by decide +kernel
theorem dX8_turns_25 : decode cX8_turns 25 = .ok (.getfield 54, 3) := by decide +kernel
theorem dX8_turns_28 : decode cX8_turns 28 = .ok (.iconst 2, 1) := by decide +kernel
theorem dX8_turns_29 : decode cX8_turns 29 = .ok (.iload_n 1, 1) := by decide +kernel
theorem dX8_turns_30 : decode cX8_turns 30 = .ok (.imul, 1) := by decide +kernel
theorem dX8_turns_31 : decode cX8_turns 31 = .ok (.iconst 1, 1) := by decide +kernel
theorem dX8_turns_32 : decode cX8_turns 32 = .ok (.iadd, 1) := by decide +kernel
theorem dX8_turns_33 : decode cX8_turns 33 = .ok (.iaload, 1) := by decide +kernel
theorem dX8_turns_34 : decode cX8_turns 34 = .ok (.ineg, 1) := by decide +kernel
theorem dX8_turns_35 : decode cX8_turns 35 = .ok (.iastore, 1) := by decide +kernel
theorem dX8_turns_36 : decode cX8_turns 36 = .ok (.aload_n 0, 1) := by decide +kernel
theorem dX8_turns_37 : decode cX8_turns 37 = .ok (.getfield 54, 3) := by decide +kernel
theorem dX8_turns_40 : decode cX8_turns 40 = .ok (.iconst 2, 1) := by decide +kernel
theorem dX8_turns_41 : decode cX8_turns 41 = .ok (.iload_n 1, 1) := by decide +kernel
theorem dX8_turns_42 : decode cX8_turns 42 = .ok (.imul, 1) := by decide +kernel
theorem dX8_turns_43 : decode cX8_turns 43 = .ok (.iconst 1, 1) := by decide +kernel
theorem dX8_turns_44 : decode cX8_turns 44 = .ok (.iadd, 1) := by decide +kernel
theorem dX8_turns_45 : decode cX8_turns 45 = .ok (.iload_n 2, 1) := by decide +kernel
theorem dX8_turns_46 : decode cX8_turns 46 = .ok (.iastore, 1) := by decide +kernel
theorem dX8_turns_47 : decode cX8_turns 47 = .ok (.iinc 1 1, 3) := by decide +kernel
theorem dX8_turns_50 : decode cX8_turns 50 = .ok (.goto (-48), 3) := by decide +kernel
theorem dX8_turns_53 : decode cX8_turns 53 = .ok (.return_, 1) := by decide +kernel
set_option maxRecDepth 20000 in
theorem ggX8_far_X8_plain : GoodIn wsX8_far wsX8_plain := goodIn_r _ [6] (by decide +kernel) (by decide +kernel)
set_option maxRecDepth 20000 in
theorem gX8_far_X8_plain : GoodIn wsX8_far (va_wsS RX8 95 yX8_plain wsX8_plain) := goodIn_app (goodIn_of _ (by decide +kernel)) ggX8_far_X8_plain
theorem dX8_far_0 : decode cX8_far 0 = .ok (.aload_n 0, 1) := by decide +kernel
theorem dX8_far_1 : decode cX8_far 1 = .ok (.getfield 54, 3) := by decide +kernel
theorem dX8_far_4 : decode cX8_far 4 = .ok (.iconst 2, 1) := by decide +kernel
theorem dX8_far_5 : decode cX8_far 5 = .ok (.iload_n 1, 1) := by decide +kernel
theorem dX8_far_6 : decode cX8_far 6 = .ok (.imul, 1) := by decide +kernel
theorem dX8_far_7 : decode cX8_far 7 = .ok (.iaload, 1) := by decide +kernel
theorem dX8_far_8 : decode cX8_far 8 = .ok (.aload_n 0, 1) := by decide +kernel
theorem dX8_far_9 : decode cX8_far 9 = .ok (.getfield 32, 3) := by decide +kernel
theorem dX8_far_12 : decode cX8_far 12 = .ok (.bipush 16, 2) := by decide +kernel
theorem dX8_far_14 : decode cX8_far 14 = .ok (.iload_n 2, 1) := by decide +kernel
theorem dX8_far_15 : decode cX8_far 15 = .ok (.imul, 1) := by decide +kernel
theorem dX8_far_16 : decode cX8_far 16 = .ok (.iconst 2, 1) := by decide +kernel
theorem dX8_far_17 : decode cX8_far 17 = .ok (.iload_n 3, 1) := by decide +kernel
theorem dX8_far_18 : decode cX8_far 18 = .ok (.imul, 1) := by decide +kernel
theorem dX8_far_19 : decode cX8_far 19 = .ok (.iadd, 1) := by decide +kernel
theorem dX8_far_20 : decode cX8_far 20 = .ok (.iaload, 1) := by decide +kernel
theorem dX8_far_21 : decode cX8_far 21 = .ok (.isub, 1) := by decide +kernel
theorem dX8_far_22 : decode cX8_far 22 = .ok (.invokestatic 95, 3) := by decide +kernel
theorem dX8_far_25 : decode cX8_far 25 = .ok (.aload_n 0, 1) := by decide +kernel
theorem dX8_far_26 : decode cX8_far 26 = .ok (.getfield 54, 3) := by decide +kernel
theorem dX8_far_29 : decode cX8_far 29 = .ok (.iconst 2, 1) := by decide +kernel
theorem dX8_far_30 : decode cX8_far 30 = .ok (.iload_n 1, 1) := by decide +kernel
theorem dX8_far_31 : decode cX8_far 31 = .ok (.imul, 1) := by decide +kernel
theorem dX8_far_32 : decode cX8_far 32 = .ok (.iconst 1, 1) := by decide +kernel
theorem dX8_far_33 : decode cX8_far 33 = .ok (.iadd, 1) := by decide +kernel
theorem dX8_far_34 : decode cX8_far 34 = .ok (.iaload, 1) := by decide +kernel
theorem dX8_far_35 : decode cX8_far 35 = .ok (.aload_n 0, 1) := by decide +kernel
theorem dX8_far_36 : decode cX8_far 36 = .ok (.getfield 32, 3) := by decide +kernel
theorem dX8_far_39 : decode cX8_far 39 = .ok (.bipush 16, 2) := by decide +kernel
theorem dX8_far_41 : decode cX8_far 41 = .ok (.iload_n 2, 1) := by decide +kernel
theorem dX8_far_42 : decode cX8_far 42 = .ok (.imul, 1) := by decide +kernel
theorem dX8_far_43 : decode cX8_far 43 = .ok (.iconst 2, 1) := by decide +kernel
theorem dX8_far_44 : decode cX8_far 44 = .ok (.iload_n 3, 1) := by decide +kernel
theorem dX8_far_45 : decode cX8_far 45 = .ok (.imul, 1) := by decide +kernel
theorem dX8_far_46 : decode cX8_far 46 = .ok (.iadd, 1) := by decide +kernel
theorem dX8_far_47 : decode cX8_far 47 = .ok (.iconst 1, 1) := by decide +kernel
theorem dX8_far_48 : decode cX8_far 48 = .ok (.iadd, 1) := by decide +kernel
theorem dX8_far_49 : decode cX8_far 49 = .ok (.iaload, 1) := by decide +kernel
theorem dX8_far_50 : decode cX8_far 50 = .ok (.isub, 1) := by decide +kernel
theorem dX8_far_51 : decode cX8_far 51 = .ok (.invokestatic 95, 3) := by decide +kernel
theorem dX8_far_54 : decode cX8_far 54 = .ok (.iadd, 1) := by decide +kernel
theorem dX8_far_55 : decode cX8_far 55 = .ok (.ireturn, 1) := by decide +kernel
set_option maxRecDepth 20000 in
theorem ggX8_straight_X8_far : GoodIn wsX8_straight wsX8_far := goodIn_r _ [5, 6, 7, 8, 9, 4, 10, 11, 12, 13, 14, 15, 16, 17, 18, 19, 20, 21, 22, 23, 24, 25, 26, 27, 28, 29, 30, 31, 32, 33, 34, 35, 36, 37, 38, 39, 40, 41, 42] (by decide +kernel) (by decide +kernel)
set_option maxRecDepth 20000 in
theorem gX8_straight_X8_far : GoodIn wsX8_straight (wsV RX8 153 RX8 yX8_far wsX8_far) := goodIn_app (goodIn_of _ (by decide +kernel)) ggX8_straight_X8_far
theorem dX8_straight_0 : decode cX8_straight 0 = .ok (.iconst 0, 1) := by decide +kernel
theorem dX8_straight_1 : decode cX8_straight 1 = .ok (.istore_n 3, 1) := by decide +kernel
theorem dX8_straight_2 : decode cX8_straight 2 = .ok (.iconst 0, 1) := by decide +kernel
theorem dX8_straight_3 : decode cX8_straight 3 = .ok (.istore 4, 2) := by decide +kernel
theorem dX8_straight_5 : decode cX8_straight 5 = .ok (.iload 4, 2) := by decide +kernel
theorem dX8_straight_7 : decode cX8_straight 7 = .ok (.bipush 8, 2) := by decide +kernel
theorem dX8_straight_9 : decode cX8_straight 9 = .ok (.if_icmp .ge 33, 3) := by decide +kernel
theorem dX8_straight_12 : decode cX8_straight 12 = .ok (.iload_n 3, 1) := by decide +kernel
theorem dX8_straight_13 : decode cX8_straight 13 = .ok (.aload_n 0, 1) := by decide +kernel
theorem dX8_straight_14 : decode cX8_straight 14 = .ok (.iload_n 2, 1) := by decide +kernel
theorem dX8_straight_15 : decode cX8_straight 15 = .ok (.ifCond .eq 11, 3) := by decide +kernel
theorem dX8_straight_18 : decode cX8_straight 18 = .ok (.bipush 7, 2) := by decide +kernel
theorem dX8_straight_20 : decode cX8_straight 20 = .ok (.iload 4, 2) := by decide +kernel
theorem dX8_straight_22 : decode cX8_straight 22 = .ok (.isub, 1) := by decide +kernel
theorem dX8_straight_23 : decode cX8_straight 23 = .ok (.goto 5, 3) := by decide +kernel
theorem dX8_straight_26 : decode cX8_straight 26 = .ok (.iload 4, 2) := by decide +kernel
theorem dX8_straight_28 : decode cX8_straight 28 = .ok (.iload_n 1, 1) := by decide +kernel
theorem dX8_straight_29 : decode cX8_straight 29 = .ok (.iload 4, 2) := by decide +kernel
theorem dX8_straight_31 : decode cX8_straight 31 = .ok (.invokevirtual 153, 3) := by decide +kernel
theorem dX8_straight_34 : decode cX8_straight 34 = .ok (.iadd, 1) := by decide +kernel
theorem dX8_straight_35 : decode cX8_straight 35 = .ok (.istore_n 3, 1) := by decide +kernel
theorem dX8_straight_36 : decode cX8_straight 36 = .ok (.iinc 4 1, 3) := by decide +kernel
theorem dX8_straight_39 : decode cX8_straight 39 = .ok (.goto (-34), 3) := by decide +kernel
theorem dX8_straight_42 : decode cX8_straight 42 = .ok (.iload_n 3, 1) := by decide +kernel
theorem dX8_straight_43 : decode cX8_straight 43 = .ok (.ireturn, 1) := by decide +kernel
set_option maxRecDepth 20000 in
theorem ggX8_cloud_X8_far : GoodIn wsX8_cloud wsX8_far := goodIn_r _ [6, 7, 8, 9, 10, 5, 11, 12, 13, 14, 15, 16, 17, 18, 19, 20, 21, 22, 23, 24, 25, 26, 27, 28, 29, 30, 31, 32, 33, 34, 35, 36, 37, 38, 39, 40, 41, 42, 43] (by decide +kernel) (by decide +kernel)
set_option maxRecDepth 20000 in
theorem gX8_cloud_X8_far : GoodIn wsX8_cloud (wsV RX8 153 RX8 yX8_far wsX8_far) := goodIn_app (goodIn_of _ (by decide +kernel)) ggX8_cloud_X8_far
theorem dX8_cloud_0 : decode cX8_cloud 0 = .ok (.aload_n 0, 1) := by decide +kernel
theorem dX8_cloud_1 : decode cX8_cloud 1 = .ok (.getfield 57, 3) := by decide +kernel
theorem dX8_cloud_4 : decode cX8_cloud 4 = .ok (.iconst 0, 1) := by decide +kernel
theorem dX8_cloud_5 : decode cX8_cloud 5 = .ok (.iconst 0, 1) := by decide +kernel
theorem dX8_cloud_6 : decode cX8_cloud 6 = .ok (.iastore, 1) := by decide +kernel
theorem dX8_cloud_7 : decode cX8_cloud 7 = .ok (.iconst 1, 1) := by decide +kernel
theorem dX8_cloud_8 : decode cX8_cloud 8 = .ok (.istore_n 2, 1) := by decide +kernel
theorem dX8_cloud_9 : decode cX8_cloud 9 = .ok (.iload_n 2, 1) := by decide +kernel
theorem dX8_cloud_10 : decode cX8_cloud 10 = .ok (.sipush 256, 3) := by decide +kernel
theorem dX8_cloud_13 : decode cX8_cloud 13 = .ok (.if_icmp .ge 121, 3) := by decide +kernel
theorem dX8_cloud_16 : decode cX8_cloud 16 = .ok (.iconst 0, 1) := by decide +kernel
theorem dX8_cloud_17 : decode cX8_cloud 17 = .ok (.istore_n 3, 1) := by decide +kernel
theorem dX8_cloud_18 : decode cX8_cloud 18 = .ok (.iconst 0, 1) := by decide +kernel
theorem dX8_cloud_19 : decode cX8_cloud 19 = .ok (.istore 4, 2) := by decide +kernel
theorem dX8_cloud_21 : decode cX8_cloud 21 = .ok (.iload 4, 2) := by decide +kernel
theorem dX8_cloud_23 : decode cX8_cloud 23 = .ok (.bipush 8, 2) := by decide +kernel
theorem dX8_cloud_25 : decode cX8_cloud 25 = .ok (.if_icmp .ge 18, 3) := by decide +kernel
theorem dX8_cloud_28 : decode cX8_cloud 28 = .ok (.iload_n 3, 1) := by decide +kernel
theorem dX8_cloud_29 : decode cX8_cloud 29 = .ok (.iload_n 2, 1) := by decide +kernel
theorem dX8_cloud_30 : decode cX8_cloud 30 = .ok (.iload 4, 2) := by decide +kernel
theorem dX8_cloud_32 : decode cX8_cloud 32 = .ok (.ishr, 1) := by decide +kernel
theorem dX8_cloud_33 : decode cX8_cloud 33 = .ok (.iconst 1, 1) := by decide +kernel
theorem dX8_cloud_34 : decode cX8_cloud 34 = .ok (.iand, 1) := by decide +kernel
theorem dX8_cloud_35 : decode cX8_cloud 35 = .ok (.iadd, 1) := by decide +kernel
theorem dX8_cloud_36 : decode cX8_cloud 36 = .ok (.istore_n 3, 1) := by decide +kernel
theorem dX8_cloud_37 : decode cX8_cloud 37 = .ok (.iinc 4 1, 3) := by decide +kernel
theorem dX8_cloud_40 : decode cX8_cloud 40 = .ok (.goto (-19), 3) := by decide +kernel
theorem dX8_cloud_43 : decode cX8_cloud 43 = .ok (.bipush (-4), 2) := by decide +kernel
theorem dX8_cloud_45 : decode cX8_cloud 45 = .ok (.istore 4, 2) := by decide +kernel
theorem dX8_cloud_47 : decode cX8_cloud 47 = .ok (.iconst 0, 1) := by decide +kernel
theorem dX8_cloud_48 : decode cX8_cloud 48 = .ok (.istore 5, 2) := by decide +kernel
theorem dX8_cloud_50 : decode cX8_cloud 50 = .ok (.iload 5, 2) := by decide +kernel
theorem dX8_cloud_52 : decode cX8_cloud 52 = .ok (.bipush 8, 2) := by decide +kernel
theorem dX8_cloud_54 : decode cX8_cloud 54 = .ok (.if_icmp .ge 66, 3) := by decide +kernel
theorem dX8_cloud_57 : decode cX8_cloud 57 = .ok (.iload_n 2, 1) := by decide +kernel
theorem dX8_cloud_58 : decode cX8_cloud 58 = .ok (.iload 5, 2) := by decide +kernel
theorem dX8_cloud_60 : decode cX8_cloud 60 = .ok (.ishr, 1) := by decide +kernel
theorem dX8_cloud_61 : decode cX8_cloud 61 = .ok (.iconst 1, 1) := by decide +kernel
theorem dX8_cloud_62 : decode cX8_cloud 62 = .ok (.iand, 1) := by decide +kernel
theorem dX8_cloud_63 : decode cX8_cloud 63 = .ok (.iconst 1, 1) := by decide +kernel
theorem dX8_cloud_64 : decode cX8_cloud 64 = .ok (.if_icmp .ne 50, 3) := by decide +kernel
theorem dX8_cloud_67 : decode cX8_cloud 67 = .ok (.aload_n 0, 1) := by decide +kernel
theorem dX8_cloud_68 : decode cX8_cloud 68 = .ok (.getfield 57, 3) := by decide +kernel
theorem dX8_cloud_71 : decode cX8_cloud 71 = .ok (.iload_n 2, 1) := by decide +kernel
theorem dX8_cloud_72 : decode cX8_cloud 72 = .ok (.iconst 1, 1) := by decide +kernel
theorem dX8_cloud_73 : decode cX8_cloud 73 = .ok (.iload 5, 2) := by decide +kernel
theorem dX8_cloud_75 : decode cX8_cloud 75 = .ok (.ishl, 1) := by decide +kernel
theorem dX8_cloud_76 : decode cX8_cloud 76 = .ok (.isub, 1) := by decide +kernel
theorem dX8_cloud_77 : decode cX8_cloud 77 = .ok (.iaload, 1) := by decide +kernel
theorem dX8_cloud_78 : decode cX8_cloud 78 = .ok (.aload_n 0, 1) := by decide +kernel
theorem dX8_cloud_79 : decode cX8_cloud 79 = .ok (.iload_n 3, 1) := by decide +kernel
theorem dX8_cloud_80 : decode cX8_cloud 80 = .ok (.iconst 1, 1) := by decide +kernel
theorem dX8_cloud_81 : decode cX8_cloud 81 = .ok (.isub, 1) := by decide +kernel
theorem dX8_cloud_82 : decode cX8_cloud 82 = .ok (.iload_n 1, 1) := by decide +kernel
theorem dX8_cloud_83 : decode cX8_cloud 83 = .ok (.iload 5, 2) := by decide +kernel
theorem dX8_cloud_85 : decode cX8_cloud 85 = .ok (.invokevirtual 153, 3) := by decide +kernel
theorem dX8_cloud_88 : decode cX8_cloud 88 = .ok (.iadd, 1) := by decide +kernel
theorem dX8_cloud_89 : decode cX8_cloud 89 = .ok (.istore 6, 2) := by decide +kernel
theorem dX8_cloud_91 : decode cX8_cloud 91 = .ok (.iload 4, 2) := by decide +kernel
theorem dX8_cloud_93 : decode cX8_cloud 93 = .ok (.bipush (-4), 2) := by decide +kernel
theorem dX8_cloud_95 : decode cX8_cloud 95 = .ok (.if_icmp .eq 10, 3) := by decide +kernel
theorem dX8_cloud_98 : decode cX8_cloud 98 = .ok (.iload 6, 2) := by decide +kernel
theorem dX8_cloud_100 : decode cX8_cloud 100 = .ok (.iload 4, 2) := by decide +kernel
theorem dX8_cloud_102 : decode cX8_cloud 102 = .ok (.if_icmp .ge 8, 3) := by decide +kernel
theorem dX8_cloud_105 : decode cX8_cloud 105 = .ok (.iload 6, 2) := by decide +kernel
theorem dX8_cloud_107 : decode cX8_cloud 107 = .ok (.goto 5, 3) := by decide +kernel
theorem dX8_cloud_110 : decode cX8_cloud 110 = .ok (.iload 4, 2) := by decide +kernel
theorem dX8_cloud_112 : decode cX8_cloud 112 = .ok (.istore 4, 2) := by decide +kernel
theorem dX8_cloud_114 : decode cX8_cloud 114 = .ok (.iinc 5 1, 3) := by decide +kernel
theorem dX8_cloud_117 : decode cX8_cloud 117 = .ok (.goto (-67), 3) := by decide +kernel
theorem dX8_cloud_120 : decode cX8_cloud 120 = .ok (.aload_n 0, 1) := by decide +kernel
theorem dX8_cloud_121 : decode cX8_cloud 121 = .ok (.getfield 57, 3) := by decide +kernel
theorem dX8_cloud_124 : decode cX8_cloud 124 = .ok (.iload_n 2, 1) := by decide +kernel
theorem dX8_cloud_125 : decode cX8_cloud 125 = .ok (.iload 4, 2) := by decide +kernel
theorem dX8_cloud_127 : decode cX8_cloud 127 = .ok (.iastore, 1) := by decide +kernel
theorem dX8_cloud_128 : decode cX8_cloud 128 = .ok (.iinc 2 1, 3) := by decide +kernel
theorem dX8_cloud_131 : decode cX8_cloud 131 = .ok (.goto (-122), 3) := by decide +kernel
theorem dX8_cloud_134 : decode cX8_cloud 134 = .ok (.aload_n 0, 1) := by decide +kernel
theorem dX8_cloud_135 : decode cX8_cloud 135 = .ok (.getfield 57, 3) := by decide +kernel
theorem dX8_cloud_138 : decode cX8_cloud 138 = .ok (.sipush 255, 3) := by decide +kernel
theorem dX8_cloud_141 : decode cX8_cloud 141 = .ok (.iaload, 1) := by decide +kernel
theorem dX8_cloud_142 : decode cX8_cloud 142 = .ok (.ireturn, 1) := by decide +kernel
set_option maxRecDepth 20000 in
theorem ggX8_distanceOf_X8_cloud : GoodIn wsX8_distanceOf wsX8_cloud := goodIn_r _ [6, 7, 8, 9, 10, 5, 11, 12, 13, 14, 15, 16, 25, 26, 27, 28, 29, 30, 31, 32, 33, 34, 35, 36, 37, 38, 39, 40, 41, 42, 43, 44, 45, 46, 47, 48, 49, 50, 51, 52, 53, 54, 55, 56] (by decide +kernel) (by decide +kernel)
set_option maxRecDepth 20000 in
theorem gX8_distanceOf_X8_cloud : GoodIn wsX8_distanceOf (wsV RX8 157 RX8 yX8_cloud wsX8_cloud) := goodIn_app (goodIn_of _ (by decide +kernel)) ggX8_distanceOf_X8_cloud
set_option maxRecDepth 20000 in
theorem ggX8_distanceOf_X8_straight : GoodIn wsX8_distanceOf wsX8_straight := goodIn_r _ [20, 8, 9, 10, 5, 11, 12, 13, 14, 15, 16, 25, 26, 27, 28, 29, 30, 31, 32, 33, 34, 35, 36, 37, 38, 39, 40, 41, 42, 43, 44, 45, 46, 47, 48, 49, 50, 51, 52, 53, 54, 55, 56] (by decide +kernel) (by decide +kernel)
set_option maxRecDepth 20000 in
theorem gX8_distanceOf_X8_straight : GoodIn wsX8_distanceOf (wsV RX8 160 RX8 yX8_straight wsX8_straight) := goodIn_app (goodIn_of _ (by decide +kernel)) ggX8_distanceOf_X8_straight
set_option maxRecDepth 20000 in
theorem ggX8_distanceOf_X8_turns : GoodIn wsX8_distanceOf wsX8_turns := goodIn_r _ [24, 12, 25, 26, 27, 28, 29, 30, 31, 32, 33, 34, 35, 36, 37, 38, 39, 40, 41, 42, 43, 44, 45, 46, 47, 48, 49, 50, 51, 52, 53, 54, 55, 56] (by decide +kernel) (by decide +kernel)
set_option maxRecDepth 20000 in
theorem gX8_distanceOf_X8_turns : GoodIn wsX8_distanceOf (wsV RX8 164 RX8 yX8_turns wsX8_turns) := goodIn_app (goodIn_of _ (by decide +kernel)) ggX8_distanceOf_X8_turns
theorem dX8_distanceOf_0 : decode cX8_distanceOf 0 = .ok (.aload_n 0, 1) := by decide +kernel
theorem dX8_distanceOf_1 : decode cX8_distanceOf 1 = .ok (.getfield 29, 3) := by decide +kernel
theorem dX8_distanceOf_4 : decode cX8_distanceOf 4 = .ok (.iload_n 1, 1) := by decide +kernel
theorem dX8_distanceOf_5 : decode cX8_distanceOf 5 = .ok (.iaload, 1) := by decide +kernel
theorem dX8_distanceOf_6 : decode cX8_distanceOf 6 = .ok (.istore_n 2, 1) := by decide +kernel
theorem dX8_distanceOf_7 : decode cX8_distanceOf 7 = .ok (.iload_n 2, 1) := by decide +kernel
theorem dX8_distanceOf_8 : decode cX8_distanceOf 8 = .ok (.iconst 2, 1) := by decide +kernel
theorem dX8_distanceOf_9 : decode cX8_distanceOf 9 = .ok (.if_icmp .le 11, 3) := by decide +kernel
theorem dX8_distanceOf_12 : decode cX8_distanceOf 12 = .ok (.aload_n 0, 1) := by decide +kernel
theorem dX8_distanceOf_13 : decode cX8_distanceOf 13 = .ok (.iload_n 1, 1) := by decide +kernel
theorem dX8_distanceOf_14 : decode cX8_distanceOf 14 = .ok (.invokevirtual 157, 3) := by decide +kernel
theorem dX8_distanceOf_17 : decode cX8_distanceOf 17 = .ok (.goto 9, 3) := by decide +kernel
theorem dX8_distanceOf_20 : decode cX8_distanceOf 20 = .ok (.aload_n 0, 1) := by decide +kernel
theorem dX8_distanceOf_21 : decode cX8_distanceOf 21 = .ok (.iload_n 1, 1) := by decide +kernel
theorem dX8_distanceOf_22 : decode cX8_distanceOf 22 = .ok (.iconst 0, 1) := by decide +kernel
theorem dX8_distanceOf_23 : decode cX8_distanceOf 23 = .ok (.invokevirtual 160, 3) := by decide +kernel
theorem dX8_distanceOf_26 : decode cX8_distanceOf 26 = .ok (.istore_n 3, 1) := by decide +kernel
theorem dX8_distanceOf_27 : decode cX8_distanceOf 27 = .ok (.iload_n 2, 1) := by decide +kernel
theorem dX8_distanceOf_28 : decode cX8_distanceOf 28 = .ok (.iconst 2, 1) := by decide +kernel
theorem dX8_distanceOf_29 : decode cX8_distanceOf 29 = .ok (.if_icmp .ne 24, 3) := by decide +kernel
theorem dX8_distanceOf_32 : decode cX8_distanceOf 32 = .ok (.aload_n 0, 1) := by decide +kernel
theorem dX8_distanceOf_33 : decode cX8_distanceOf 33 = .ok (.iload_n 1, 1) := by decide +kernel
theorem dX8_distanceOf_34 : decode cX8_distanceOf 34 = .ok (.iconst 1, 1) := by decide +kernel
theorem dX8_distanceOf_35 : decode cX8_distanceOf 35 = .ok (.invokevirtual 160, 3) := by decide +kernel
theorem dX8_distanceOf_38 : decode cX8_distanceOf 38 = .ok (.istore 4, 2) := by decide +kernel
theorem dX8_distanceOf_40 : decode cX8_distanceOf 40 = .ok (.iload 4, 2) := by decide +kernel
theorem dX8_distanceOf_42 : decode cX8_distanceOf 42 = .ok (.iload_n 3, 1) := by decide +kernel
theorem dX8_distanceOf_43 : decode cX8_distanceOf 43 = .ok (.if_icmp .ge 8, 3) := by decide +kernel
theorem dX8_distanceOf_46 : decode cX8_distanceOf 46 = .ok (.iload 4, 2) := by decide +kernel
theorem dX8_distanceOf_48 : decode cX8_distanceOf 48 = .ok (.goto 4, 3) := by decide +kernel
theorem dX8_distanceOf_51 : decode cX8_distanceOf 51 = .ok (.iload_n 3, 1) := by decide +kernel
theorem dX8_distanceOf_52 : decode cX8_distanceOf 52 = .ok (.ireturn, 1) := by decide +kernel
theorem dX8_distanceOf_53 : decode cX8_distanceOf 53 = .ok (.iconst 1, 1) := by decide +kernel
theorem dX8_distanceOf_54 : decode cX8_distanceOf 54 = .ok (.istore 4, 2) := by decide +kernel
theorem dX8_distanceOf_56 : decode cX8_distanceOf 56 = .ok (.iload 4, 2) := by decide +kernel
theorem dX8_distanceOf_58 : decode cX8_distanceOf 58 = .ok (.iconst 4, 1) := by decide +kernel
theorem dX8_distanceOf_59 : decode cX8_distanceOf 59 = .ok (.if_icmp .ge 57, 3) := by decide +kernel
theorem dX8_distanceOf_62 : decode cX8_distanceOf 62 = .ok (.iload_n 2, 1) := by decide +kernel
theorem dX8_distanceOf_63 : decode cX8_distanceOf 63 = .ok (.iconst 1, 1) := by decide +kernel
theorem dX8_distanceOf_64 : decode cX8_distanceOf 64 = .ok (.if_icmp .eq 8, 3) := by decide +kernel
theorem dX8_distanceOf_67 : decode cX8_distanceOf 67 = .ok (.iload_n 2, 1) := by decide +kernel
theorem dX8_distanceOf_68 : decode cX8_distanceOf 68 = .ok (.iconst 4, 1) := by decide +kernel
theorem dX8_distanceOf_69 : decode cX8_distanceOf 69 = .ok (.if_icmp .ne 47, 3) := by decide +kernel
theorem dX8_distanceOf_72 : decode cX8_distanceOf 72 = .ok (.aload_n 0, 1) := by decide +kernel
theorem dX8_distanceOf_73 : decode cX8_distanceOf 73 = .ok (.invokevirtual 164, 3) := by decide +kernel
theorem dX8_distanceOf_76 : decode cX8_distanceOf 76 = .ok (.iload_n 2, 1) := by decide +kernel
theorem dX8_distanceOf_77 : decode cX8_distanceOf 77 = .ok (.iconst 4, 1) := by decide +kernel
theorem dX8_distanceOf_78 : decode cX8_distanceOf 78 = .ok (.if_icmp .ne 11, 3) := by decide +kernel
theorem dX8_distanceOf_81 : decode cX8_distanceOf 81 = .ok (.aload_n 0, 1) := by decide +kernel
theorem dX8_distanceOf_82 : decode cX8_distanceOf 82 = .ok (.iload_n 1, 1) := by decide +kernel
theorem dX8_distanceOf_83 : decode cX8_distanceOf 83 = .ok (.invokevirtual 157, 3) := by decide +kernel
theorem dX8_distanceOf_86 : decode cX8_distanceOf 86 = .ok (.goto 9, 3) := by decide +kernel
theorem dX8_distanceOf_89 : decode cX8_distanceOf 89 = .ok (.aload_n 0, 1) := by decide +kernel
theorem dX8_distanceOf_90 : decode cX8_distanceOf 90 = .ok (.iload_n 1, 1) := by decide +kernel
theorem dX8_distanceOf_91 : decode cX8_distanceOf 91 = .ok (.iconst 0, 1) := by decide +kernel
theorem dX8_distanceOf_92 : decode cX8_distanceOf 92 = .ok (.invokevirtual 160, 3) := by decide +kernel
theorem dX8_distanceOf_95 : decode cX8_distanceOf 95 = .ok (.istore 5, 2) := by decide +kernel
theorem dX8_distanceOf_97 : decode cX8_distanceOf 97 = .ok (.iload 5, 2) := by decide +kernel
theorem dX8_distanceOf_99 : decode cX8_distanceOf 99 = .ok (.iload_n 3, 1) := by decide +kernel
theorem dX8_distanceOf_100 : decode cX8_distanceOf 100 = .ok (.if_icmp .ge 8, 3) := by decide +kernel
theorem dX8_distanceOf_103 : decode cX8_distanceOf 103 = .ok (.iload 5, 2) := by decide +kernel
theorem dX8_distanceOf_105 : decode cX8_distanceOf 105 = .ok (.goto 4, 3) := by decide +kernel
theorem dX8_distanceOf_108 : decode cX8_distanceOf 108 = .ok (.iload_n 3, 1) := by decide +kernel
theorem dX8_distanceOf_109 : decode cX8_distanceOf 109 = .ok (.istore_n 3, 1) := by decide +kernel
theorem dX8_distanceOf_110 : decode cX8_distanceOf 110 = .ok (.iinc 4 1, 3) := by decide +kernel
theorem dX8_distanceOf_113 : decode cX8_distanceOf 113 = .ok (.goto (-57), 3) := by decide +kernel
theorem dX8_distanceOf_116 : decode cX8_distanceOf 116 = .ok (.iload_n 2, 1) := by decide +kernel
theorem dX8_distanceOf_117 : decode cX8_distanceOf 117 = .ok (.iconst 1, 1) := by decide +kernel
theorem dX8_distanceOf_118 : decode cX8_distanceOf 118 = .ok (.if_icmp .eq 8, 3) := by decide +kernel
theorem dX8_distanceOf_121 : decode cX8_distanceOf 121 = .ok (.iload_n 2, 1) := by decide +kernel
theorem dX8_distanceOf_122 : decode cX8_distanceOf 122 = .ok (.iconst 4, 1) := by decide +kernel
theorem dX8_distanceOf_123 : decode cX8_distanceOf 123 = .ok (.if_icmp .ne 7, 3) := by decide +kernel
theorem dX8_distanceOf_126 : decode cX8_distanceOf 126 = .ok (.aload_n 0, 1) := by decide +kernel
theorem dX8_distanceOf_127 : decode cX8_distanceOf 127 = .ok (.invokevirtual 164, 3) := by decide +kernel
theorem dX8_distanceOf_130 : decode cX8_distanceOf 130 = .ok (.iload_n 3, 1) := by decide +kernel
theorem dX8_distanceOf_131 : decode cX8_distanceOf 131 = .ok (.ireturn, 1) := by decide +kernel
set_option maxRecDepth 20000 in
theorem ggX8_holdsDraft_X8_findNorms : GoodIn wsX8_holdsDraft wsX8_findNorms := goodIn_r _ [7, 8, 9, 2, 10, 11, 12, 13, 6, 14, 15, 16, 17, 18, 19, 20, 21, 22, 23, 24, 25, 26, 27, 28, 29, 30, 31, 32, 33, 34, 35, 36, 37, 38, 39, 40, 41, 42, 43, 44, 45, 46, 47, 48, 49, 50, 51, 52, 53, 54, 55, 56, 57, 58, 59, 60, 61, 62, 63, 64, 65] (by decide +kernel) (by decide +kernel)
set_option maxRecDepth 20000 in
theorem gX8_holdsDraft_X8_findNorms : GoodIn wsX8_holdsDraft (wsV RX8 120 RX8 yX8_findNorms wsX8_findNorms) := goodIn_app (goodIn_of _ (by decide +kernel)) ggX8_holdsDraft_X8_findNorms
theorem dX8_holdsDraft_0 : decode cX8_holdsDraft 0 = .ok (.aload_n 0, 1) := by decide +kernel
theorem dX8_holdsDraft_1 : decode cX8_holdsDraft 1 = .ok (.invokevirtual 120, 3) := by decide +kernel
theorem dX8_holdsDraft_4 : decode cX8_holdsDraft 4 = .ok (.iconst 0, 1) := by decide +kernel
theorem dX8_holdsDraft_5 : decode cX8_holdsDraft 5 = .ok (.istore_n 1, 1) := by decide +kernel
theorem dX8_holdsDraft_6 : decode cX8_holdsDraft 6 = .ok (.iload_n 1, 1) := by decide +kernel
theorem dX8_holdsDraft_7 : decode cX8_holdsDraft 7 = .ok (.bipush 16, 2) := by decide +kernel
theorem dX8_holdsDraft_9 : decode cX8_holdsDraft 9 = .ok (.if_icmp .ge 21, 3) := by decide +kernel
theorem dX8_holdsDraft_12 : decode cX8_holdsDraft 12 = .ok (.aload_n 0, 1) := by decide +kernel
theorem dX8_holdsDraft_13 : decode cX8_holdsDraft 13 = .ok (.getfield 54, 3) := by decide +kernel
theorem dX8_holdsDraft_16 : decode cX8_holdsDraft 16 = .ok (.iload_n 1, 1) := by decide +kernel
theorem dX8_holdsDraft_17 : decode cX8_holdsDraft 17 = .ok (.aload_n 0, 1) := by decide +kernel
theorem dX8_holdsDraft_18 : decode cX8_holdsDraft 18 = .ok (.getfield 23, 3) := by decide +kernel
theorem dX8_holdsDraft_21 : decode cX8_holdsDraft 21 = .ok (.iload_n 1, 1) := by decide +kernel
theorem dX8_holdsDraft_22 : decode cX8_holdsDraft 22 = .ok (.iaload, 1) := by decide +kernel
theorem dX8_holdsDraft_23 : decode cX8_holdsDraft 23 = .ok (.iastore, 1) := by decide +kernel
theorem dX8_holdsDraft_24 : decode cX8_holdsDraft 24 = .ok (.iinc 1 1, 3) := by decide +kernel
theorem dX8_holdsDraft_27 : decode cX8_holdsDraft 27 = .ok (.goto (-21), 3) := by decide +kernel
theorem dX8_holdsDraft_30 : decode cX8_holdsDraft 30 = .ok (.return_, 1) := by decide +kernel
set_option maxRecDepth 20000 in
theorem ggX8_distance_X8_isTaught : GoodIn wsX8_distance wsX8_isTaught := goodIn_r _ [5, 6, 7, 8, 4, 9, 69, 70, 71, 72, 73, 74, 75, 76, 77, 78, 79, 80, 81, 82, 83, 84, 85, 86, 87, 88, 89, 90, 91, 92, 93, 94, 95, 96, 97, 98, 99, 100] (by decide +kernel) (by decide +kernel)
set_option maxRecDepth 20000 in
theorem gX8_distance_X8_isTaught : GoodIn wsX8_distance (wsV RX8 140 RX8 yX8_isTaught wsX8_isTaught) := goodIn_app (goodIn_of _ (by decide +kernel)) ggX8_distance_X8_isTaught
set_option maxRecDepth 20000 in
theorem ggX8_distance_X8_way : GoodIn wsX8_distance wsX8_way := goodIn_r _ [13, 14, 15, 16, 17, 4, 18, 19, 20, 21, 22, 23, 24, 69, 70, 71, 72, 73, 74, 75, 76, 77, 78, 79, 80, 81, 82, 83, 84, 85, 86, 87, 88, 89, 90, 91, 92, 93, 94, 95, 96, 97, 98, 99, 100] (by decide +kernel) (by decide +kernel)
set_option maxRecDepth 20000 in
theorem gX8_distance_X8_way : GoodIn wsX8_distance (wsV RX8 102 RX8 yX8_way wsX8_way) := goodIn_app (goodIn_of _ (by decide +kernel)) ggX8_distance_X8_way
set_option maxRecDepth 20000 in
theorem ggX8_distance_X8_holdsDraft : GoodIn wsX8_distance wsX8_holdsDraft := goodIn_r _ [28, 29, 30, 31, 32, 33, 4, 34, 35, 36, 37, 38, 39, 40, 41, 42, 20, 21, 10, 11, 12, 13, 14, 15, 16, 17, 18, 19, 22, 23, 24, 43, 44, 45, 69, 70, 71, 72, 73, 74, 75, 76, 77, 78, 79, 80, 81, 82, 83, 84, 85, 86, 87, 88, 89, 90, 91, 92, 93, 94, 95, 96, 97, 98, 99, 100] (by decide +kernel) (by decide +kernel)
set_option maxRecDepth 20000 in
theorem gX8_distance_X8_holdsDraft : GoodIn wsX8_distance (wsV RX8 167 RX8 yX8_holdsDraft wsX8_holdsDraft) := goodIn_app (goodIn_of _ (by decide +kernel)) ggX8_distance_X8_holdsDraft
set_option maxRecDepth 20000 in
theorem ggX8_distance_X8_distanceOf : GoodIn wsX8_distance wsX8_distanceOf := goodIn_r _ [49, 50, 51, 52, 53, 4, 54, 55, 56, 57, 58, 59, 29, 60, 22, 23, 24, 61, 62, 63, 64, 65, 66, 67, 68, 69, 70, 71, 72, 73, 74, 75, 76, 77, 78, 79, 80, 81, 82, 83, 84, 85, 86, 87, 88, 89, 90, 91, 92, 93, 94, 95, 96, 97, 98, 99, 100] (by decide +kernel) (by decide +kernel)
set_option maxRecDepth 20000 in
theorem gX8_distance_X8_distanceOf : GoodIn wsX8_distance (wsV RX8 170 RX8 yX8_distanceOf wsX8_distanceOf) := goodIn_app (goodIn_of _ (by decide +kernel)) ggX8_distance_X8_distanceOf
theorem dX8_distance_0 : decode cX8_distance 0 = .ok (.aload_n 0, 1) := by decide +kernel
theorem dX8_distance_1 : decode cX8_distance 1 = .ok (.iload_n 1, 1) := by decide +kernel
theorem dX8_distance_2 : decode cX8_distance 2 = .ok (.invokevirtual 140, 3) := by decide +kernel
theorem dX8_distance_5 : decode cX8_distance 5 = .ok (.ifCond .ne 5, 3) := by decide +kernel
theorem dX8_distance_8 : decode cX8_distance 8 = .ok (.iconst (-1), 1) := by decide +kernel
theorem dX8_distance_9 : decode cX8_distance 9 = .ok (.ireturn, 1) := by decide +kernel
theorem dX8_distance_10 : decode cX8_distance 10 = .ok (.aload_n 0, 1) := by decide +kernel
theorem dX8_distance_11 : decode cX8_distance 11 = .ok (.invokevirtual 102, 3) := by decide +kernel
theorem dX8_distance_14 : decode cX8_distance 14 = .ok (.ifCond .ne 6, 3) := by decide +kernel
theorem dX8_distance_17 : decode cX8_distance 17 = .ok (.bipush (-2), 2) := by decide +kernel
theorem dX8_distance_19 : decode cX8_distance 19 = .ok (.ireturn, 1) := by decide +kernel
theorem dX8_distance_20 : decode cX8_distance 20 = .ok (.aload_n 0, 1) := by decide +kernel
theorem dX8_distance_21 : decode cX8_distance 21 = .ok (.invokevirtual 167, 3) := by decide +kernel
theorem dX8_distance_24 : decode cX8_distance 24 = .ok (.aload_n 0, 1) := by decide +kernel
theorem dX8_distance_25 : decode cX8_distance 25 = .ok (.iload_n 1, 1) := by decide +kernel
theorem dX8_distance_26 : decode cX8_distance 26 = .ok (.invokevirtual 170, 3) := by decide +kernel
theorem dX8_distance_29 : decode cX8_distance 29 = .ok (.ireturn, 1) := by decide +kernel
set_option maxRecDepth 20000 in
theorem ggX8_nearest_X8_way : GoodIn wsX8_nearest wsX8_way := goodIn_r _ [6, 7, 8, 9, 10, 5, 11, 12, 13, 14, 15, 16, 17, 62, 63, 64, 65, 66, 67, 68, 69, 70, 71, 72, 73, 74, 75, 76, 77, 78, 79, 80, 81, 82, 83, 84, 85, 86, 87, 88, 89, 90, 91, 92, 93] (by decide +kernel) (by decide +kernel)
set_option maxRecDepth 20000 in
theorem gX8_nearest_X8_way : GoodIn wsX8_nearest (wsV RX8 102 RX8 yX8_way wsX8_way) := goodIn_app (goodIn_of _ (by decide +kernel)) ggX8_nearest_X8_way
set_option maxRecDepth 20000 in
theorem ggX8_nearest_X8_holdsDraft : GoodIn wsX8_nearest wsX8_holdsDraft := goodIn_r _ [21, 22, 23, 24, 25, 26, 5, 27, 28, 29, 30, 31, 32, 33, 34, 35, 13, 14, 2, 3, 4, 6, 7, 8, 9, 10, 11, 12, 15, 16, 17, 36, 37, 38, 62, 63, 64, 65, 66, 67, 68, 69, 70, 71, 72, 73, 74, 75, 76, 77, 78, 79, 80, 81, 82, 83, 84, 85, 86, 87, 88, 89, 90, 91, 92, 93] (by decide +kernel) (by decide +kernel)
set_option maxRecDepth 20000 in
theorem gX8_nearest_X8_holdsDraft : GoodIn wsX8_nearest (wsV RX8 167 RX8 yX8_holdsDraft wsX8_holdsDraft) := goodIn_app (goodIn_of _ (by decide +kernel)) ggX8_nearest_X8_holdsDraft
set_option maxRecDepth 20000 in
theorem ggX8_nearest_X8_distanceOf : GoodIn wsX8_nearest wsX8_distanceOf := goodIn_r _ [42, 43, 44, 45, 46, 5, 47, 48, 49, 50, 51, 52, 22, 53, 15, 16, 17, 54, 55, 56, 57, 58, 59, 60, 61, 62, 63, 64, 65, 66, 67, 68, 69, 70, 71, 72, 73, 74, 75, 76, 77, 78, 79, 80, 81, 82, 83, 84, 85, 86, 87, 88, 89, 90, 91, 92, 93] (by decide +kernel) (by decide +kernel)
set_option maxRecDepth 20000 in
theorem gX8_nearest_X8_distanceOf : GoodIn wsX8_nearest (wsV RX8 170 RX8 yX8_distanceOf wsX8_distanceOf) := goodIn_app (goodIn_of _ (by decide +kernel)) ggX8_nearest_X8_distanceOf
theorem dX8_nearest_0 : decode cX8_nearest 0 = .ok (.aload_n 0, 1) := by decide +kernel
theorem dX8_nearest_1 : decode cX8_nearest 1 = .ok (.invokevirtual 102, 3) := by decide +kernel
theorem dX8_nearest_4 : decode cX8_nearest 4 = .ok (.ifCond .ne 6, 3) := by decide +kernel
theorem dX8_nearest_7 : decode cX8_nearest 7 = .ok (.bipush (-2), 2) := by decide +kernel
theorem dX8_nearest_9 : decode cX8_nearest 9 = .ok (.ireturn, 1) := by decide +kernel
theorem dX8_nearest_10 : decode cX8_nearest 10 = .ok (.aload_n 0, 1) := by decide +kernel
theorem dX8_nearest_11 : decode cX8_nearest 11 = .ok (.invokevirtual 167, 3) := by decide +kernel
theorem dX8_nearest_14 : decode cX8_nearest 14 = .ok (.bipush (-4), 2) := by decide +kernel
theorem dX8_nearest_16 : decode cX8_nearest 16 = .ok (.istore_n 1, 1) := by decide +kernel
theorem dX8_nearest_17 : decode cX8_nearest 17 = .ok (.iconst 0, 1) := by decide +kernel
theorem dX8_nearest_18 : decode cX8_nearest 18 = .ok (.istore_n 2, 1) := by decide +kernel
theorem dX8_nearest_19 : decode cX8_nearest 19 = .ok (.iconst 0, 1) := by decide +kernel
theorem dX8_nearest_20 : decode cX8_nearest 20 = .ok (.istore_n 3, 1) := by decide +kernel
theorem dX8_nearest_21 : decode cX8_nearest 21 = .ok (.iload_n 3, 1) := by decide +kernel
theorem dX8_nearest_22 : decode cX8_nearest 22 = .ok (.aload_n 0, 1) := by decide +kernel
theorem dX8_nearest_23 : decode cX8_nearest 23 = .ok (.getfield 123, 3) := by decide +kernel
theorem dX8_nearest_26 : decode cX8_nearest 26 = .ok (.if_icmp .ge 33, 3) := by decide +kernel
theorem dX8_nearest_29 : decode cX8_nearest 29 = .ok (.aload_n 0, 1) := by decide +kernel
theorem dX8_nearest_30 : decode cX8_nearest 30 = .ok (.iload_n 3, 1) := by decide +kernel
theorem dX8_nearest_31 : decode cX8_nearest 31 = .ok (.invokevirtual 170, 3) := by decide +kernel
theorem dX8_nearest_34 : decode cX8_nearest 34 = .ok (.istore 4, 2) := by decide +kernel
theorem dX8_nearest_36 : decode cX8_nearest 36 = .ok (.iload_n 1, 1) := by decide +kernel
theorem dX8_nearest_37 : decode cX8_nearest 37 = .ok (.bipush (-4), 2) := by decide +kernel
theorem dX8_nearest_39 : decode cX8_nearest 39 = .ok (.if_icmp .eq 9, 3) := by decide +kernel
theorem dX8_nearest_42 : decode cX8_nearest 42 = .ok (.iload 4, 2) := by decide +kernel
theorem dX8_nearest_44 : decode cX8_nearest 44 = .ok (.iload_n 2, 1) := by decide +kernel
theorem dX8_nearest_45 : decode cX8_nearest 45 = .ok (.if_icmp .ge 8, 3) := by decide +kernel
theorem dX8_nearest_48 : decode cX8_nearest 48 = .ok (.iload_n 3, 1) := by decide +kernel
theorem dX8_nearest_49 : decode cX8_nearest 49 = .ok (.istore_n 1, 1) := by decide +kernel
theorem dX8_nearest_50 : decode cX8_nearest 50 = .ok (.iload 4, 2) := by decide +kernel
theorem dX8_nearest_52 : decode cX8_nearest 52 = .ok (.istore_n 2, 1) := by decide +kernel
theorem dX8_nearest_53 : decode cX8_nearest 53 = .ok (.iinc 3 1, 3) := by decide +kernel
theorem dX8_nearest_56 : decode cX8_nearest 56 = .ok (.goto (-35), 3) := by decide +kernel
theorem dX8_nearest_59 : decode cX8_nearest 59 = .ok (.iload_n 1, 1) := by decide +kernel
theorem dX8_nearest_60 : decode cX8_nearest 60 = .ok (.ireturn, 1) := by decide +kernel
set_option maxRecDepth 20000 in
theorem ggX8_read_X8_nearest : GoodIn wsX8_read wsX8_nearest := goodIn_r _ [9, 2, 10, 11, 12, 8, 13, 14, 15, 16, 17, 18, 19, 20, 21, 22, 23, 24, 25, 26, 27, 28, 29, 30, 31, 32, 33, 34, 35, 36, 37, 38, 39, 40, 41, 42, 43, 44, 45, 46, 47, 48, 49, 50, 51, 52, 53, 54, 55, 56, 57, 58, 59, 60, 61, 62, 63, 64, 65, 66, 67, 68, 69, 70, 71, 72, 73, 74, 75, 76, 77, 78, 79, 80, 81, 82, 83, 84, 85, 86, 87, 88, 89, 90, 91, 92, 93, 94, 95, 96, 97, 98, 99, 100] (by decide +kernel) (by decide +kernel)
set_option maxRecDepth 20000 in
theorem gX8_read_X8_nearest : GoodIn wsX8_read (wsV RX8 173 RX8 yX8_nearest wsX8_nearest) := goodIn_app (goodIn_of _ (by decide +kernel)) ggX8_read_X8_nearest
set_option maxRecDepth 20000 in
theorem ggX8_read_X8_distanceOf : GoodIn wsX8_read wsX8_distanceOf := goodIn_r _ [49, 50, 51, 52, 53, 8, 54, 55, 56, 57, 58, 59, 29, 60, 22, 23, 24, 61, 62, 63, 64, 65, 66, 67, 68, 69, 70, 71, 72, 73, 74, 75, 76, 77, 78, 79, 80, 81, 82, 83, 84, 85, 86, 87, 88, 89, 90, 91, 92, 93, 94, 95, 96, 97, 98, 99, 100] (by decide +kernel) (by decide +kernel)
set_option maxRecDepth 20000 in
theorem gX8_read_X8_distanceOf : GoodIn wsX8_read (wsV RX8 170 RX8 yX8_distanceOf wsX8_distanceOf) := goodIn_app (goodIn_of _ (by decide +kernel)) ggX8_read_X8_distanceOf
theorem dX8_read_0 : decode cX8_read 0 = .ok (.aload_n 0, 1) := by decide +kernel
theorem dX8_read_1 : decode cX8_read 1 = .ok (.invokevirtual 173, 3) := by decide +kernel
theorem dX8_read_4 : decode cX8_read 4 = .ok (.istore_n 1, 1) := by decide +kernel
theorem dX8_read_5 : decode cX8_read 5 = .ok (.iload_n 1, 1) := by decide +kernel
theorem dX8_read_6 : decode cX8_read 6 = .ok (.ifCond .ge 5, 3) := by decide +kernel
theorem dX8_read_9 : decode cX8_read 9 = .ok (.iload_n 1, 1) := by decide +kernel
theorem dX8_read_10 : decode cX8_read 10 = .ok (.ireturn, 1) := by decide +kernel
theorem dX8_read_11 : decode cX8_read 11 = .ok (.aload_n 0, 1) := by decide +kernel
theorem dX8_read_12 : decode cX8_read 12 = .ok (.iload_n 1, 1) := by decide +kernel
theorem dX8_read_13 : decode cX8_read 13 = .ok (.invokevirtual 170, 3) := by decide +kernel
theorem dX8_read_16 : decode cX8_read 16 = .ok (.istore_n 2, 1) := by decide +kernel
theorem dX8_read_17 : decode cX8_read 17 = .ok (.iload_n 2, 1) := by decide +kernel
theorem dX8_read_18 : decode cX8_read 18 = .ok (.aload_n 0, 1) := by decide +kernel
theorem dX8_read_19 : decode cX8_read 19 = .ok (.getfield 50, 3) := by decide +kernel
theorem dX8_read_22 : decode cX8_read 22 = .ok (.if_icmp .gt 7, 3) := by decide +kernel
theorem dX8_read_25 : decode cX8_read 25 = .ok (.iconst 1, 1) := by decide +kernel
theorem dX8_read_26 : decode cX8_read 26 = .ok (.goto 4, 3) := by decide +kernel
theorem dX8_read_29 : decode cX8_read 29 = .ok (.iconst 0, 1) := by decide +kernel
theorem dX8_read_30 : decode cX8_read 30 = .ok (.istore_n 3, 1) := by decide +kernel
theorem dX8_read_31 : decode cX8_read 31 = .ok (.iconst 0, 1) := by decide +kernel
theorem dX8_read_32 : decode cX8_read 32 = .ok (.istore 4, 2) := by decide +kernel
theorem dX8_read_34 : decode cX8_read 34 = .ok (.iload 4, 2) := by decide +kernel
theorem dX8_read_36 : decode cX8_read 36 = .ok (.aload_n 0, 1) := by decide +kernel
theorem dX8_read_37 : decode cX8_read 37 = .ok (.getfield 123, 3) := by decide +kernel
theorem dX8_read_40 : decode cX8_read 40 = .ok (.if_icmp .ge 50, 3) := by decide +kernel
theorem dX8_read_43 : decode cX8_read 43 = .ok (.iload_n 3, 1) := by decide +kernel
theorem dX8_read_44 : decode cX8_read 44 = .ok (.ifCond .eq 38, 3) := by decide +kernel
theorem dX8_read_47 : decode cX8_read 47 = .ok (.aload_n 0, 1) := by decide +kernel
theorem dX8_read_48 : decode cX8_read 48 = .ok (.getfield 26, 3) := by decide +kernel
theorem dX8_read_51 : decode cX8_read 51 = .ok (.iload 4, 2) := by decide +kernel
theorem dX8_read_53 : decode cX8_read 53 = .ok (.iaload, 1) := by decide +kernel
theorem dX8_read_54 : decode cX8_read 54 = .ok (.aload_n 0, 1) := by decide +kernel
theorem dX8_read_55 : decode cX8_read 55 = .ok (.getfield 26, 3) := by decide +kernel
theorem dX8_read_58 : decode cX8_read 58 = .ok (.iload_n 1, 1) := by decide +kernel
theorem dX8_read_59 : decode cX8_read 59 = .ok (.iaload, 1) := by decide +kernel
theorem dX8_read_60 : decode cX8_read 60 = .ok (.if_icmp .eq 18, 3) := by decide +kernel
theorem dX8_read_63 : decode cX8_read 63 = .ok (.aload_n 0, 1) := by decide +kernel
theorem dX8_read_64 : decode cX8_read 64 = .ok (.iload 4, 2) := by decide +kernel
theorem dX8_read_66 : decode cX8_read 66 = .ok (.invokevirtual 170, 3) := by decide +kernel
theorem dX8_read_69 : decode cX8_read 69 = .ok (.iload_n 2, 1) := by decide +kernel
theorem dX8_read_70 : decode cX8_read 70 = .ok (.aload_n 0, 1) := by decide +kernel
theorem dX8_read_71 : decode cX8_read 71 = .ok (.getfield 150, 3) := by decide +kernel
theorem dX8_read_74 : decode cX8_read 74 = .ok (.iadd, 1) := by decide +kernel
theorem dX8_read_75 : decode cX8_read 75 = .ok (.if_icmp .lt 7, 3) := by decide +kernel
theorem dX8_read_78 : decode cX8_read 78 = .ok (.iconst 1, 1) := by decide +kernel
theorem dX8_read_79 : decode cX8_read 79 = .ok (.goto 4, 3) := by decide +kernel
theorem dX8_read_82 : decode cX8_read 82 = .ok (.iconst 0, 1) := by decide +kernel
theorem dX8_read_83 : decode cX8_read 83 = .ok (.istore_n 3, 1) := by decide +kernel
theorem dX8_read_84 : decode cX8_read 84 = .ok (.iinc 4 1, 3) := by decide +kernel
theorem dX8_read_87 : decode cX8_read 87 = .ok (.goto (-53), 3) := by decide +kernel
theorem dX8_read_90 : decode cX8_read 90 = .ok (.iload_n 3, 1) := by decide +kernel
theorem dX8_read_91 : decode cX8_read 91 = .ok (.ifCond .eq 12, 3) := by decide +kernel
theorem dX8_read_94 : decode cX8_read 94 = .ok (.aload_n 0, 1) := by decide +kernel
theorem dX8_read_95 : decode cX8_read 95 = .ok (.getfield 26, 3) := by decide +kernel
theorem dX8_read_98 : decode cX8_read 98 = .ok (.iload_n 1, 1) := by decide +kernel
theorem dX8_read_99 : decode cX8_read 99 = .ok (.iaload, 1) := by decide +kernel
theorem dX8_read_100 : decode cX8_read 100 = .ok (.goto 5, 3) := by decide +kernel
theorem dX8_read_103 : decode cX8_read 103 = .ok (.bipush (-5), 2) := by decide +kernel
theorem dX8_read_105 : decode cX8_read 105 = .ok (.ireturn, 1) := by decide +kernel
set_option maxRecDepth 20000 in
theorem ggX8_mark_X8_read : GoodIn wsX8_mark wsX8_read := goodIn_r _ [8, 9, 10, 11, 12, 13, 14, 15, 7, 16, 17, 18, 19, 20, 3, 21, 22, 23, 24, 25, 26, 27, 28, 29, 30, 31, 32, 33, 34, 35, 36, 37, 38, 39, 40, 41, 42, 43, 44, 45, 46, 47, 48, 49, 50, 51, 52, 53, 54, 55, 56, 57, 58, 59, 60, 61, 62, 63, 64, 65, 66, 67, 68, 69, 70, 71, 72, 73, 74, 75, 76, 77, 78, 79, 80, 81, 82, 83, 84, 85, 86, 87, 88, 89, 90, 91, 92, 93, 94, 95, 96, 97, 98, 99, 100, 101, 102, 103, 104, 105, 106] (by decide +kernel) (by decide +kernel)
set_option maxRecDepth 20000 in
theorem gX8_mark_X8_read : GoodIn wsX8_mark (wsV RX8 176 RX8 yX8_read wsX8_read) := goodIn_app (goodIn_of _ (by decide +kernel)) ggX8_mark_X8_read
theorem dX8_mark_0 : decode cX8_mark 0 = .ok (.aload_n 0, 1) := by decide +kernel
theorem dX8_mark_1 : decode cX8_mark 1 = .ok (.invokevirtual 176, 3) := by decide +kernel
theorem dX8_mark_4 : decode cX8_mark 4 = .ok (.istore_n 1, 1) := by decide +kernel
theorem dX8_mark_5 : decode cX8_mark 5 = .ok (.iload_n 1, 1) := by decide +kernel
theorem dX8_mark_6 : decode cX8_mark 6 = .ok (.ifCond .ge 5, 3) := by decide +kernel
theorem dX8_mark_9 : decode cX8_mark 9 = .ok (.iload_n 1, 1) := by decide +kernel
theorem dX8_mark_10 : decode cX8_mark 10 = .ok (.ireturn, 1) := by decide +kernel
theorem dX8_mark_11 : decode cX8_mark 11 = .ok (.aload_n 0, 1) := by decide +kernel
theorem dX8_mark_12 : decode cX8_mark 12 = .ok (.getfield 179, 3) := by decide +kernel
theorem dX8_mark_15 : decode cX8_mark 15 = .ok (.bipush 40, 2) := by decide +kernel
theorem dX8_mark_17 : decode cX8_mark 17 = .ok (.if_icmp .ne 6, 3) := by decide +kernel
theorem dX8_mark_20 : decode cX8_mark 20 = .ok (.bipush (-3), 2) := by decide +kernel
theorem dX8_mark_22 : decode cX8_mark 22 = .ok (.ireturn, 1) := by decide +kernel
theorem dX8_mark_23 : decode cX8_mark 23 = .ok (.aload_n 0, 1) := by decide +kernel
theorem dX8_mark_24 : decode cX8_mark 24 = .ok (.getfield 60, 3) := by decide +kernel
theorem dX8_mark_27 : decode cX8_mark 27 = .ok (.aload_n 0, 1) := by decide +kernel
theorem dX8_mark_28 : decode cX8_mark 28 = .ok (.getfield 179, 3) := by decide +kernel
theorem dX8_mark_31 : decode cX8_mark 31 = .ok (.iload_n 1, 1) := by decide +kernel
theorem dX8_mark_32 : decode cX8_mark 32 = .ok (.iastore, 1) := by decide +kernel
theorem dX8_mark_33 : decode cX8_mark 33 = .ok (.aload_n 0, 1) := by decide +kernel
theorem dX8_mark_34 : decode cX8_mark 34 = .ok (.dup, 1) := by decide +kernel
theorem dX8_mark_35 : decode cX8_mark 35 = .ok (.getfield 179, 3) := by decide +kernel
theorem dX8_mark_38 : decode cX8_mark 38 = .ok (.iconst 1, 1) := by decide +kernel
theorem dX8_mark_39 : decode cX8_mark 39 = .ok (.iadd, 1) := by decide +kernel
theorem dX8_mark_40 : decode cX8_mark 40 = .ok (.putfield 179, 3) := by decide +kernel
theorem dX8_mark_43 : decode cX8_mark 43 = .ok (.aload_n 0, 1) := by decide +kernel
theorem dX8_mark_44 : decode cX8_mark 44 = .ok (.iconst 0, 1) := by decide +kernel
theorem dX8_mark_45 : decode cX8_mark 45 = .ok (.putfield 92, 3) := by decide +kernel
theorem dX8_mark_48 : decode cX8_mark 48 = .ok (.iload_n 1, 1) := by decide +kernel
theorem dX8_mark_49 : decode cX8_mark 49 = .ok (.ireturn, 1) := by decide +kernel
set_option maxRecDepth 20000 in
theorem ggX8_betweenOf_X8_distanceOf : GoodIn wsX8_betweenOf wsX8_distanceOf := goodIn_r _ [7, 8, 9, 10, 11, 6, 12, 13, 14, 15, 16, 17, 1, 2, 18, 19, 20, 21, 22, 23, 24, 25, 26, 27, 28, 29, 30, 31, 32, 33, 34, 35, 36, 37, 38, 39, 40, 41, 42, 43, 44, 45, 46, 47, 48, 49, 50, 51, 52, 53, 54, 55, 56, 57, 58, 59, 60] (by decide +kernel) (by decide +kernel)
set_option maxRecDepth 20000 in
theorem gX8_betweenOf_X8_distanceOf : GoodIn wsX8_betweenOf (wsV RX8 170 RX8 yX8_distanceOf wsX8_distanceOf) := goodIn_app (goodIn_of _ (by decide +kernel)) ggX8_betweenOf_X8_distanceOf
theorem dX8_betweenOf_0 : decode cX8_betweenOf 0 = .ok (.iconst 0, 1) := by decide +kernel
theorem dX8_betweenOf_1 : decode cX8_betweenOf 1 = .ok (.istore_n 3, 1) := by decide +kernel
theorem dX8_betweenOf_2 : decode cX8_betweenOf 2 = .ok (.iload_n 3, 1) := by decide +kernel
theorem dX8_betweenOf_3 : decode cX8_betweenOf 3 = .ok (.bipush 16, 2) := by decide +kernel
theorem dX8_betweenOf_5 : decode cX8_betweenOf 5 = .ok (.if_icmp .ge 26, 3) := by decide +kernel
theorem dX8_betweenOf_8 : decode cX8_betweenOf 8 = .ok (.aload_n 0, 1) := by decide +kernel
theorem dX8_betweenOf_9 : decode cX8_betweenOf 9 = .ok (.getfield 54, 3) := by decide +kernel
theorem dX8_betweenOf_12 : decode cX8_betweenOf 12 = .ok (.iload_n 3, 1) := by decide +kernel
theorem dX8_betweenOf_13 : decode cX8_betweenOf 13 = .ok (.aload_n 0, 1) := by decide +kernel
theorem dX8_betweenOf_14 : decode cX8_betweenOf 14 = .ok (.getfield 32, 3) := by decide +kernel
theorem dX8_betweenOf_17 : decode cX8_betweenOf 17 = .ok (.bipush 16, 2) := by decide +kernel
theorem dX8_betweenOf_19 : decode cX8_betweenOf 19 = .ok (.iload_n 1, 1) := by decide +kernel
theorem dX8_betweenOf_20 : decode cX8_betweenOf 20 = .ok (.imul, 1) := by decide +kernel
theorem dX8_betweenOf_21 : decode cX8_betweenOf 21 = .ok (.iload_n 3, 1) := by decide +kernel
theorem dX8_betweenOf_22 : decode cX8_betweenOf 22 = .ok (.iadd, 1) := by decide +kernel
theorem dX8_betweenOf_23 : decode cX8_betweenOf 23 = .ok (.iaload, 1) := by decide +kernel
theorem dX8_betweenOf_24 : decode cX8_betweenOf 24 = .ok (.iastore, 1) := by decide +kernel
theorem dX8_betweenOf_25 : decode cX8_betweenOf 25 = .ok (.iinc 3 1, 3) := by decide +kernel
theorem dX8_betweenOf_28 : decode cX8_betweenOf 28 = .ok (.goto (-26), 3) := by decide +kernel
theorem dX8_betweenOf_31 : decode cX8_betweenOf 31 = .ok (.aload_n 0, 1) := by decide +kernel
theorem dX8_betweenOf_32 : decode cX8_betweenOf 32 = .ok (.iload_n 2, 1) := by decide +kernel
theorem dX8_betweenOf_33 : decode cX8_betweenOf 33 = .ok (.invokevirtual 170, 3) := by decide +kernel
theorem dX8_betweenOf_36 : decode cX8_betweenOf 36 = .ok (.ireturn, 1) := by decide +kernel
set_option maxRecDepth 20000 in
theorem ggX8_confused_X8_in : GoodIn wsX8_confused wsX8_in := goodIn_r _ [8] (by decide +kernel) (by decide +kernel)
set_option maxRecDepth 20000 in
theorem gX8_confused_X8_in : GoodIn wsX8_confused (va_wsS RX8 88 yX8_in wsX8_in) := goodIn_app (goodIn_of _ (by decide +kernel)) ggX8_confused_X8_in
set_option maxRecDepth 20000 in
theorem ggX8_confused_X8_betweenOf : GoodIn wsX8_confused wsX8_betweenOf := goodIn_r _ [12, 13, 14, 15, 16, 17, 7, 18, 19, 20, 21, 22, 23, 24, 25, 26, 27, 28, 29, 30, 31, 32, 33, 34, 35, 36, 37, 38, 39, 40, 41, 42, 43, 44, 45, 46, 47, 48, 49, 50, 51, 52, 53, 54, 55, 56, 57, 58, 59, 60, 61, 62, 63, 64, 65, 66, 67, 68, 69, 70, 71] (by decide +kernel) (by decide +kernel)
set_option maxRecDepth 20000 in
theorem gX8_confused_X8_betweenOf : GoodIn wsX8_confused (wsV RX8 182 RX8 yX8_betweenOf wsX8_betweenOf) := goodIn_app (goodIn_of _ (by decide +kernel)) ggX8_confused_X8_betweenOf
theorem dX8_confused_0 : decode cX8_confused 0 = .ok (.iload_n 1, 1) := by decide +kernel
theorem dX8_confused_1 : decode cX8_confused 1 = .ok (.i2l, 1) := by decide +kernel
theorem dX8_confused_2 : decode cX8_confused 2 = .ok (.lconst 0, 1) := by decide +kernel
theorem dX8_confused_3 : decode cX8_confused 3 = .ok (.ldc2_w 129, 3) := by decide +kernel
theorem dX8_confused_6 : decode cX8_confused 6 = .ok (.invokestatic 88, 3) := by decide +kernel
theorem dX8_confused_9 : decode cX8_confused 9 = .ok (.ifCond .eq 15, 3) := by decide +kernel
theorem dX8_confused_12 : decode cX8_confused 12 = .ok (.iload_n 2, 1) := by decide +kernel
theorem dX8_confused_13 : decode cX8_confused 13 = .ok (.i2l, 1) := by decide +kernel
theorem dX8_confused_14 : decode cX8_confused 14 = .ok (.lconst 0, 1) := by decide +kernel
theorem dX8_confused_15 : decode cX8_confused 15 = .ok (.ldc2_w 148, 3) := by decide +kernel
theorem dX8_confused_18 : decode cX8_confused 18 = .ok (.invokestatic 88, 3) := by decide +kernel
theorem dX8_confused_21 : decode cX8_confused 21 = .ok (.ifCond .ne 5, 3) := by decide +kernel
theorem dX8_confused_24 : decode cX8_confused 24 = .ok (.iconst (-1), 1) := by decide +kernel
theorem dX8_confused_25 : decode cX8_confused 25 = .ok (.ireturn, 1) := by decide +kernel
theorem dX8_confused_26 : decode cX8_confused 26 = .ok (.iconst 0, 1) := by decide +kernel
theorem dX8_confused_27 : decode cX8_confused 27 = .ok (.istore_n 3, 1) := by decide +kernel
theorem dX8_confused_28 : decode cX8_confused 28 = .ok (.iconst 0, 1) := by decide +kernel
theorem dX8_confused_29 : decode cX8_confused 29 = .ok (.istore 4, 2) := by decide +kernel
theorem dX8_confused_31 : decode cX8_confused 31 = .ok (.iload 4, 2) := by decide +kernel
theorem dX8_confused_33 : decode cX8_confused 33 = .ok (.aload_n 0, 1) := by decide +kernel
theorem dX8_confused_34 : decode cX8_confused 34 = .ok (.getfield 123, 3) := by decide +kernel
theorem dX8_confused_37 : decode cX8_confused 37 = .ok (.if_icmp .ge 101, 3) := by decide +kernel
theorem dX8_confused_40 : decode cX8_confused 40 = .ok (.iconst 0, 1) := by decide +kernel
theorem dX8_confused_41 : decode cX8_confused 41 = .ok (.istore 5, 2) := by decide +kernel
theorem dX8_confused_43 : decode cX8_confused 43 = .ok (.iconst 0, 1) := by decide +kernel
theorem dX8_confused_44 : decode cX8_confused 44 = .ok (.istore 6, 2) := by decide +kernel
theorem dX8_confused_46 : decode cX8_confused 46 = .ok (.iload 6, 2) := by decide +kernel
theorem dX8_confused_48 : decode cX8_confused 48 = .ok (.aload_n 0, 1) := by decide +kernel
theorem dX8_confused_49 : decode cX8_confused 49 = .ok (.getfield 123, 3) := by decide +kernel
theorem dX8_confused_52 : decode cX8_confused 52 = .ok (.if_icmp .ge 67, 3) := by decide +kernel
theorem dX8_confused_55 : decode cX8_confused 55 = .ok (.aload_n 0, 1) := by decide +kernel
theorem dX8_confused_56 : decode cX8_confused 56 = .ok (.getfield 26, 3) := by decide +kernel
theorem dX8_confused_59 : decode cX8_confused 59 = .ok (.iload 4, 2) := by decide +kernel
theorem dX8_confused_61 : decode cX8_confused 61 = .ok (.iaload, 1) := by decide +kernel
theorem dX8_confused_62 : decode cX8_confused 62 = .ok (.iload_n 1, 1) := by decide +kernel
theorem dX8_confused_63 : decode cX8_confused 63 = .ok (.if_icmp .ne 56, 3) := by decide +kernel
theorem dX8_confused_66 : decode cX8_confused 66 = .ok (.iload 5, 2) := by decide +kernel
theorem dX8_confused_68 : decode cX8_confused 68 = .ok (.ifCond .ne 38, 3) := by decide +kernel
theorem dX8_confused_71 : decode cX8_confused 71 = .ok (.aload_n 0, 1) := by decide +kernel
theorem dX8_confused_72 : decode cX8_confused 72 = .ok (.getfield 26, 3) := by decide +kernel
theorem dX8_confused_75 : decode cX8_confused 75 = .ok (.iload 6, 2) := by decide +kernel
theorem dX8_confused_77 : decode cX8_confused 77 = .ok (.iaload, 1) := by decide +kernel
theorem dX8_confused_78 : decode cX8_confused 78 = .ok (.iload_n 1, 1) := by decide +kernel
theorem dX8_confused_79 : decode cX8_confused 79 = .ok (.if_icmp .eq 31, 3) := by decide +kernel
theorem dX8_confused_82 : decode cX8_confused 82 = .ok (.aload_n 0, 1) := by decide +kernel
theorem dX8_confused_83 : decode cX8_confused 83 = .ok (.iload 4, 2) := by decide +kernel
theorem dX8_confused_85 : decode cX8_confused 85 = .ok (.iload 6, 2) := by decide +kernel
theorem dX8_confused_87 : decode cX8_confused 87 = .ok (.invokevirtual 182, 3) := by decide +kernel
theorem dX8_confused_90 : decode cX8_confused 90 = .ok (.iload_n 2, 1) := by decide +kernel
theorem dX8_confused_91 : decode cX8_confused 91 = .ok (.if_icmp .le 15, 3) := by decide +kernel
theorem dX8_confused_94 : decode cX8_confused 94 = .ok (.aload_n 0, 1) := by decide +kernel
theorem dX8_confused_95 : decode cX8_confused 95 = .ok (.iload 6, 2) := by decide +kernel
theorem dX8_confused_97 : decode cX8_confused 97 = .ok (.iload 4, 2) := by decide +kernel
theorem dX8_confused_99 : decode cX8_confused 99 = .ok (.invokevirtual 182, 3) := by decide +kernel
theorem dX8_confused_102 : decode cX8_confused 102 = .ok (.iload_n 2, 1) := by decide +kernel
theorem dX8_confused_103 : decode cX8_confused 103 = .ok (.if_icmp .gt 7, 3) := by decide +kernel
theorem dX8_confused_106 : decode cX8_confused 106 = .ok (.iconst 1, 1) := by decide +kernel
theorem dX8_confused_107 : decode cX8_confused 107 = .ok (.goto 4, 3) := by decide +kernel
theorem dX8_confused_110 : decode cX8_confused 110 = .ok (.iconst 0, 1) := by decide +kernel
theorem dX8_confused_111 : decode cX8_confused 111 = .ok (.istore 5, 2) := by decide +kernel
theorem dX8_confused_113 : decode cX8_confused 113 = .ok (.iinc 6 1, 3) := by decide +kernel
theorem dX8_confused_116 : decode cX8_confused 116 = .ok (.goto (-70), 3) := by decide +kernel
theorem dX8_confused_119 : decode cX8_confused 119 = .ok (.iload_n 3, 1) := by decide +kernel
theorem dX8_confused_120 : decode cX8_confused 120 = .ok (.iload 5, 2) := by decide +kernel
theorem dX8_confused_122 : decode cX8_confused 122 = .ok (.ifCond .eq 7, 3) := by decide +kernel
theorem dX8_confused_125 : decode cX8_confused 125 = .ok (.iconst 1, 1) := by decide +kernel
theorem dX8_confused_126 : decode cX8_confused 126 = .ok (.goto 4, 3) := by decide +kernel
theorem dX8_confused_129 : decode cX8_confused 129 = .ok (.iconst 0, 1) := by decide +kernel
theorem dX8_confused_130 : decode cX8_confused 130 = .ok (.iadd, 1) := by decide +kernel
theorem dX8_confused_131 : decode cX8_confused 131 = .ok (.istore_n 3, 1) := by decide +kernel
theorem dX8_confused_132 : decode cX8_confused 132 = .ok (.iinc 4 1, 3) := by decide +kernel
theorem dX8_confused_135 : decode cX8_confused 135 = .ok (.goto (-104), 3) := by decide +kernel
theorem dX8_confused_138 : decode cX8_confused 138 = .ok (.iload_n 3, 1) := by decide +kernel
theorem dX8_confused_139 : decode cX8_confused 139 = .ok (.ireturn, 1) := by decide +kernel
set_option maxRecDepth 20000 in
theorem ggX8_between_X8_isTaught : GoodIn wsX8_between wsX8_isTaught := goodIn_r _ [5, 6, 7, 8, 4, 9, 41, 42, 43, 44, 45, 46, 47, 48, 49, 50, 51, 52, 53, 54, 55, 56, 57, 58, 59, 60, 61, 62, 63, 64, 65, 66, 67, 68, 69, 70, 71, 72] (by decide +kernel) (by decide +kernel)
set_option maxRecDepth 20000 in
theorem gX8_between_X8_isTaught : GoodIn wsX8_between (wsV RX8 140 RX8 yX8_isTaught wsX8_isTaught) := goodIn_app (goodIn_of _ (by decide +kernel)) ggX8_between_X8_isTaught
set_option maxRecDepth 20000 in
theorem ggX8_between_X8_betweenOf : GoodIn wsX8_between wsX8_betweenOf := goodIn_r _ [13, 14, 15, 16, 17, 18, 4, 19, 20, 21, 22, 23, 24, 25, 26, 27, 28, 29, 30, 31, 32, 33, 34, 35, 36, 37, 38, 39, 40, 41, 42, 43, 44, 45, 46, 47, 48, 49, 50, 51, 52, 53, 54, 55, 56, 57, 58, 59, 60, 61, 62, 63, 64, 65, 66, 67, 68, 69, 70, 71, 72] (by decide +kernel) (by decide +kernel)
set_option maxRecDepth 20000 in
theorem gX8_between_X8_betweenOf : GoodIn wsX8_between (wsV RX8 182 RX8 yX8_betweenOf wsX8_betweenOf) := goodIn_app (goodIn_of _ (by decide +kernel)) ggX8_between_X8_betweenOf
theorem dX8_between_0 : decode cX8_between 0 = .ok (.aload_n 0, 1) := by decide +kernel
theorem dX8_between_1 : decode cX8_between 1 = .ok (.iload_n 1, 1) := by decide +kernel
theorem dX8_between_2 : decode cX8_between 2 = .ok (.invokevirtual 140, 3) := by decide +kernel
theorem dX8_between_5 : decode cX8_between 5 = .ok (.ifCond .eq 20, 3) := by decide +kernel
theorem dX8_between_8 : decode cX8_between 8 = .ok (.aload_n 0, 1) := by decide +kernel
theorem dX8_between_9 : decode cX8_between 9 = .ok (.iload_n 2, 1) := by decide +kernel
theorem dX8_between_10 : decode cX8_between 10 = .ok (.invokevirtual 140, 3) := by decide +kernel
theorem dX8_between_13 : decode cX8_between 13 = .ok (.ifCond .eq 12, 3) := by decide +kernel
theorem dX8_between_16 : decode cX8_between 16 = .ok (.aload_n 0, 1) := by decide +kernel
theorem dX8_between_17 : decode cX8_between 17 = .ok (.iload_n 1, 1) := by decide +kernel
theorem dX8_between_18 : decode cX8_between 18 = .ok (.iload_n 2, 1) := by decide +kernel
theorem dX8_between_19 : decode cX8_between 19 = .ok (.invokevirtual 182, 3) := by decide +kernel
theorem dX8_between_22 : decode cX8_between 22 = .ok (.goto 4, 3) := by decide +kernel
theorem dX8_between_25 : decode cX8_between 25 = .ok (.iconst (-1), 1) := by decide +kernel
theorem dX8_between_26 : decode cX8_between 26 = .ok (.ireturn, 1) := by decide +kernel
set_option maxRecDepth 20000 in
theorem ggX8_command_X8_in : GoodIn wsX8_command wsX8_in := goodIn_r _ [12] (by decide +kernel) (by decide +kernel)
set_option maxRecDepth 20000 in
theorem gX8_command_X8_in : GoodIn wsX8_command (va_wsS RX8 88 yX8_in wsX8_in) := goodIn_app (goodIn_of _ (by decide +kernel)) ggX8_command_X8_in
theorem dX8_command_0 : decode cX8_command 0 = .ok (.iload_n 1, 1) := by decide +kernel
theorem dX8_command_1 : decode cX8_command 1 = .ok (.i2l, 1) := by decide +kernel
theorem dX8_command_2 : decode cX8_command 2 = .ok (.lconst 0, 1) := by decide +kernel
theorem dX8_command_3 : decode cX8_command 3 = .ok (.ldc2_w 186, 3) := by decide +kernel
theorem dX8_command_6 : decode cX8_command 6 = .ok (.invokestatic 88, 3) := by decide +kernel
theorem dX8_command_9 : decode cX8_command 9 = .ok (.ifCond .eq 109, 3) := by decide +kernel
theorem dX8_command_12 : decode cX8_command 12 = .ok (.iload_n 2, 1) := by decide +kernel
theorem dX8_command_13 : decode cX8_command 13 = .ok (.i2l, 1) := by decide +kernel
theorem dX8_command_14 : decode cX8_command 14 = .ok (.lconst 0, 1) := by decide +kernel
theorem dX8_command_15 : decode cX8_command 15 = .ok (.ldc2_w 129, 3) := by decide +kernel
theorem dX8_command_18 : decode cX8_command 18 = .ok (.invokestatic 88, 3) := by decide +kernel
theorem dX8_command_21 : decode cX8_command 21 = .ok (.ifCond .eq 97, 3) := by decide +kernel
theorem dX8_command_24 : decode cX8_command 24 = .ok (.iload_n 3, 1) := by decide +kernel
theorem dX8_command_25 : decode cX8_command 25 = .ok (.i2l, 1) := by decide +kernel
theorem dX8_command_26 : decode cX8_command 26 = .ok (.lconst 1, 1) := by decide +kernel
theorem dX8_command_27 : decode cX8_command 27 = .ok (.ldc2_w 131, 3) := by decide +kernel
theorem dX8_command_30 : decode cX8_command 30 = .ok (.invokestatic 88, 3) := by decide +kernel
theorem dX8_command_33 : decode cX8_command 33 = .ok (.ifCond .eq 85, 3) := by decide +kernel
theorem dX8_command_36 : decode cX8_command 36 = .ok (.iload 4, 2) := by decide +kernel
theorem dX8_command_38 : decode cX8_command 38 = .ok (.i2l, 1) := by decide +kernel
theorem dX8_command_39 : decode cX8_command 39 = .ok (.lconst 0, 1) := by decide +kernel
theorem dX8_command_40 : decode cX8_command 40 = .ok (.ldc2_w 129, 3) := by decide +kernel
theorem dX8_command_43 : decode cX8_command 43 = .ok (.invokestatic 88, 3) := by decide +kernel
theorem dX8_command_46 : decode cX8_command 46 = .ok (.ifCond .eq 72, 3) := by decide +kernel
theorem dX8_command_49 : decode cX8_command 49 = .ok (.iload 5, 2) := by decide +kernel
theorem dX8_command_51 : decode cX8_command 51 = .ok (.i2l, 1) := by decide +kernel
theorem dX8_command_52 : decode cX8_command 52 = .ok (.lconst 0, 1) := by decide +kernel
theorem dX8_command_53 : decode cX8_command 53 = .ok (.ldc2_w 129, 3) := by decide +kernel
theorem dX8_command_56 : decode cX8_command 56 = .ok (.invokestatic 88, 3) := by decide +kernel
theorem dX8_command_59 : decode cX8_command 59 = .ok (.ifCond .eq 59, 3) := by decide +kernel
theorem dX8_command_62 : decode cX8_command 62 = .ok (.iload 6, 2) := by decide +kernel
theorem dX8_command_64 : decode cX8_command 64 = .ok (.i2l, 1) := by decide +kernel
theorem dX8_command_65 : decode cX8_command 65 = .ok (.lconst 0, 1) := by decide +kernel
theorem dX8_command_66 : decode cX8_command 66 = .ok (.ldc2_w 129, 3) := by decide +kernel
theorem dX8_command_69 : decode cX8_command 69 = .ok (.invokestatic 88, 3) := by decide +kernel
theorem dX8_command_72 : decode cX8_command 72 = .ok (.ifCond .eq 46, 3) := by decide +kernel
theorem dX8_command_75 : decode cX8_command 75 = .ok (.iload 7, 2) := by decide +kernel
theorem dX8_command_77 : decode cX8_command 77 = .ok (.i2l, 1) := by decide +kernel
theorem dX8_command_78 : decode cX8_command 78 = .ok (.lconst 0, 1) := by decide +kernel
theorem dX8_command_79 : decode cX8_command 79 = .ok (.ldc2_w 129, 3) := by decide +kernel
theorem dX8_command_82 : decode cX8_command 82 = .ok (.invokestatic 88, 3) := by decide +kernel
theorem dX8_command_85 : decode cX8_command 85 = .ok (.ifCond .eq 33, 3) := by decide +kernel
theorem dX8_command_88 : decode cX8_command 88 = .ok (.iload_n 3, 1) := by decide +kernel
theorem dX8_command_89 : decode cX8_command 89 = .ok (.iconst 2, 1) := by decide +kernel
theorem dX8_command_90 : decode cX8_command 90 = .ok (.if_icmp .ge 8, 3) := by decide +kernel
theorem dX8_command_93 : decode cX8_command 93 = .ok (.iload 5, 2) := by decide +kernel
theorem dX8_command_95 : decode cX8_command 95 = .ok (.ifCond .ne 23, 3) := by decide +kernel
theorem dX8_command_98 : decode cX8_command 98 = .ok (.iload_n 3, 1) := by decide +kernel
theorem dX8_command_99 : decode cX8_command 99 = .ok (.iconst 3, 1) := by decide +kernel
theorem dX8_command_100 : decode cX8_command 100 = .ok (.if_icmp .ge 8, 3) := by decide +kernel
theorem dX8_command_103 : decode cX8_command 103 = .ok (.iload 6, 2) := by decide +kernel
theorem dX8_command_105 : decode cX8_command 105 = .ok (.ifCond .ne 13, 3) := by decide +kernel
theorem dX8_command_108 : decode cX8_command 108 = .ok (.iload_n 3, 1) := by decide +kernel
theorem dX8_command_109 : decode cX8_command 109 = .ok (.iconst 4, 1) := by decide +kernel
theorem dX8_command_110 : decode cX8_command 110 = .ok (.if_icmp .ge 10, 3) := by decide +kernel
theorem dX8_command_113 : decode cX8_command 113 = .ok (.iload 7, 2) := by decide +kernel
theorem dX8_command_115 : decode cX8_command 115 = .ok (.ifCond .eq 5, 3) := by decide +kernel
theorem dX8_command_118 : decode cX8_command 118 = .ok (.iconst (-1), 1) := by decide +kernel
theorem dX8_command_119 : decode cX8_command 119 = .ok (.ireturn, 1) := by decide +kernel
theorem dX8_command_120 : decode cX8_command 120 = .ok (.aload_n 0, 1) := by decide +kernel
theorem dX8_command_121 : decode cX8_command 121 = .ok (.getfield 188, 3) := by decide +kernel
theorem dX8_command_124 : decode cX8_command 124 = .ok (.bipush 10, 2) := by decide +kernel
theorem dX8_command_126 : decode cX8_command 126 = .ok (.if_icmp .ne 6, 3) := by decide +kernel
theorem dX8_command_129 : decode cX8_command 129 = .ok (.bipush (-3), 2) := by decide +kernel
theorem dX8_command_131 : decode cX8_command 131 = .ok (.ireturn, 1) := by decide +kernel
theorem dX8_command_132 : decode cX8_command 132 = .ok (.aload_n 0, 1) := by decide +kernel
theorem dX8_command_133 : decode cX8_command 133 = .ok (.getfield 63, 3) := by decide +kernel
theorem dX8_command_136 : decode cX8_command 136 = .ok (.aload_n 0, 1) := by decide +kernel
theorem dX8_command_137 : decode cX8_command 137 = .ok (.getfield 188, 3) := by decide +kernel
theorem dX8_command_140 : decode cX8_command 140 = .ok (.iload_n 1, 1) := by decide +kernel
theorem dX8_command_141 : decode cX8_command 141 = .ok (.iastore, 1) := by decide +kernel
theorem dX8_command_142 : decode cX8_command 142 = .ok (.aload_n 0, 1) := by decide +kernel
theorem dX8_command_143 : decode cX8_command 143 = .ok (.getfield 66, 3) := by decide +kernel
theorem dX8_command_146 : decode cX8_command 146 = .ok (.aload_n 0, 1) := by decide +kernel
theorem dX8_command_147 : decode cX8_command 147 = .ok (.getfield 188, 3) := by decide +kernel
theorem dX8_command_150 : decode cX8_command 150 = .ok (.iload_n 2, 1) := by decide +kernel
theorem dX8_command_151 : decode cX8_command 151 = .ok (.iastore, 1) := by decide +kernel
theorem dX8_command_152 : decode cX8_command 152 = .ok (.aload_n 0, 1) := by decide +kernel
theorem dX8_command_153 : decode cX8_command 153 = .ok (.getfield 69, 3) := by decide +kernel
theorem dX8_command_156 : decode cX8_command 156 = .ok (.aload_n 0, 1) := by decide +kernel
theorem dX8_command_157 : decode cX8_command 157 = .ok (.getfield 188, 3) := by decide +kernel
theorem dX8_command_160 : decode cX8_command 160 = .ok (.iload_n 3, 1) := by decide +kernel
theorem dX8_command_161 : decode cX8_command 161 = .ok (.iastore, 1) := by decide +kernel
theorem dX8_command_162 : decode cX8_command 162 = .ok (.aload_n 0, 1) := by decide +kernel
theorem dX8_command_163 : decode cX8_command 163 = .ok (.getfield 72, 3) := by decide +kernel
theorem dX8_command_166 : decode cX8_command 166 = .ok (.iconst 4, 1) := by decide +kernel
theorem dX8_command_167 : decode cX8_command 167 = .ok (.aload_n 0, 1) := by decide +kernel
theorem dX8_command_168 : decode cX8_command 168 = .ok (.getfield 188, 3) := by decide +kernel
theorem dX8_command_171 : decode cX8_command 171 = .ok (.imul, 1) := by decide +kernel
theorem dX8_command_172 : decode cX8_command 172 = .ok (.iload 4, 2) := by decide +kernel
theorem dX8_command_174 : decode cX8_command 174 = .ok (.iastore, 1) := by decide +kernel
theorem dX8_command_175 : decode cX8_command 175 = .ok (.aload_n 0, 1) := by decide +kernel
theorem dX8_command_176 : decode cX8_command 176 = .ok (.getfield 72, 3) := by decide +kernel
theorem dX8_command_179 : decode cX8_command 179 = .ok (.iconst 4, 1) := by decide +kernel
theorem dX8_command_180 : decode cX8_command 180 = .ok (.aload_n 0, 1) := by decide +kernel
theorem dX8_command_181 : decode cX8_command 181 = .ok (.getfield 188, 3) := by decide +kernel
theorem dX8_command_184 : decode cX8_command 184 = .ok (.imul, 1) := by decide +kernel
theorem dX8_command_185 : decode cX8_command 185 = .ok (.iconst 1, 1) := by decide +kernel
theorem dX8_command_186 : decode cX8_command 186 = .ok (.iadd, 1) := by decide +kernel
theorem dX8_command_187 : decode cX8_command 187 = .ok (.iload 5, 2) := by decide +kernel
theorem dX8_command_189 : decode cX8_command 189 = .ok (.iastore, 1) := by decide +kernel
theorem dX8_command_190 : decode cX8_command 190 = .ok (.aload_n 0, 1) := by decide +kernel
theorem dX8_command_191 : decode cX8_command 191 = .ok (.getfield 72, 3) := by decide +kernel
theorem dX8_command_194 : decode cX8_command 194 = .ok (.iconst 4, 1) := by decide +kernel
theorem dX8_command_195 : decode cX8_command 195 = .ok (.aload_n 0, 1) := by decide +kernel
theorem dX8_command_196 : decode cX8_command 196 = .ok (.getfield 188, 3) := by decide +kernel
theorem dX8_command_199 : decode cX8_command 199 = .ok (.imul, 1) := by decide +kernel
theorem dX8_command_200 : decode cX8_command 200 = .ok (.iconst 2, 1) := by decide +kernel
theorem dX8_command_201 : decode cX8_command 201 = .ok (.iadd, 1) := by decide +kernel
theorem dX8_command_202 : decode cX8_command 202 = .ok (.iload 6, 2) := by decide +kernel
theorem dX8_command_204 : decode cX8_command 204 = .ok (.iastore, 1) := by decide +kernel
theorem dX8_command_205 : decode cX8_command 205 = .ok (.aload_n 0, 1) := by decide +kernel
theorem dX8_command_206 : decode cX8_command 206 = .ok (.getfield 72, 3) := by decide +kernel
theorem dX8_command_209 : decode cX8_command 209 = .ok (.iconst 4, 1) := by decide +kernel
theorem dX8_command_210 : decode cX8_command 210 = .ok (.aload_n 0, 1) := by decide +kernel
theorem dX8_command_211 : decode cX8_command 211 = .ok (.getfield 188, 3) := by decide +kernel
theorem dX8_command_214 : decode cX8_command 214 = .ok (.imul, 1) := by decide +kernel
theorem dX8_command_215 : decode cX8_command 215 = .ok (.iconst 3, 1) := by decide +kernel
theorem dX8_command_216 : decode cX8_command 216 = .ok (.iadd, 1) := by decide +kernel
theorem dX8_command_217 : decode cX8_command 217 = .ok (.iload 7, 2) := by decide +kernel
theorem dX8_command_219 : decode cX8_command 219 = .ok (.iastore, 1) := by decide +kernel
theorem dX8_command_220 : decode cX8_command 220 = .ok (.aload_n 0, 1) := by decide +kernel
theorem dX8_command_221 : decode cX8_command 221 = .ok (.dup, 1) := by decide +kernel
theorem dX8_command_222 : decode cX8_command 222 = .ok (.getfield 188, 3) := by decide +kernel
theorem dX8_command_225 : decode cX8_command 225 = .ok (.iconst 1, 1) := by decide +kernel
theorem dX8_command_226 : decode cX8_command 226 = .ok (.iadd, 1) := by decide +kernel
theorem dX8_command_227 : decode cX8_command 227 = .ok (.putfield 188, 3) := by decide +kernel
theorem dX8_command_230 : decode cX8_command 230 = .ok (.aload_n 0, 1) := by decide +kernel
theorem dX8_command_231 : decode cX8_command 231 = .ok (.getfield 188, 3) := by decide +kernel
theorem dX8_command_234 : decode cX8_command 234 = .ok (.iconst 1, 1) := by decide +kernel
theorem dX8_command_235 : decode cX8_command 235 = .ok (.isub, 1) := by decide +kernel
theorem dX8_command_236 : decode cX8_command 236 = .ok (.ireturn, 1) := by decide +kernel
theorem dX8_stands_0 : decode cX8_stands 0 = .ok (.iload_n 2, 1) := by decide +kernel
theorem dX8_stands_1 : decode cX8_stands 1 = .ok (.aload_n 0, 1) := by decide +kernel
theorem dX8_stands_2 : decode cX8_stands 2 = .ok (.getfield 69, 3) := by decide +kernel
theorem dX8_stands_5 : decode cX8_stands 5 = .ok (.iload_n 1, 1) := by decide +kernel
theorem dX8_stands_6 : decode cX8_stands 6 = .ok (.iaload, 1) := by decide +kernel
theorem dX8_stands_7 : decode cX8_stands 7 = .ok (.iadd, 1) := by decide +kernel
theorem dX8_stands_8 : decode cX8_stands 8 = .ok (.aload_n 0, 1) := by decide +kernel
theorem dX8_stands_9 : decode cX8_stands 9 = .ok (.getfield 179, 3) := by decide +kernel
theorem dX8_stands_12 : decode cX8_stands 12 = .ok (.if_icmp .gt 7, 3) := by decide +kernel
theorem dX8_stands_15 : decode cX8_stands 15 = .ok (.iconst 1, 1) := by decide +kernel
theorem dX8_stands_16 : decode cX8_stands 16 = .ok (.goto 4, 3) := by decide +kernel
theorem dX8_stands_19 : decode cX8_stands 19 = .ok (.iconst 0, 1) := by decide +kernel
theorem dX8_stands_20 : decode cX8_stands 20 = .ok (.istore_n 3, 1) := by decide +kernel
theorem dX8_stands_21 : decode cX8_stands 21 = .ok (.iconst 0, 1) := by decide +kernel
theorem dX8_stands_22 : decode cX8_stands 22 = .ok (.istore 4, 2) := by decide +kernel
theorem dX8_stands_24 : decode cX8_stands 24 = .ok (.iload 4, 2) := by decide +kernel
theorem dX8_stands_26 : decode cX8_stands 26 = .ok (.aload_n 0, 1) := by decide +kernel
theorem dX8_stands_27 : decode cX8_stands 27 = .ok (.getfield 69, 3) := by decide +kernel
theorem dX8_stands_30 : decode cX8_stands 30 = .ok (.iload_n 1, 1) := by decide +kernel
theorem dX8_stands_31 : decode cX8_stands 31 = .ok (.iaload, 1) := by decide +kernel
theorem dX8_stands_32 : decode cX8_stands 32 = .ok (.if_icmp .ge 42, 3) := by decide +kernel
theorem dX8_stands_35 : decode cX8_stands 35 = .ok (.iload_n 3, 1) := by decide +kernel
theorem dX8_stands_36 : decode cX8_stands 36 = .ok (.ifCond .eq 38, 3) := by decide +kernel
theorem dX8_stands_39 : decode cX8_stands 39 = .ok (.aload_n 0, 1) := by decide +kernel
theorem dX8_stands_40 : decode cX8_stands 40 = .ok (.getfield 60, 3) := by decide +kernel
theorem dX8_stands_43 : decode cX8_stands 43 = .ok (.iload_n 2, 1) := by decide +kernel
theorem dX8_stands_44 : decode cX8_stands 44 = .ok (.iload 4, 2) := by decide +kernel
theorem dX8_stands_46 : decode cX8_stands 46 = .ok (.iadd, 1) := by decide +kernel
theorem dX8_stands_47 : decode cX8_stands 47 = .ok (.iaload, 1) := by decide +kernel
theorem dX8_stands_48 : decode cX8_stands 48 = .ok (.aload_n 0, 1) := by decide +kernel
theorem dX8_stands_49 : decode cX8_stands 49 = .ok (.getfield 72, 3) := by decide +kernel
theorem dX8_stands_52 : decode cX8_stands 52 = .ok (.iconst 4, 1) := by decide +kernel
theorem dX8_stands_53 : decode cX8_stands 53 = .ok (.iload_n 1, 1) := by decide +kernel
theorem dX8_stands_54 : decode cX8_stands 54 = .ok (.imul, 1) := by decide +kernel
theorem dX8_stands_55 : decode cX8_stands 55 = .ok (.iload 4, 2) := by decide +kernel
theorem dX8_stands_57 : decode cX8_stands 57 = .ok (.iadd, 1) := by decide +kernel
theorem dX8_stands_58 : decode cX8_stands 58 = .ok (.iaload, 1) := by decide +kernel
theorem dX8_stands_59 : decode cX8_stands 59 = .ok (.if_icmp .ne 7, 3) := by decide +kernel
theorem dX8_stands_62 : decode cX8_stands 62 = .ok (.iconst 1, 1) := by decide +kernel
theorem dX8_stands_63 : decode cX8_stands 63 = .ok (.goto 4, 3) := by decide +kernel
theorem dX8_stands_66 : decode cX8_stands 66 = .ok (.iconst 0, 1) := by decide +kernel
theorem dX8_stands_67 : decode cX8_stands 67 = .ok (.istore_n 3, 1) := by decide +kernel
theorem dX8_stands_68 : decode cX8_stands 68 = .ok (.iinc 4 1, 3) := by decide +kernel
theorem dX8_stands_71 : decode cX8_stands 71 = .ok (.goto (-47), 3) := by decide +kernel
theorem dX8_stands_74 : decode cX8_stands 74 = .ok (.iload_n 3, 1) := by decide +kernel
theorem dX8_stands_75 : decode cX8_stands 75 = .ok (.ireturn, 1) := by decide +kernel
set_option maxRecDepth 20000 in
theorem ggX8_commandAt_X8_stands : GoodIn wsX8_commandAt wsX8_stands := goodIn_r _ [9, 3, 10, 11, 12, 13, 14, 15, 16, 17, 18, 19, 20, 21, 22, 23, 24, 25, 26, 27, 28, 29, 30, 31, 32, 33, 34, 35, 36, 37, 38, 39, 40, 41, 42, 43, 44] (by decide +kernel) (by decide +kernel)
set_option maxRecDepth 20000 in
theorem gX8_commandAt_X8_stands : GoodIn wsX8_commandAt (wsV RX8 191 RX8 yX8_stands wsX8_stands) := goodIn_app (goodIn_of _ (by decide +kernel)) ggX8_commandAt_X8_stands
theorem dX8_commandAt_0 : decode cX8_commandAt 0 = .ok (.bipush (-4), 2) := by decide +kernel
theorem dX8_commandAt_2 : decode cX8_commandAt 2 = .ok (.istore_n 3, 1) := by decide +kernel
theorem dX8_commandAt_3 : decode cX8_commandAt 3 = .ok (.iconst 0, 1) := by decide +kernel
theorem dX8_commandAt_4 : decode cX8_commandAt 4 = .ok (.istore 4, 2) := by decide +kernel
theorem dX8_commandAt_6 : decode cX8_commandAt 6 = .ok (.iload 4, 2) := by decide +kernel
theorem dX8_commandAt_8 : decode cX8_commandAt 8 = .ok (.aload_n 0, 1) := by decide +kernel
theorem dX8_commandAt_9 : decode cX8_commandAt 9 = .ok (.getfield 188, 3) := by decide +kernel
theorem dX8_commandAt_12 : decode cX8_commandAt 12 = .ok (.if_icmp .ge 97, 3) := by decide +kernel
theorem dX8_commandAt_15 : decode cX8_commandAt 15 = .ok (.aload_n 0, 1) := by decide +kernel
theorem dX8_commandAt_16 : decode cX8_commandAt 16 = .ok (.getfield 63, 3) := by decide +kernel
theorem dX8_commandAt_19 : decode cX8_commandAt 19 = .ok (.iload 4, 2) := by decide +kernel
theorem dX8_commandAt_21 : decode cX8_commandAt 21 = .ok (.iaload, 1) := by decide +kernel
theorem dX8_commandAt_22 : decode cX8_commandAt 22 = .ok (.iload_n 1, 1) := by decide +kernel
theorem dX8_commandAt_23 : decode cX8_commandAt 23 = .ok (.if_icmp .eq 13, 3) := by decide +kernel
theorem dX8_commandAt_26 : decode cX8_commandAt 26 = .ok (.aload_n 0, 1) := by decide +kernel
theorem dX8_commandAt_27 : decode cX8_commandAt 27 = .ok (.getfield 63, 3) := by decide +kernel
theorem dX8_commandAt_30 : decode cX8_commandAt 30 = .ok (.iload 4, 2) := by decide +kernel
theorem dX8_commandAt_32 : decode cX8_commandAt 32 = .ok (.iaload, 1) := by decide +kernel
theorem dX8_commandAt_33 : decode cX8_commandAt 33 = .ok (.ifCond .ne 70, 3) := by decide +kernel
theorem dX8_commandAt_36 : decode cX8_commandAt 36 = .ok (.aload_n 0, 1) := by decide +kernel
theorem dX8_commandAt_37 : decode cX8_commandAt 37 = .ok (.iload 4, 2) := by decide +kernel
theorem dX8_commandAt_39 : decode cX8_commandAt 39 = .ok (.iload_n 2, 1) := by decide +kernel
theorem dX8_commandAt_40 : decode cX8_commandAt 40 = .ok (.invokevirtual 191, 3) := by decide +kernel
theorem dX8_commandAt_43 : decode cX8_commandAt 43 = .ok (.ifCond .eq 60, 3) := by decide +kernel
theorem dX8_commandAt_46 : decode cX8_commandAt 46 = .ok (.iload_n 3, 1) := by decide +kernel
theorem dX8_commandAt_47 : decode cX8_commandAt 47 = .ok (.bipush (-4), 2) := by decide +kernel
theorem dX8_commandAt_49 : decode cX8_commandAt 49 = .ok (.if_icmp .eq 51, 3) := by decide +kernel
theorem dX8_commandAt_52 : decode cX8_commandAt 52 = .ok (.aload_n 0, 1) := by decide +kernel
theorem dX8_commandAt_53 : decode cX8_commandAt 53 = .ok (.getfield 69, 3) := by decide +kernel
theorem dX8_commandAt_56 : decode cX8_commandAt 56 = .ok (.iload 4, 2) := by decide +kernel
theorem dX8_commandAt_58 : decode cX8_commandAt 58 = .ok (.iaload, 1) := by decide +kernel
theorem dX8_commandAt_59 : decode cX8_commandAt 59 = .ok (.aload_n 0, 1) := by decide +kernel
theorem dX8_commandAt_60 : decode cX8_commandAt 60 = .ok (.getfield 69, 3) := by decide +kernel
theorem dX8_commandAt_63 : decode cX8_commandAt 63 = .ok (.iload_n 3, 1) := by decide +kernel
theorem dX8_commandAt_64 : decode cX8_commandAt 64 = .ok (.iaload, 1) := by decide +kernel
theorem dX8_commandAt_65 : decode cX8_commandAt 65 = .ok (.if_icmp .gt 35, 3) := by decide +kernel
theorem dX8_commandAt_68 : decode cX8_commandAt 68 = .ok (.aload_n 0, 1) := by decide +kernel
theorem dX8_commandAt_69 : decode cX8_commandAt 69 = .ok (.getfield 69, 3) := by decide +kernel
theorem dX8_commandAt_72 : decode cX8_commandAt 72 = .ok (.iload 4, 2) := by decide +kernel
theorem dX8_commandAt_74 : decode cX8_commandAt 74 = .ok (.iaload, 1) := by decide +kernel
theorem dX8_commandAt_75 : decode cX8_commandAt 75 = .ok (.aload_n 0, 1) := by decide +kernel
theorem dX8_commandAt_76 : decode cX8_commandAt 76 = .ok (.getfield 69, 3) := by decide +kernel
theorem dX8_commandAt_79 : decode cX8_commandAt 79 = .ok (.iload_n 3, 1) := by decide +kernel
theorem dX8_commandAt_80 : decode cX8_commandAt 80 = .ok (.iaload, 1) := by decide +kernel
theorem dX8_commandAt_81 : decode cX8_commandAt 81 = .ok (.if_icmp .ne 22, 3) := by decide +kernel
theorem dX8_commandAt_84 : decode cX8_commandAt 84 = .ok (.aload_n 0, 1) := by decide +kernel
theorem dX8_commandAt_85 : decode cX8_commandAt 85 = .ok (.getfield 66, 3) := by decide +kernel
theorem dX8_commandAt_88 : decode cX8_commandAt 88 = .ok (.iload 4, 2) := by decide +kernel
theorem dX8_commandAt_90 : decode cX8_commandAt 90 = .ok (.iaload, 1) := by decide +kernel
theorem dX8_commandAt_91 : decode cX8_commandAt 91 = .ok (.aload_n 0, 1) := by decide +kernel
theorem dX8_commandAt_92 : decode cX8_commandAt 92 = .ok (.getfield 66, 3) := by decide +kernel
theorem dX8_commandAt_95 : decode cX8_commandAt 95 = .ok (.iload_n 3, 1) := by decide +kernel
theorem dX8_commandAt_96 : decode cX8_commandAt 96 = .ok (.iaload, 1) := by decide +kernel
theorem dX8_commandAt_97 : decode cX8_commandAt 97 = .ok (.if_icmp .le 6, 3) := by decide +kernel
theorem dX8_commandAt_100 : decode cX8_commandAt 100 = .ok (.iload 4, 2) := by decide +kernel
theorem dX8_commandAt_102 : decode cX8_commandAt 102 = .ok (.istore_n 3, 1) := by decide +kernel
theorem dX8_commandAt_103 : decode cX8_commandAt 103 = .ok (.iinc 4 1, 3) := by decide +kernel
theorem dX8_commandAt_106 : decode cX8_commandAt 106 = .ok (.goto (-100), 3) := by decide +kernel
theorem dX8_commandAt_109 : decode cX8_commandAt 109 = .ok (.iload_n 3, 1) := by decide +kernel
theorem dX8_commandAt_110 : decode cX8_commandAt 110 = .ok (.ireturn, 1) := by decide +kernel
set_option maxRecDepth 20000 in
theorem ggX8_parsed_X8_commandAt : GoodIn wsX8_parsed wsX8_commandAt := goodIn_r _ [9, 10, 11, 4, 12, 13, 14, 15, 8, 16, 3, 17, 18, 19, 20, 21, 22, 23, 24, 25, 26, 27, 28, 29, 30, 31, 32, 33, 34, 35, 36, 37, 38, 39, 40, 41, 42, 43, 44, 45, 46, 47, 48, 49, 50] (by decide +kernel) (by decide +kernel)
set_option maxRecDepth 20000 in
theorem gX8_parsed_X8_commandAt : GoodIn wsX8_parsed (wsV RX8 201 RX8 yX8_commandAt wsX8_commandAt) := goodIn_app (goodIn_of _ (by decide +kernel)) ggX8_parsed_X8_commandAt
theorem dX8_parsed_0 : decode cX8_parsed 0 = .ok (.iconst 0, 1) := by decide +kernel
theorem dX8_parsed_1 : decode cX8_parsed 1 = .ok (.istore_n 3, 1) := by decide +kernel
theorem dX8_parsed_2 : decode cX8_parsed 2 = .ok (.iconst 0, 1) := by decide +kernel
theorem dX8_parsed_3 : decode cX8_parsed 3 = .ok (.istore 4, 2) := by decide +kernel
theorem dX8_parsed_5 : decode cX8_parsed 5 = .ok (.aload_n 0, 1) := by decide +kernel
theorem dX8_parsed_6 : decode cX8_parsed 6 = .ok (.bipush (-4), 2) := by decide +kernel
theorem dX8_parsed_8 : decode cX8_parsed 8 = .ok (.putfield 195, 3) := by decide +kernel
theorem dX8_parsed_11 : decode cX8_parsed 11 = .ok (.aload_n 0, 1) := by decide +kernel
theorem dX8_parsed_12 : decode cX8_parsed 12 = .ok (.bipush (-4), 2) := by decide +kernel
theorem dX8_parsed_14 : decode cX8_parsed 14 = .ok (.putfield 198, 3) := by decide +kernel
theorem dX8_parsed_17 : decode cX8_parsed 17 = .ok (.iload 4, 2) := by decide +kernel
theorem dX8_parsed_19 : decode cX8_parsed 19 = .ok (.aload_n 0, 1) := by decide +kernel
theorem dX8_parsed_20 : decode cX8_parsed 20 = .ok (.getfield 179, 3) := by decide +kernel
theorem dX8_parsed_23 : decode cX8_parsed 23 = .ok (.if_icmp .ge 60, 3) := by decide +kernel
theorem dX8_parsed_26 : decode cX8_parsed 26 = .ok (.aload_n 0, 1) := by decide +kernel
theorem dX8_parsed_27 : decode cX8_parsed 27 = .ok (.iload_n 1, 1) := by decide +kernel
theorem dX8_parsed_28 : decode cX8_parsed 28 = .ok (.iload 4, 2) := by decide +kernel
theorem dX8_parsed_30 : decode cX8_parsed 30 = .ok (.invokevirtual 201, 3) := by decide +kernel
theorem dX8_parsed_33 : decode cX8_parsed 33 = .ok (.istore 5, 2) := by decide +kernel
theorem dX8_parsed_35 : decode cX8_parsed 35 = .ok (.iload 5, 2) := by decide +kernel
theorem dX8_parsed_37 : decode cX8_parsed 37 = .ok (.bipush (-4), 2) := by decide +kernel
theorem dX8_parsed_39 : decode cX8_parsed 39 = .ok (.if_icmp .ne 9, 3) := by decide +kernel
theorem dX8_parsed_42 : decode cX8_parsed 42 = .ok (.iinc 4 1, 3) := by decide +kernel
theorem dX8_parsed_45 : decode cX8_parsed 45 = .ok (.goto 35, 3) := by decide +kernel
theorem dX8_parsed_48 : decode cX8_parsed 48 = .ok (.iload_n 3, 1) := by decide +kernel
theorem dX8_parsed_49 : decode cX8_parsed 49 = .ok (.iload_n 2, 1) := by decide +kernel
theorem dX8_parsed_50 : decode cX8_parsed 50 = .ok (.if_icmp .ne 15, 3) := by decide +kernel
theorem dX8_parsed_53 : decode cX8_parsed 53 = .ok (.aload_n 0, 1) := by decide +kernel
theorem dX8_parsed_54 : decode cX8_parsed 54 = .ok (.iload 5, 2) := by decide +kernel
theorem dX8_parsed_56 : decode cX8_parsed 56 = .ok (.putfield 195, 3) := by decide +kernel
theorem dX8_parsed_59 : decode cX8_parsed 59 = .ok (.aload_n 0, 1) := by decide +kernel
theorem dX8_parsed_60 : decode cX8_parsed 60 = .ok (.iload 4, 2) := by decide +kernel
theorem dX8_parsed_62 : decode cX8_parsed 62 = .ok (.putfield 198, 3) := by decide +kernel
theorem dX8_parsed_65 : decode cX8_parsed 65 = .ok (.iinc 3 1, 3) := by decide +kernel
theorem dX8_parsed_68 : decode cX8_parsed 68 = .ok (.iload 4, 2) := by decide +kernel
theorem dX8_parsed_70 : decode cX8_parsed 70 = .ok (.aload_n 0, 1) := by decide +kernel
theorem dX8_parsed_71 : decode cX8_parsed 71 = .ok (.getfield 69, 3) := by decide +kernel
theorem dX8_parsed_74 : decode cX8_parsed 74 = .ok (.iload 5, 2) := by decide +kernel
theorem dX8_parsed_76 : decode cX8_parsed 76 = .ok (.iaload, 1) := by decide +kernel
theorem dX8_parsed_77 : decode cX8_parsed 77 = .ok (.iadd, 1) := by decide +kernel
theorem dX8_parsed_78 : decode cX8_parsed 78 = .ok (.istore 4, 2) := by decide +kernel
theorem dX8_parsed_80 : decode cX8_parsed 80 = .ok (.goto (-63), 3) := by decide +kernel
theorem dX8_parsed_83 : decode cX8_parsed 83 = .ok (.iload_n 3, 1) := by decide +kernel
theorem dX8_parsed_84 : decode cX8_parsed 84 = .ok (.ireturn, 1) := by decide +kernel
set_option maxRecDepth 20000 in
theorem ggX8_parse_X8_in : GoodIn wsX8_parse wsX8_in := goodIn_r _ [5] (by decide +kernel) (by decide +kernel)
set_option maxRecDepth 20000 in
theorem gX8_parse_X8_in : GoodIn wsX8_parse (va_wsS RX8 88 yX8_in wsX8_in) := goodIn_app (goodIn_of _ (by decide +kernel)) ggX8_parse_X8_in
set_option maxRecDepth 20000 in
theorem ggX8_parse_X8_parsed : GoodIn wsX8_parse wsX8_parsed := goodIn_r _ [9, 10, 11, 12, 13, 14, 15, 16, 4, 17, 18, 19, 20, 21, 22, 23, 24, 25, 26, 27, 28, 29, 30, 31, 32, 33, 34, 35, 36, 37, 38, 39, 40, 41, 42, 43, 44, 45, 46, 47, 48, 49, 50, 51, 52, 53, 54, 55, 56, 57, 58] (by decide +kernel) (by decide +kernel)
set_option maxRecDepth 20000 in
theorem gX8_parse_X8_parsed : GoodIn wsX8_parse (wsV RX8 204 RX8 yX8_parsed wsX8_parsed) := goodIn_app (goodIn_of _ (by decide +kernel)) ggX8_parse_X8_parsed
theorem dX8_parse_0 : decode cX8_parse 0 = .ok (.iload_n 1, 1) := by decide +kernel
theorem dX8_parse_1 : decode cX8_parse 1 = .ok (.i2l, 1) := by decide +kernel
theorem dX8_parse_2 : decode cX8_parse 2 = .ok (.lconst 0, 1) := by decide +kernel
theorem dX8_parse_3 : decode cX8_parse 3 = .ok (.ldc2_w 186, 3) := by decide +kernel
theorem dX8_parse_6 : decode cX8_parse 6 = .ok (.invokestatic 88, 3) := by decide +kernel
theorem dX8_parse_9 : decode cX8_parse 9 = .ok (.ifCond .eq 13, 3) := by decide +kernel
theorem dX8_parse_12 : decode cX8_parse 12 = .ok (.aload_n 0, 1) := by decide +kernel
theorem dX8_parse_13 : decode cX8_parse 13 = .ok (.iload_n 1, 1) := by decide +kernel
theorem dX8_parse_14 : decode cX8_parse 14 = .ok (.bipush (-4), 2) := by decide +kernel
theorem dX8_parse_16 : decode cX8_parse 16 = .ok (.invokevirtual 204, 3) := by decide +kernel
theorem dX8_parse_19 : decode cX8_parse 19 = .ok (.goto 4, 3) := by decide +kernel
theorem dX8_parse_22 : decode cX8_parse 22 = .ok (.iconst (-1), 1) := by decide +kernel
theorem dX8_parse_23 : decode cX8_parse 23 = .ok (.ireturn, 1) := by decide +kernel
set_option maxRecDepth 20000 in
theorem ggX8_found_X8_in : GoodIn wsX8_found wsX8_in := goodIn_r _ [7] (by decide +kernel) (by decide +kernel)
set_option maxRecDepth 20000 in
theorem gX8_found_X8_in : GoodIn wsX8_found (va_wsS RX8 88 yX8_in wsX8_in) := goodIn_app (goodIn_of _ (by decide +kernel)) ggX8_found_X8_in
set_option maxRecDepth 20000 in
theorem ggX8_found_X8_parsed : GoodIn wsX8_found wsX8_parsed := goodIn_r _ [11, 2, 3, 12, 13, 14, 15, 16, 6, 17, 18, 19, 20, 21, 22, 23, 24, 25, 26, 27, 28, 29, 30, 31, 32, 33, 34, 35, 36, 37, 38, 39, 40, 41, 42, 43, 44, 45, 46, 47, 48, 49, 50, 51, 52, 53, 54, 55, 56, 57, 58] (by decide +kernel) (by decide +kernel)
set_option maxRecDepth 20000 in
theorem gX8_found_X8_parsed : GoodIn wsX8_found (wsV RX8 204 RX8 yX8_parsed wsX8_parsed) := goodIn_app (goodIn_of _ (by decide +kernel)) ggX8_found_X8_parsed
theorem dX8_found_0 : decode cX8_found 0 = .ok (.iload_n 1, 1) := by decide +kernel
theorem dX8_found_1 : decode cX8_found 1 = .ok (.i2l, 1) := by decide +kernel
theorem dX8_found_2 : decode cX8_found 2 = .ok (.lconst 0, 1) := by decide +kernel
theorem dX8_found_3 : decode cX8_found 3 = .ok (.ldc2_w 186, 3) := by decide +kernel
theorem dX8_found_6 : decode cX8_found 6 = .ok (.invokestatic 88, 3) := by decide +kernel
theorem dX8_found_9 : decode cX8_found 9 = .ok (.ifCond .eq 17, 3) := by decide +kernel
theorem dX8_found_12 : decode cX8_found 12 = .ok (.iload_n 2, 1) := by decide +kernel
theorem dX8_found_13 : decode cX8_found 13 = .ok (.ifCond .lt 13, 3) := by decide +kernel
theorem dX8_found_16 : decode cX8_found 16 = .ok (.iload_n 3, 1) := by decide +kernel
theorem dX8_found_17 : decode cX8_found 17 = .ok (.i2l, 1) := by decide +kernel
theorem dX8_found_18 : decode cX8_found 18 = .ok (.lconst 0, 1) := by decide +kernel
theorem dX8_found_19 : decode cX8_found 19 = .ok (.lconst 1, 1) := by decide +kernel
theorem dX8_found_20 : decode cX8_found 20 = .ok (.invokestatic 88, 3) := by decide +kernel
theorem dX8_found_23 : decode cX8_found 23 = .ok (.ifCond .ne 5, 3) := by decide +kernel
theorem dX8_found_26 : decode cX8_found 26 = .ok (.iconst (-1), 1) := by decide +kernel
theorem dX8_found_27 : decode cX8_found 27 = .ok (.ireturn, 1) := by decide +kernel
theorem dX8_found_28 : decode cX8_found 28 = .ok (.aload_n 0, 1) := by decide +kernel
theorem dX8_found_29 : decode cX8_found 29 = .ok (.iload_n 1, 1) := by decide +kernel
theorem dX8_found_30 : decode cX8_found 30 = .ok (.iload_n 2, 1) := by decide +kernel
theorem dX8_found_31 : decode cX8_found 31 = .ok (.invokevirtual 204, 3) := by decide +kernel
theorem dX8_found_34 : decode cX8_found 34 = .ok (.pop, 1) := by decide +kernel
theorem dX8_found_35 : decode cX8_found 35 = .ok (.iload_n 3, 1) := by decide +kernel
theorem dX8_found_36 : decode cX8_found 36 = .ok (.ifCond .ne 10, 3) := by decide +kernel
theorem dX8_found_39 : decode cX8_found 39 = .ok (.aload_n 0, 1) := by decide +kernel
theorem dX8_found_40 : decode cX8_found 40 = .ok (.getfield 195, 3) := by decide +kernel
theorem dX8_found_43 : decode cX8_found 43 = .ok (.goto 7, 3) := by decide +kernel
theorem dX8_found_46 : decode cX8_found 46 = .ok (.aload_n 0, 1) := by decide +kernel
theorem dX8_found_47 : decode cX8_found 47 = .ok (.getfield 198, 3) := by decide +kernel
theorem dX8_found_50 : decode cX8_found 50 = .ok (.ireturn, 1) := by decide +kernel
theorem dX8_isHidden_0 : decode cX8_isHidden 0 = .ok (.iload_n 1, 1) := by decide +kernel
theorem dX8_isHidden_1 : decode cX8_isHidden 1 = .ok (.iload_n 2, 1) := by decide +kernel
theorem dX8_isHidden_2 : decode cX8_isHidden 2 = .ok (.if_icmp .eq 46, 3) := by decide +kernel
theorem dX8_isHidden_5 : decode cX8_isHidden 5 = .ok (.aload_n 0, 1) := by decide +kernel
theorem dX8_isHidden_6 : decode cX8_isHidden 6 = .ok (.getfield 69, 3) := by decide +kernel
theorem dX8_isHidden_9 : decode cX8_isHidden 9 = .ok (.iload_n 1, 1) := by decide +kernel
theorem dX8_isHidden_10 : decode cX8_isHidden 10 = .ok (.iaload, 1) := by decide +kernel
theorem dX8_isHidden_11 : decode cX8_isHidden 11 = .ok (.aload_n 0, 1) := by decide +kernel
theorem dX8_isHidden_12 : decode cX8_isHidden 12 = .ok (.getfield 69, 3) := by decide +kernel
theorem dX8_isHidden_15 : decode cX8_isHidden 15 = .ok (.iload_n 2, 1) := by decide +kernel
theorem dX8_isHidden_16 : decode cX8_isHidden 16 = .ok (.iaload, 1) := by decide +kernel
theorem dX8_isHidden_17 : decode cX8_isHidden 17 = .ok (.if_icmp .ne 31, 3) := by decide +kernel
theorem dX8_isHidden_20 : decode cX8_isHidden 20 = .ok (.aload_n 0, 1) := by decide +kernel
theorem dX8_isHidden_21 : decode cX8_isHidden 21 = .ok (.getfield 63, 3) := by decide +kernel
theorem dX8_isHidden_24 : decode cX8_isHidden 24 = .ok (.iload_n 2, 1) := by decide +kernel
theorem dX8_isHidden_25 : decode cX8_isHidden 25 = .ok (.iaload, 1) := by decide +kernel
theorem dX8_isHidden_26 : decode cX8_isHidden 26 = .ok (.aload_n 0, 1) := by decide +kernel
theorem dX8_isHidden_27 : decode cX8_isHidden 27 = .ok (.getfield 63, 3) := by decide +kernel
theorem dX8_isHidden_30 : decode cX8_isHidden 30 = .ok (.iload_n 1, 1) := by decide +kernel
theorem dX8_isHidden_31 : decode cX8_isHidden 31 = .ok (.iaload, 1) := by decide +kernel
theorem dX8_isHidden_32 : decode cX8_isHidden 32 = .ok (.if_icmp .eq 12, 3) := by decide +kernel
theorem dX8_isHidden_35 : decode cX8_isHidden 35 = .ok (.aload_n 0, 1) := by decide +kernel
theorem dX8_isHidden_36 : decode cX8_isHidden 36 = .ok (.getfield 63, 3) := by decide +kernel
theorem dX8_isHidden_39 : decode cX8_isHidden 39 = .ok (.iload_n 2, 1) := by decide +kernel
theorem dX8_isHidden_40 : decode cX8_isHidden 40 = .ok (.iaload, 1) := by decide +kernel
theorem dX8_isHidden_41 : decode cX8_isHidden 41 = .ok (.ifCond .ne 7, 3) := by decide +kernel
theorem dX8_isHidden_44 : decode cX8_isHidden 44 = .ok (.iconst 1, 1) := by decide +kernel
theorem dX8_isHidden_45 : decode cX8_isHidden 45 = .ok (.goto 4, 3) := by decide +kernel
theorem dX8_isHidden_48 : decode cX8_isHidden 48 = .ok (.iconst 0, 1) := by decide +kernel
theorem dX8_isHidden_49 : decode cX8_isHidden 49 = .ok (.istore_n 3, 1) := by decide +kernel
theorem dX8_isHidden_50 : decode cX8_isHidden 50 = .ok (.iconst 0, 1) := by decide +kernel
theorem dX8_isHidden_51 : decode cX8_isHidden 51 = .ok (.istore 4, 2) := by decide +kernel
theorem dX8_isHidden_53 : decode cX8_isHidden 53 = .ok (.iload 4, 2) := by decide +kernel
theorem dX8_isHidden_55 : decode cX8_isHidden 55 = .ok (.iconst 4, 1) := by decide +kernel
theorem dX8_isHidden_56 : decode cX8_isHidden 56 = .ok (.if_icmp .ge 44, 3) := by decide +kernel
theorem dX8_isHidden_59 : decode cX8_isHidden 59 = .ok (.iload_n 3, 1) := by decide +kernel
theorem dX8_isHidden_60 : decode cX8_isHidden 60 = .ok (.ifCond .eq 32, 3) := by decide +kernel
theorem dX8_isHidden_63 : decode cX8_isHidden 63 = .ok (.aload_n 0, 1) := by decide +kernel
theorem dX8_isHidden_64 : decode cX8_isHidden 64 = .ok (.getfield 72, 3) := by decide +kernel
theorem dX8_isHidden_67 : decode cX8_isHidden 67 = .ok (.iconst 4, 1) := by decide +kernel
theorem dX8_isHidden_68 : decode cX8_isHidden 68 = .ok (.iload_n 1, 1) := by decide +kernel
theorem dX8_isHidden_69 : decode cX8_isHidden 69 = .ok (.imul, 1) := by decide +kernel
theorem dX8_isHidden_70 : decode cX8_isHidden 70 = .ok (.iload 4, 2) := by decide +kernel
theorem dX8_isHidden_72 : decode cX8_isHidden 72 = .ok (.iadd, 1) := by decide +kernel
theorem dX8_isHidden_73 : decode cX8_isHidden 73 = .ok (.iaload, 1) := by decide +kernel
theorem dX8_isHidden_74 : decode cX8_isHidden 74 = .ok (.aload_n 0, 1) := by decide +kernel
theorem dX8_isHidden_75 : decode cX8_isHidden 75 = .ok (.getfield 72, 3) := by decide +kernel
theorem dX8_isHidden_78 : decode cX8_isHidden 78 = .ok (.iconst 4, 1) := by decide +kernel
theorem dX8_isHidden_79 : decode cX8_isHidden 79 = .ok (.iload_n 2, 1) := by decide +kernel
theorem dX8_isHidden_80 : decode cX8_isHidden 80 = .ok (.imul, 1) := by decide +kernel
theorem dX8_isHidden_81 : decode cX8_isHidden 81 = .ok (.iload 4, 2) := by decide +kernel
theorem dX8_isHidden_83 : decode cX8_isHidden 83 = .ok (.iadd, 1) := by decide +kernel
theorem dX8_isHidden_84 : decode cX8_isHidden 84 = .ok (.iaload, 1) := by decide +kernel
theorem dX8_isHidden_85 : decode cX8_isHidden 85 = .ok (.if_icmp .ne 7, 3) := by decide +kernel
theorem dX8_isHidden_88 : decode cX8_isHidden 88 = .ok (.iconst 1, 1) := by decide +kernel
theorem dX8_isHidden_89 : decode cX8_isHidden 89 = .ok (.goto 4, 3) := by decide +kernel
theorem dX8_isHidden_92 : decode cX8_isHidden 92 = .ok (.iconst 0, 1) := by decide +kernel
theorem dX8_isHidden_93 : decode cX8_isHidden 93 = .ok (.istore_n 3, 1) := by decide +kernel
theorem dX8_isHidden_94 : decode cX8_isHidden 94 = .ok (.iinc 4 1, 3) := by decide +kernel
theorem dX8_isHidden_97 : decode cX8_isHidden 97 = .ok (.goto (-44), 3) := by decide +kernel
theorem dX8_isHidden_100 : decode cX8_isHidden 100 = .ok (.iload_n 3, 1) := by decide +kernel
theorem dX8_isHidden_101 : decode cX8_isHidden 101 = .ok (.ifCond .eq 42, 3) := by decide +kernel
theorem dX8_isHidden_104 : decode cX8_isHidden 104 = .ok (.aload_n 0, 1) := by decide +kernel
theorem dX8_isHidden_105 : decode cX8_isHidden 105 = .ok (.getfield 66, 3) := by decide +kernel
theorem dX8_isHidden_108 : decode cX8_isHidden 108 = .ok (.iload_n 2, 1) := by decide +kernel
theorem dX8_isHidden_109 : decode cX8_isHidden 109 = .ok (.iaload, 1) := by decide +kernel
theorem dX8_isHidden_110 : decode cX8_isHidden 110 = .ok (.aload_n 0, 1) := by decide +kernel
theorem dX8_isHidden_111 : decode cX8_isHidden 111 = .ok (.getfield 66, 3) := by decide +kernel
theorem dX8_isHidden_114 : decode cX8_isHidden 114 = .ok (.iload_n 1, 1) := by decide +kernel
theorem dX8_isHidden_115 : decode cX8_isHidden 115 = .ok (.iaload, 1) := by decide +kernel
theorem dX8_isHidden_116 : decode cX8_isHidden 116 = .ok (.if_icmp .gt 23, 3) := by decide +kernel
theorem dX8_isHidden_119 : decode cX8_isHidden 119 = .ok (.aload_n 0, 1) := by decide +kernel
theorem dX8_isHidden_120 : decode cX8_isHidden 120 = .ok (.getfield 66, 3) := by decide +kernel
theorem dX8_isHidden_123 : decode cX8_isHidden 123 = .ok (.iload_n 2, 1) := by decide +kernel
theorem dX8_isHidden_124 : decode cX8_isHidden 124 = .ok (.iaload, 1) := by decide +kernel
theorem dX8_isHidden_125 : decode cX8_isHidden 125 = .ok (.aload_n 0, 1) := by decide +kernel
theorem dX8_isHidden_126 : decode cX8_isHidden 126 = .ok (.getfield 66, 3) := by decide +kernel
theorem dX8_isHidden_129 : decode cX8_isHidden 129 = .ok (.iload_n 1, 1) := by decide +kernel
theorem dX8_isHidden_130 : decode cX8_isHidden 130 = .ok (.iaload, 1) := by decide +kernel
theorem dX8_isHidden_131 : decode cX8_isHidden 131 = .ok (.if_icmp .ne 12, 3) := by decide +kernel
theorem dX8_isHidden_134 : decode cX8_isHidden 134 = .ok (.iload_n 2, 1) := by decide +kernel
theorem dX8_isHidden_135 : decode cX8_isHidden 135 = .ok (.iload_n 1, 1) := by decide +kernel
theorem dX8_isHidden_136 : decode cX8_isHidden 136 = .ok (.if_icmp .ge 7, 3) := by decide +kernel
theorem dX8_isHidden_139 : decode cX8_isHidden 139 = .ok (.iconst 1, 1) := by decide +kernel
theorem dX8_isHidden_140 : decode cX8_isHidden 140 = .ok (.goto 4, 3) := by decide +kernel
theorem dX8_isHidden_143 : decode cX8_isHidden 143 = .ok (.iconst 0, 1) := by decide +kernel
theorem dX8_isHidden_144 : decode cX8_isHidden 144 = .ok (.ireturn, 1) := by decide +kernel
set_option maxRecDepth 20000 in
theorem ggX8_hidden_X8_isHidden : GoodIn wsX8_hidden wsX8_isHidden := goodIn_r _ [6, 7, 8, 9, 10, 11, 12, 13, 14, 15, 16, 17, 18, 19, 20, 21, 22, 23, 24, 25, 26, 27, 28, 29, 30, 31, 32, 33, 34, 35, 36, 37, 38, 39, 40, 41, 42] (by decide +kernel) (by decide +kernel)
set_option maxRecDepth 20000 in
theorem gX8_hidden_X8_isHidden : GoodIn wsX8_hidden (wsV RX8 207 RX8 yX8_isHidden wsX8_isHidden) := goodIn_app (goodIn_of _ (by decide +kernel)) ggX8_hidden_X8_isHidden
theorem dX8_hidden_0 : decode cX8_hidden 0 = .ok (.iconst 0, 1) := by decide +kernel
theorem dX8_hidden_1 : decode cX8_hidden 1 = .ok (.istore_n 1, 1) := by decide +kernel
theorem dX8_hidden_2 : decode cX8_hidden 2 = .ok (.iload_n 1, 1) := by decide +kernel
theorem dX8_hidden_3 : decode cX8_hidden 3 = .ok (.aload_n 0, 1) := by decide +kernel
theorem dX8_hidden_4 : decode cX8_hidden 4 = .ok (.getfield 188, 3) := by decide +kernel
theorem dX8_hidden_7 : decode cX8_hidden 7 = .ok (.if_icmp .ge 36, 3) := by decide +kernel
theorem dX8_hidden_10 : decode cX8_hidden 10 = .ok (.iconst 0, 1) := by decide +kernel
theorem dX8_hidden_11 : decode cX8_hidden 11 = .ok (.istore_n 2, 1) := by decide +kernel
theorem dX8_hidden_12 : decode cX8_hidden 12 = .ok (.iload_n 2, 1) := by decide +kernel
theorem dX8_hidden_13 : decode cX8_hidden 13 = .ok (.aload_n 0, 1) := by decide +kernel
theorem dX8_hidden_14 : decode cX8_hidden 14 = .ok (.getfield 188, 3) := by decide +kernel
theorem dX8_hidden_17 : decode cX8_hidden 17 = .ok (.if_icmp .ge 20, 3) := by decide +kernel
theorem dX8_hidden_20 : decode cX8_hidden 20 = .ok (.aload_n 0, 1) := by decide +kernel
theorem dX8_hidden_21 : decode cX8_hidden 21 = .ok (.iload_n 1, 1) := by decide +kernel
theorem dX8_hidden_22 : decode cX8_hidden 22 = .ok (.iload_n 2, 1) := by decide +kernel
theorem dX8_hidden_23 : decode cX8_hidden 23 = .ok (.invokevirtual 207, 3) := by decide +kernel
theorem dX8_hidden_26 : decode cX8_hidden 26 = .ok (.ifCond .eq 5, 3) := by decide +kernel
theorem dX8_hidden_29 : decode cX8_hidden 29 = .ok (.iload_n 1, 1) := by decide +kernel
theorem dX8_hidden_30 : decode cX8_hidden 30 = .ok (.ireturn, 1) := by decide +kernel
theorem dX8_hidden_31 : decode cX8_hidden 31 = .ok (.iinc 2 1, 3) := by decide +kernel
theorem dX8_hidden_34 : decode cX8_hidden 34 = .ok (.goto (-22), 3) := by decide +kernel
theorem dX8_hidden_37 : decode cX8_hidden 37 = .ok (.iinc 1 1, 3) := by decide +kernel
theorem dX8_hidden_40 : decode cX8_hidden 40 = .ok (.goto (-38), 3) := by decide +kernel
theorem dX8_hidden_43 : decode cX8_hidden 43 = .ok (.bipush (-4), 2) := by decide +kernel
theorem dX8_hidden_45 : decode cX8_hidden 45 = .ok (.ireturn, 1) := by decide +kernel
set_option maxRecDepth 20000 in
theorem ggX8_line_X8_in : GoodIn wsX8_line wsX8_in := goodIn_r _ [6] (by decide +kernel) (by decide +kernel)
set_option maxRecDepth 20000 in
theorem gX8_line_X8_in : GoodIn wsX8_line (va_wsS RX8 88 yX8_in wsX8_in) := goodIn_app (goodIn_of _ (by decide +kernel)) ggX8_line_X8_in
theorem dX8_line_0 : decode cX8_line 0 = .ok (.iload_n 1, 1) := by decide +kernel
theorem dX8_line_1 : decode cX8_line 1 = .ok (.i2l, 1) := by decide +kernel
theorem dX8_line_2 : decode cX8_line 2 = .ok (.lconst 0, 1) := by decide +kernel
theorem dX8_line_3 : decode cX8_line 3 = .ok (.aload_n 0, 1) := by decide +kernel
theorem dX8_line_4 : decode cX8_line 4 = .ok (.getfield 179, 3) := by decide +kernel
theorem dX8_line_7 : decode cX8_line 7 = .ok (.iconst 1, 1) := by decide +kernel
theorem dX8_line_8 : decode cX8_line 8 = .ok (.isub, 1) := by decide +kernel
theorem dX8_line_9 : decode cX8_line 9 = .ok (.i2l, 1) := by decide +kernel
theorem dX8_line_10 : decode cX8_line 10 = .ok (.invokestatic 88, 3) := by decide +kernel
theorem dX8_line_13 : decode cX8_line 13 = .ok (.ifCond .eq 12, 3) := by decide +kernel
theorem dX8_line_16 : decode cX8_line 16 = .ok (.aload_n 0, 1) := by decide +kernel
theorem dX8_line_17 : decode cX8_line 17 = .ok (.getfield 60, 3) := by decide +kernel
theorem dX8_line_20 : decode cX8_line 20 = .ok (.iload_n 1, 1) := by decide +kernel
theorem dX8_line_21 : decode cX8_line 21 = .ok (.iaload, 1) := by decide +kernel
theorem dX8_line_22 : decode cX8_line 22 = .ok (.goto 4, 3) := by decide +kernel
theorem dX8_line_25 : decode cX8_line 25 = .ok (.iconst (-1), 1) := by decide +kernel
theorem dX8_line_26 : decode cX8_line 26 = .ok (.ireturn, 1) := by decide +kernel
theorem dX8_wipe_0 : decode cX8_wipe 0 = .ok (.aload_n 0, 1) := by decide +kernel
theorem dX8_wipe_1 : decode cX8_wipe 1 = .ok (.getfield 179, 3) := by decide +kernel
theorem dX8_wipe_4 : decode cX8_wipe 4 = .ok (.istore_n 1, 1) := by decide +kernel
theorem dX8_wipe_5 : decode cX8_wipe 5 = .ok (.aload_n 0, 1) := by decide +kernel
theorem dX8_wipe_6 : decode cX8_wipe 6 = .ok (.iconst 0, 1) := by decide +kernel
theorem dX8_wipe_7 : decode cX8_wipe 7 = .ok (.putfield 179, 3) := by decide +kernel
theorem dX8_wipe_10 : decode cX8_wipe 10 = .ok (.iload_n 1, 1) := by decide +kernel
theorem dX8_wipe_11 : decode cX8_wipe 11 = .ok (.ireturn, 1) := by decide +kernel
set_option maxRecDepth 20000 in
theorem ggX8_isSheet_X8_in : GoodIn wsX8_isSheet wsX8_in := goodIn_r _ [6] (by decide +kernel) (by decide +kernel)
set_option maxRecDepth 20000 in
theorem gX8_isSheet_X8_in : GoodIn wsX8_isSheet (va_wsS RX8 88 yX8_in wsX8_in) := goodIn_app (goodIn_of _ (by decide +kernel)) ggX8_isSheet_X8_in
theorem dX8_isSheet_0 : decode cX8_isSheet 0 = .ok (.iload_n 0, 1) := by decide +kernel
theorem dX8_isSheet_1 : decode cX8_isSheet 1 = .ok (.i2l, 1) := by decide +kernel
theorem dX8_isSheet_2 : decode cX8_isSheet 2 = .ok (.lconst 0, 1) := by decide +kernel
theorem dX8_isSheet_3 : decode cX8_isSheet 3 = .ok (.ldc2_w 186, 3) := by decide +kernel
theorem dX8_isSheet_6 : decode cX8_isSheet 6 = .ok (.invokestatic 88, 3) := by decide +kernel
theorem dX8_isSheet_9 : decode cX8_isSheet 9 = .ok (.ifCond .eq 19, 3) := by decide +kernel
theorem dX8_isSheet_12 : decode cX8_isSheet 12 = .ok (.iload_n 1, 1) := by decide +kernel
theorem dX8_isSheet_13 : decode cX8_isSheet 13 = .ok (.i2l, 1) := by decide +kernel
theorem dX8_isSheet_14 : decode cX8_isSheet 14 = .ok (.lconst 0, 1) := by decide +kernel
theorem dX8_isSheet_15 : decode cX8_isSheet 15 = .ok (.ldc2_w 113, 3) := by decide +kernel
theorem dX8_isSheet_18 : decode cX8_isSheet 18 = .ok (.invokestatic 88, 3) := by decide +kernel
theorem dX8_isSheet_21 : decode cX8_isSheet 21 = .ok (.ifCond .eq 7, 3) := by decide +kernel
theorem dX8_isSheet_24 : decode cX8_isSheet 24 = .ok (.iconst 1, 1) := by decide +kernel
theorem dX8_isSheet_25 : decode cX8_isSheet 25 = .ok (.goto 4, 3) := by decide +kernel
theorem dX8_isSheet_28 : decode cX8_isSheet 28 = .ok (.iconst 0, 1) := by decide +kernel
theorem dX8_isSheet_29 : decode cX8_isSheet 29 = .ok (.ireturn, 1) := by decide +kernel
set_option maxRecDepth 20000 in
theorem ggX8_sheet_X8_isSheet : GoodIn wsX8_sheet wsX8_isSheet := goodIn_r _ [7, 8, 9, 10, 11, 6, 12] (by decide +kernel) (by decide +kernel)
set_option maxRecDepth 20000 in
theorem gX8_sheet_X8_isSheet : GoodIn wsX8_sheet (va_wsS RX8 210 yX8_isSheet wsX8_isSheet) := goodIn_app (goodIn_of _ (by decide +kernel)) ggX8_sheet_X8_isSheet
theorem dX8_sheet_0 : decode cX8_sheet 0 = .ok (.iload_n 1, 1) := by decide +kernel
theorem dX8_sheet_1 : decode cX8_sheet 1 = .ok (.iload_n 2, 1) := by decide +kernel
theorem dX8_sheet_2 : decode cX8_sheet 2 = .ok (.invokestatic 210, 3) := by decide +kernel
theorem dX8_sheet_5 : decode cX8_sheet 5 = .ok (.ifCond .eq 9, 3) := by decide +kernel
theorem dX8_sheet_8 : decode cX8_sheet 8 = .ok (.iload_n 3, 1) := by decide +kernel
theorem dX8_sheet_9 : decode cX8_sheet 9 = .ok (.bipush 60, 2) := by decide +kernel
theorem dX8_sheet_11 : decode cX8_sheet 11 = .ok (.if_icmp .le 5, 3) := by decide +kernel
theorem dX8_sheet_14 : decode cX8_sheet 14 = .ok (.iconst (-1), 1) := by decide +kernel
theorem dX8_sheet_15 : decode cX8_sheet 15 = .ok (.ireturn, 1) := by decide +kernel
theorem dX8_sheet_16 : decode cX8_sheet 16 = .ok (.iload_n 3, 1) := by decide +kernel
theorem dX8_sheet_17 : decode cX8_sheet 17 = .ok (.ifCond .ge 6, 3) := by decide +kernel
theorem dX8_sheet_20 : decode cX8_sheet 20 = .ok (.bipush (-14), 2) := by decide +kernel
theorem dX8_sheet_22 : decode cX8_sheet 22 = .ok (.ireturn, 1) := by decide +kernel
theorem dX8_sheet_23 : decode cX8_sheet 23 = .ok (.aload_n 0, 1) := by decide +kernel
theorem dX8_sheet_24 : decode cX8_sheet 24 = .ok (.getfield 75, 3) := by decide +kernel
theorem dX8_sheet_27 : decode cX8_sheet 27 = .ok (.iload_n 1, 1) := by decide +kernel
theorem dX8_sheet_28 : decode cX8_sheet 28 = .ok (.iload_n 2, 1) := by decide +kernel
theorem dX8_sheet_29 : decode cX8_sheet 29 = .ok (.iastore, 1) := by decide +kernel
theorem dX8_sheet_30 : decode cX8_sheet 30 = .ok (.aload_n 0, 1) := by decide +kernel
theorem dX8_sheet_31 : decode cX8_sheet 31 = .ok (.getfield 78, 3) := by decide +kernel
theorem dX8_sheet_34 : decode cX8_sheet 34 = .ok (.iload_n 1, 1) := by decide +kernel
theorem dX8_sheet_35 : decode cX8_sheet 35 = .ok (.iload_n 3, 1) := by decide +kernel
theorem dX8_sheet_36 : decode cX8_sheet 36 = .ok (.iastore, 1) := by decide +kernel
theorem dX8_sheet_37 : decode cX8_sheet 37 = .ok (.iconst 0, 1) := by decide +kernel
theorem dX8_sheet_38 : decode cX8_sheet 38 = .ok (.istore 4, 2) := by decide +kernel
theorem dX8_sheet_40 : decode cX8_sheet 40 = .ok (.iload 4, 2) := by decide +kernel
theorem dX8_sheet_42 : decode cX8_sheet 42 = .ok (.bipush 60, 2) := by decide +kernel
theorem dX8_sheet_44 : decode cX8_sheet 44 = .ok (.if_icmp .ge 22, 3) := by decide +kernel
theorem dX8_sheet_47 : decode cX8_sheet 47 = .ok (.aload_n 0, 1) := by decide +kernel
theorem dX8_sheet_48 : decode cX8_sheet 48 = .ok (.getfield 81, 3) := by decide +kernel
theorem dX8_sheet_51 : decode cX8_sheet 51 = .ok (.bipush 60, 2) := by decide +kernel
theorem dX8_sheet_53 : decode cX8_sheet 53 = .ok (.iload_n 1, 1) := by decide +kernel
theorem dX8_sheet_54 : decode cX8_sheet 54 = .ok (.imul, 1) := by decide +kernel
theorem dX8_sheet_55 : decode cX8_sheet 55 = .ok (.iload 4, 2) := by decide +kernel
theorem dX8_sheet_57 : decode cX8_sheet 57 = .ok (.iadd, 1) := by decide +kernel
theorem dX8_sheet_58 : decode cX8_sheet 58 = .ok (.iconst 0, 1) := by decide +kernel
theorem dX8_sheet_59 : decode cX8_sheet 59 = .ok (.iastore, 1) := by decide +kernel
theorem dX8_sheet_60 : decode cX8_sheet 60 = .ok (.iinc 4 1, 3) := by decide +kernel
theorem dX8_sheet_63 : decode cX8_sheet 63 = .ok (.goto (-23), 3) := by decide +kernel
theorem dX8_sheet_66 : decode cX8_sheet 66 = .ok (.iconst 1, 1) := by decide +kernel
theorem dX8_sheet_67 : decode cX8_sheet 67 = .ok (.ireturn, 1) := by decide +kernel
set_option maxRecDepth 20000 in
theorem ggX8_lay_X8_isSheet : GoodIn wsX8_lay wsX8_isSheet := goodIn_r _ [7, 8, 9, 10, 11, 6, 12] (by decide +kernel) (by decide +kernel)
set_option maxRecDepth 20000 in
theorem gX8_lay_X8_isSheet : GoodIn wsX8_lay (va_wsS RX8 210 yX8_isSheet wsX8_isSheet) := goodIn_app (goodIn_of _ (by decide +kernel)) ggX8_lay_X8_isSheet
set_option maxRecDepth 20000 in
theorem ggX8_lay_X8_in : GoodIn wsX8_lay wsX8_in := goodIn_r _ [12] (by decide +kernel) (by decide +kernel)
set_option maxRecDepth 20000 in
theorem gX8_lay_X8_in : GoodIn wsX8_lay (va_wsS RX8 88 yX8_in wsX8_in) := goodIn_app (goodIn_of _ (by decide +kernel)) ggX8_lay_X8_in
theorem dX8_lay_0 : decode cX8_lay 0 = .ok (.iload_n 1, 1) := by decide +kernel
theorem dX8_lay_1 : decode cX8_lay 1 = .ok (.iconst 0, 1) := by decide +kernel
theorem dX8_lay_2 : decode cX8_lay 2 = .ok (.invokestatic 210, 3) := by decide +kernel
theorem dX8_lay_5 : decode cX8_lay 5 = .ok (.ifCond .ne 5, 3) := by decide +kernel
theorem dX8_lay_8 : decode cX8_lay 8 = .ok (.iconst (-1), 1) := by decide +kernel
theorem dX8_lay_9 : decode cX8_lay 9 = .ok (.ireturn, 1) := by decide +kernel
theorem dX8_lay_10 : decode cX8_lay 10 = .ok (.aload_n 0, 1) := by decide +kernel
theorem dX8_lay_11 : decode cX8_lay 11 = .ok (.getfield 75, 3) := by decide +kernel
theorem dX8_lay_14 : decode cX8_lay 14 = .ok (.iload_n 1, 1) := by decide +kernel
theorem dX8_lay_15 : decode cX8_lay 15 = .ok (.iaload, 1) := by decide +kernel
theorem dX8_lay_16 : decode cX8_lay 16 = .ok (.bipush (-4), 2) := by decide +kernel
theorem dX8_lay_18 : decode cX8_lay 18 = .ok (.if_icmp .ne 6, 3) := by decide +kernel
theorem dX8_lay_21 : decode cX8_lay 21 = .ok (.bipush (-11), 2) := by decide +kernel
theorem dX8_lay_23 : decode cX8_lay 23 = .ok (.ireturn, 1) := by decide +kernel
theorem dX8_lay_24 : decode cX8_lay 24 = .ok (.iload_n 2, 1) := by decide +kernel
theorem dX8_lay_25 : decode cX8_lay 25 = .ok (.i2l, 1) := by decide +kernel
theorem dX8_lay_26 : decode cX8_lay 26 = .ok (.lconst 0, 1) := by decide +kernel
theorem dX8_lay_27 : decode cX8_lay 27 = .ok (.aload_n 0, 1) := by decide +kernel
theorem dX8_lay_28 : decode cX8_lay 28 = .ok (.getfield 78, 3) := by decide +kernel
theorem dX8_lay_31 : decode cX8_lay 31 = .ok (.iload_n 1, 1) := by decide +kernel
theorem dX8_lay_32 : decode cX8_lay 32 = .ok (.iaload, 1) := by decide +kernel
theorem dX8_lay_33 : decode cX8_lay 33 = .ok (.iconst 1, 1) := by decide +kernel
theorem dX8_lay_34 : decode cX8_lay 34 = .ok (.isub, 1) := by decide +kernel
theorem dX8_lay_35 : decode cX8_lay 35 = .ok (.i2l, 1) := by decide +kernel
theorem dX8_lay_36 : decode cX8_lay 36 = .ok (.invokestatic 88, 3) := by decide +kernel
theorem dX8_lay_39 : decode cX8_lay 39 = .ok (.ifCond .ne 6, 3) := by decide +kernel
theorem dX8_lay_42 : decode cX8_lay 42 = .ok (.bipush (-12), 2) := by decide +kernel
theorem dX8_lay_44 : decode cX8_lay 44 = .ok (.ireturn, 1) := by decide +kernel
theorem dX8_lay_45 : decode cX8_lay 45 = .ok (.aload_n 0, 1) := by decide +kernel
theorem dX8_lay_46 : decode cX8_lay 46 = .ok (.getfield 81, 3) := by decide +kernel
theorem dX8_lay_49 : decode cX8_lay 49 = .ok (.bipush 60, 2) := by decide +kernel
theorem dX8_lay_51 : decode cX8_lay 51 = .ok (.iload_n 1, 1) := by decide +kernel
theorem dX8_lay_52 : decode cX8_lay 52 = .ok (.imul, 1) := by decide +kernel
theorem dX8_lay_53 : decode cX8_lay 53 = .ok (.iload_n 2, 1) := by decide +kernel
theorem dX8_lay_54 : decode cX8_lay 54 = .ok (.iadd, 1) := by decide +kernel
theorem dX8_lay_55 : decode cX8_lay 55 = .ok (.aload_n 0, 1) := by decide +kernel
theorem dX8_lay_56 : decode cX8_lay 56 = .ok (.getfield 75, 3) := by decide +kernel
theorem dX8_lay_59 : decode cX8_lay 59 = .ok (.iload_n 1, 1) := by decide +kernel
theorem dX8_lay_60 : decode cX8_lay 60 = .ok (.iaload, 1) := by decide +kernel
theorem dX8_lay_61 : decode cX8_lay 61 = .ok (.ifCond .ne 8, 3) := by decide +kernel
theorem dX8_lay_64 : decode cX8_lay 64 = .ok (.iload_n 3, 1) := by decide +kernel
theorem dX8_lay_65 : decode cX8_lay 65 = .ok (.i2b, 1) := by decide +kernel
theorem dX8_lay_66 : decode cX8_lay 66 = .ok (.goto 19, 3) := by decide +kernel
theorem dX8_lay_69 : decode cX8_lay 69 = .ok (.aload_n 0, 1) := by decide +kernel
theorem dX8_lay_70 : decode cX8_lay 70 = .ok (.getfield 75, 3) := by decide +kernel
theorem dX8_lay_73 : decode cX8_lay 73 = .ok (.iload_n 1, 1) := by decide +kernel
theorem dX8_lay_74 : decode cX8_lay 74 = .ok (.iaload, 1) := by decide +kernel
theorem dX8_lay_75 : decode cX8_lay 75 = .ok (.iconst 1, 1) := by decide +kernel
theorem dX8_lay_76 : decode cX8_lay 76 = .ok (.if_icmp .ne 8, 3) := by decide +kernel
theorem dX8_lay_79 : decode cX8_lay 79 = .ok (.iload_n 3, 1) := by decide +kernel
theorem dX8_lay_80 : decode cX8_lay 80 = .ok (.i2s, 1) := by decide +kernel
theorem dX8_lay_81 : decode cX8_lay 81 = .ok (.goto 4, 3) := by decide +kernel
theorem dX8_lay_84 : decode cX8_lay 84 = .ok (.iload_n 3, 1) := by decide +kernel
theorem dX8_lay_85 : decode cX8_lay 85 = .ok (.iastore, 1) := by decide +kernel
theorem dX8_lay_86 : decode cX8_lay 86 = .ok (.iconst 1, 1) := by decide +kernel
theorem dX8_lay_87 : decode cX8_lay 87 = .ok (.ireturn, 1) := by decide +kernel
set_option maxRecDepth 20000 in
theorem ggX8_scan_X8_isSheet : GoodIn wsX8_scan wsX8_isSheet := goodIn_r _ [10, 4, 11, 12, 13, 9, 14] (by decide +kernel) (by decide +kernel)
set_option maxRecDepth 20000 in
theorem gX8_scan_X8_isSheet : GoodIn wsX8_scan (va_wsS RX8 210 yX8_isSheet wsX8_isSheet) := goodIn_app (goodIn_of _ (by decide +kernel)) ggX8_scan_X8_isSheet
set_option maxRecDepth 20000 in
theorem ggX8_scan_X8_in : GoodIn wsX8_scan wsX8_in := goodIn_r _ [14] (by decide +kernel) (by decide +kernel)
set_option maxRecDepth 20000 in
theorem gX8_scan_X8_in : GoodIn wsX8_scan (va_wsS RX8 88 yX8_in wsX8_in) := goodIn_app (goodIn_of _ (by decide +kernel)) ggX8_scan_X8_in
set_option maxRecDepth 20000 in
theorem ggX8_scan_X8_point : GoodIn wsX8_scan wsX8_point := goodIn_r _ [18, 19, 20, 3, 21, 22, 23, 12, 13, 9, 14, 24, 25, 26, 27, 28, 29, 30, 31, 32, 33, 34, 35, 36, 37, 38, 39, 40, 41, 42, 43, 44, 45, 46, 47, 48, 49, 50, 51, 52, 53, 54, 55] (by decide +kernel) (by decide +kernel)
set_option maxRecDepth 20000 in
theorem gX8_scan_X8_point : GoodIn wsX8_scan (wsV RX8 215 RX8 yX8_point wsX8_point) := goodIn_app (goodIn_of _ (by decide +kernel)) ggX8_scan_X8_point
theorem dX8_scan_0 : decode cX8_scan 0 = .ok (.iload_n 1, 1) := by decide +kernel
theorem dX8_scan_1 : decode cX8_scan 1 = .ok (.iload_n 2, 1) := by decide +kernel
theorem dX8_scan_2 : decode cX8_scan 2 = .ok (.invokestatic 210, 3) := by decide +kernel
theorem dX8_scan_5 : decode cX8_scan 5 = .ok (.ifCond .eq 16, 3) := by decide +kernel
theorem dX8_scan_8 : decode cX8_scan 8 = .ok (.iload 4, 2) := by decide +kernel
theorem dX8_scan_10 : decode cX8_scan 10 = .ok (.i2l, 1) := by decide +kernel
theorem dX8_scan_11 : decode cX8_scan 11 = .ok (.lconst 0, 1) := by decide +kernel
theorem dX8_scan_12 : decode cX8_scan 12 = .ok (.ldc2_w 213, 3) := by decide +kernel
theorem dX8_scan_15 : decode cX8_scan 15 = .ok (.invokestatic 88, 3) := by decide +kernel
theorem dX8_scan_18 : decode cX8_scan 18 = .ok (.ifCond .ne 5, 3) := by decide +kernel
theorem dX8_scan_21 : decode cX8_scan 21 = .ok (.iconst (-1), 1) := by decide +kernel
theorem dX8_scan_22 : decode cX8_scan 22 = .ok (.ireturn, 1) := by decide +kernel
theorem dX8_scan_23 : decode cX8_scan 23 = .ok (.aload_n 0, 1) := by decide +kernel
theorem dX8_scan_24 : decode cX8_scan 24 = .ok (.getfield 75, 3) := by decide +kernel
theorem dX8_scan_27 : decode cX8_scan 27 = .ok (.iload_n 1, 1) := by decide +kernel
theorem dX8_scan_28 : decode cX8_scan 28 = .ok (.iaload, 1) := by decide +kernel
theorem dX8_scan_29 : decode cX8_scan 29 = .ok (.iload_n 2, 1) := by decide +kernel
theorem dX8_scan_30 : decode cX8_scan 30 = .ok (.if_icmp .eq 22, 3) := by decide +kernel
theorem dX8_scan_33 : decode cX8_scan 33 = .ok (.aload_n 0, 1) := by decide +kernel
theorem dX8_scan_34 : decode cX8_scan 34 = .ok (.getfield 75, 3) := by decide +kernel
theorem dX8_scan_37 : decode cX8_scan 37 = .ok (.iload_n 1, 1) := by decide +kernel
theorem dX8_scan_38 : decode cX8_scan 38 = .ok (.iaload, 1) := by decide +kernel
theorem dX8_scan_39 : decode cX8_scan 39 = .ok (.bipush (-4), 2) := by decide +kernel
theorem dX8_scan_41 : decode cX8_scan 41 = .ok (.if_icmp .ne 8, 3) := by decide +kernel
theorem dX8_scan_44 : decode cX8_scan 44 = .ok (.bipush (-11), 2) := by decide +kernel
theorem dX8_scan_46 : decode cX8_scan 46 = .ok (.goto 5, 3) := by decide +kernel
theorem dX8_scan_49 : decode cX8_scan 49 = .ok (.bipush (-13), 2) := by decide +kernel
theorem dX8_scan_51 : decode cX8_scan 51 = .ok (.ireturn, 1) := by decide +kernel
theorem dX8_scan_52 : decode cX8_scan 52 = .ok (.aload_n 0, 1) := by decide +kernel
theorem dX8_scan_53 : decode cX8_scan 53 = .ok (.getfield 92, 3) := by decide +kernel
theorem dX8_scan_56 : decode cX8_scan 56 = .ok (.istore 5, 2) := by decide +kernel
theorem dX8_scan_58 : decode cX8_scan 58 = .ok (.iconst 0, 1) := by decide +kernel
theorem dX8_scan_59 : decode cX8_scan 59 = .ok (.istore 6, 2) := by decide +kernel
theorem dX8_scan_61 : decode cX8_scan 61 = .ok (.iconst 0, 1) := by decide +kernel
theorem dX8_scan_62 : decode cX8_scan 62 = .ok (.istore 7, 2) := by decide +kernel
theorem dX8_scan_64 : decode cX8_scan 64 = .ok (.iload 7, 2) := by decide +kernel
theorem dX8_scan_66 : decode cX8_scan 66 = .ok (.iload 4, 2) := by decide +kernel
theorem dX8_scan_68 : decode cX8_scan 68 = .ok (.if_icmp .ge 120, 3) := by decide +kernel
theorem dX8_scan_71 : decode cX8_scan 71 = .ok (.iload 6, 2) := by decide +kernel
theorem dX8_scan_73 : decode cX8_scan 73 = .ok (.ifCond .ne 115, 3) := by decide +kernel
theorem dX8_scan_76 : decode cX8_scan 76 = .ok (.iload_n 3, 1) := by decide +kernel
theorem dX8_scan_77 : decode cX8_scan 77 = .ok (.i2l, 1) := by decide +kernel
theorem dX8_scan_78 : decode cX8_scan 78 = .ok (.iconst 3, 1) := by decide +kernel
theorem dX8_scan_79 : decode cX8_scan 79 = .ok (.iload 7, 2) := by decide +kernel
theorem dX8_scan_81 : decode cX8_scan 81 = .ok (.imul, 1) := by decide +kernel
theorem dX8_scan_82 : decode cX8_scan 82 = .ok (.i2l, 1) := by decide +kernel
theorem dX8_scan_83 : decode cX8_scan 83 = .ok (.ladd, 1) := by decide +kernel
theorem dX8_scan_84 : decode cX8_scan 84 = .ok (.lstore 8, 2) := by decide +kernel
theorem dX8_scan_86 : decode cX8_scan 86 = .ok (.lload 8, 2) := by decide +kernel
theorem dX8_scan_88 : decode cX8_scan 88 = .ok (.lconst 0, 1) := by decide +kernel
theorem dX8_scan_89 : decode cX8_scan 89 = .ok (.lcmp, 1) := by decide +kernel
theorem dX8_scan_90 : decode cX8_scan 90 = .ok (.ifCond .lt 20, 3) := by decide +kernel
theorem dX8_scan_93 : decode cX8_scan 93 = .ok (.lload 8, 2) := by decide +kernel
theorem dX8_scan_95 : decode cX8_scan 95 = .ok (.ldc2_w 186, 3) := by decide +kernel
theorem dX8_scan_98 : decode cX8_scan 98 = .ok (.ladd, 1) := by decide +kernel
theorem dX8_scan_99 : decode cX8_scan 99 = .ok (.aload_n 0, 1) := by decide +kernel
theorem dX8_scan_100 : decode cX8_scan 100 = .ok (.getfield 78, 3) := by decide +kernel
theorem dX8_scan_103 : decode cX8_scan 103 = .ok (.iload_n 1, 1) := by decide +kernel
theorem dX8_scan_104 : decode cX8_scan 104 = .ok (.iaload, 1) := by decide +kernel
theorem dX8_scan_105 : decode cX8_scan 105 = .ok (.i2l, 1) := by decide +kernel
theorem dX8_scan_106 : decode cX8_scan 106 = .ok (.lcmp, 1) := by decide +kernel
theorem dX8_scan_107 : decode cX8_scan 107 = .ok (.ifCond .le 10, 3) := by decide +kernel
theorem dX8_scan_110 : decode cX8_scan 110 = .ok (.bipush (-12), 2) := by decide +kernel
theorem dX8_scan_112 : decode cX8_scan 112 = .ok (.istore 6, 2) := by decide +kernel
theorem dX8_scan_114 : decode cX8_scan 114 = .ok (.goto 68, 3) := by decide +kernel
theorem dX8_scan_117 : decode cX8_scan 117 = .ok (.bipush 60, 2) := by decide +kernel
theorem dX8_scan_119 : decode cX8_scan 119 = .ok (.iload_n 1, 1) := by decide +kernel
theorem dX8_scan_120 : decode cX8_scan 120 = .ok (.imul, 1) := by decide +kernel
theorem dX8_scan_121 : decode cX8_scan 121 = .ok (.lload 8, 2) := by decide +kernel
theorem dX8_scan_123 : decode cX8_scan 123 = .ok (.l2i, 1) := by decide +kernel
theorem dX8_scan_124 : decode cX8_scan 124 = .ok (.iadd, 1) := by decide +kernel
theorem dX8_scan_125 : decode cX8_scan 125 = .ok (.istore 10, 2) := by decide +kernel
theorem dX8_scan_127 : decode cX8_scan 127 = .ok (.aload_n 0, 1) := by decide +kernel
theorem dX8_scan_128 : decode cX8_scan 128 = .ok (.aload_n 0, 1) := by decide +kernel
theorem dX8_scan_129 : decode cX8_scan 129 = .ok (.getfield 81, 3) := by decide +kernel
theorem dX8_scan_132 : decode cX8_scan 132 = .ok (.iload 10, 2) := by decide +kernel
theorem dX8_scan_134 : decode cX8_scan 134 = .ok (.iaload, 1) := by decide +kernel
theorem dX8_scan_135 : decode cX8_scan 135 = .ok (.aload_n 0, 1) := by decide +kernel
theorem dX8_scan_136 : decode cX8_scan 136 = .ok (.getfield 81, 3) := by decide +kernel
theorem dX8_scan_139 : decode cX8_scan 139 = .ok (.iload 10, 2) := by decide +kernel
theorem dX8_scan_141 : decode cX8_scan 141 = .ok (.iconst 1, 1) := by decide +kernel
theorem dX8_scan_142 : decode cX8_scan 142 = .ok (.iadd, 1) := by decide +kernel
theorem dX8_scan_143 : decode cX8_scan 143 = .ok (.iaload, 1) := by decide +kernel
theorem dX8_scan_144 : decode cX8_scan 144 = .ok (.aload_n 0, 1) := by decide +kernel
theorem dX8_scan_145 : decode cX8_scan 145 = .ok (.getfield 81, 3) := by decide +kernel
theorem dX8_scan_148 : decode cX8_scan 148 = .ok (.iload 10, 2) := by decide +kernel
theorem dX8_scan_150 : decode cX8_scan 150 = .ok (.iconst 2, 1) := by decide +kernel
theorem dX8_scan_151 : decode cX8_scan 151 = .ok (.iadd, 1) := by decide +kernel
theorem dX8_scan_152 : decode cX8_scan 152 = .ok (.iaload, 1) := by decide +kernel
theorem dX8_scan_153 : decode cX8_scan 153 = .ok (.ifCond .eq 7, 3) := by decide +kernel
theorem dX8_scan_156 : decode cX8_scan 156 = .ok (.iconst 1, 1) := by decide +kernel
theorem dX8_scan_157 : decode cX8_scan 157 = .ok (.goto 4, 3) := by decide +kernel
theorem dX8_scan_160 : decode cX8_scan 160 = .ok (.iconst 0, 1) := by decide +kernel
theorem dX8_scan_161 : decode cX8_scan 161 = .ok (.invokevirtual 215, 3) := by decide +kernel
theorem dX8_scan_164 : decode cX8_scan 164 = .ok (.istore 11, 2) := by decide +kernel
theorem dX8_scan_166 : decode cX8_scan 166 = .ok (.iload 11, 2) := by decide +kernel
theorem dX8_scan_168 : decode cX8_scan 168 = .ok (.ifCond .ge 11, 3) := by decide +kernel
theorem dX8_scan_171 : decode cX8_scan 171 = .ok (.bipush (-20), 2) := by decide +kernel
theorem dX8_scan_173 : decode cX8_scan 173 = .ok (.iload 11, 2) := by decide +kernel
theorem dX8_scan_175 : decode cX8_scan 175 = .ok (.iadd, 1) := by decide +kernel
theorem dX8_scan_176 : decode cX8_scan 176 = .ok (.goto 4, 3) := by decide +kernel
theorem dX8_scan_179 : decode cX8_scan 179 = .ok (.iconst 0, 1) := by decide +kernel
theorem dX8_scan_180 : decode cX8_scan 180 = .ok (.istore 6, 2) := by decide +kernel
theorem dX8_scan_182 : decode cX8_scan 182 = .ok (.iinc 7 1, 3) := by decide +kernel
theorem dX8_scan_185 : decode cX8_scan 185 = .ok (.goto (-121), 3) := by decide +kernel
theorem dX8_scan_188 : decode cX8_scan 188 = .ok (.aload_n 0, 1) := by decide +kernel
theorem dX8_scan_189 : decode cX8_scan 189 = .ok (.iload 6, 2) := by decide +kernel
theorem dX8_scan_191 : decode cX8_scan 191 = .ok (.ifCond .ge 8, 3) := by decide +kernel
theorem dX8_scan_194 : decode cX8_scan 194 = .ok (.iload 5, 2) := by decide +kernel
theorem dX8_scan_196 : decode cX8_scan 196 = .ok (.goto 7, 3) := by decide +kernel
theorem dX8_scan_199 : decode cX8_scan 199 = .ok (.aload_n 0, 1) := by decide +kernel
theorem dX8_scan_200 : decode cX8_scan 200 = .ok (.getfield 92, 3) := by decide +kernel
theorem dX8_scan_203 : decode cX8_scan 203 = .ok (.putfield 92, 3) := by decide +kernel
theorem dX8_scan_206 : decode cX8_scan 206 = .ok (.iload 6, 2) := by decide +kernel
theorem dX8_scan_208 : decode cX8_scan 208 = .ok (.ifCond .ge 8, 3) := by decide +kernel
theorem dX8_scan_211 : decode cX8_scan 211 = .ok (.iload 6, 2) := by decide +kernel
theorem dX8_scan_213 : decode cX8_scan 213 = .ok (.goto 7, 3) := by decide +kernel
theorem dX8_scan_216 : decode cX8_scan 216 = .ok (.aload_n 0, 1) := by decide +kernel
theorem dX8_scan_217 : decode cX8_scan 217 = .ok (.getfield 92, 3) := by decide +kernel
theorem dX8_scan_220 : decode cX8_scan 220 = .ok (.ireturn, 1) := by decide +kernel
theorem dX8_count_0 : decode cX8_count 0 = .ok (.iload_n 1, 1) := by decide +kernel
theorem dX8_count_1 : decode cX8_count 1 = .ok (.ifCond .ne 10, 3) := by decide +kernel
theorem dX8_count_4 : decode cX8_count 4 = .ok (.aload_n 0, 1) := by decide +kernel
theorem dX8_count_5 : decode cX8_count 5 = .ok (.getfield 92, 3) := by decide +kernel
theorem dX8_count_8 : decode cX8_count 8 = .ok (.goto 52, 3) := by decide +kernel
theorem dX8_count_11 : decode cX8_count 11 = .ok (.iload_n 1, 1) := by decide +kernel
theorem dX8_count_12 : decode cX8_count 12 = .ok (.iconst 1, 1) := by decide +kernel
theorem dX8_count_13 : decode cX8_count 13 = .ok (.if_icmp .ne 10, 3) := by decide +kernel
theorem dX8_count_16 : decode cX8_count 16 = .ok (.aload_n 0, 1) := by decide +kernel
theorem dX8_count_17 : decode cX8_count 17 = .ok (.getfield 123, 3) := by decide +kernel
theorem dX8_count_20 : decode cX8_count 20 = .ok (.goto 40, 3) := by decide +kernel
theorem dX8_count_23 : decode cX8_count 23 = .ok (.iload_n 1, 1) := by decide +kernel
theorem dX8_count_24 : decode cX8_count 24 = .ok (.iconst 2, 1) := by decide +kernel
theorem dX8_count_25 : decode cX8_count 25 = .ok (.if_icmp .ne 10, 3) := by decide +kernel
theorem dX8_count_28 : decode cX8_count 28 = .ok (.aload_n 0, 1) := by decide +kernel
theorem dX8_count_29 : decode cX8_count 29 = .ok (.getfield 188, 3) := by decide +kernel
theorem dX8_count_32 : decode cX8_count 32 = .ok (.goto 28, 3) := by decide +kernel
theorem dX8_count_35 : decode cX8_count 35 = .ok (.iload_n 1, 1) := by decide +kernel
theorem dX8_count_36 : decode cX8_count 36 = .ok (.iconst 3, 1) := by decide +kernel
theorem dX8_count_37 : decode cX8_count 37 = .ok (.if_icmp .ne 10, 3) := by decide +kernel
theorem dX8_count_40 : decode cX8_count 40 = .ok (.aload_n 0, 1) := by decide +kernel
theorem dX8_count_41 : decode cX8_count 41 = .ok (.getfield 179, 3) := by decide +kernel
theorem dX8_count_44 : decode cX8_count 44 = .ok (.goto 16, 3) := by decide +kernel
theorem dX8_count_47 : decode cX8_count 47 = .ok (.iload_n 1, 1) := by decide +kernel
theorem dX8_count_48 : decode cX8_count 48 = .ok (.iconst 4, 1) := by decide +kernel
theorem dX8_count_49 : decode cX8_count 49 = .ok (.if_icmp .ne 10, 3) := by decide +kernel
theorem dX8_count_52 : decode cX8_count 52 = .ok (.aload_n 0, 1) := by decide +kernel
theorem dX8_count_53 : decode cX8_count 53 = .ok (.getfield 126, 3) := by decide +kernel
theorem dX8_count_56 : decode cX8_count 56 = .ok (.goto 4, 3) := by decide +kernel
theorem dX8_count_59 : decode cX8_count 59 = .ok (.iconst (-1), 1) := by decide +kernel
theorem dX8_count_60 : decode cX8_count 60 = .ok (.ireturn, 1) := by decide +kernel
