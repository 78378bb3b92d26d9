set_option maxRecDepth 20000 in
theorem gX2_covers_X2_isCovered : GoodIn wsX2_covers (wsV RX2 62 RX2 yX2_isCovered wsX2_isCovered) := goodIn_app (goodIn_of _ (by decide +kernel)) ggX2_covers_X2_isCovered
theorem dX2_covers_0 : decode cX2_covers 0 = .ok (.iload_n 1, 1) := by decide +kernel
theorem dX2_covers_1 : decode cX2_covers 1 = .ok (.sipush (-2000), 3) := by decide +kernel
theorem dX2_covers_4 : decode cX2_covers 4 = .ok (.if_icmp .lt 28, 3) := by decide +kernel
theorem dX2_covers_7 : decode cX2_covers 7 = .ok (.iload_n 1, 1) := by decide +kernel
theorem dX2_covers_8 : decode cX2_covers 8 = .ok (.sipush 2000, 3) := by decide +kernel
theorem dX2_covers_11 : decode cX2_covers 11 = .ok (.if_icmp .gt 21, 3) := by decide +kernel
theorem dX2_covers_14 : decode cX2_covers 14 = .ok (.iload_n 2, 1) := by decide +kernel
theorem dX2_covers_15 : decode cX2_covers 15 = .ok (.sipush (-2000), 3) := by decide +kernel
theorem dX2_covers_18 : decode cX2_covers 18 = .ok (.if_icmp .lt 14, 3) := by decide +kernel
theorem dX2_covers_21 : decode cX2_covers 21 = .ok (.iload_n 2, 1) := by decide +kernel
theorem dX2_covers_22 : decode cX2_covers 22 = .ok (.sipush 2000, 3) := by decide +kernel
theorem dX2_covers_25 : decode cX2_covers 25 = .ok (.if_icmp .gt 7, 3) := by decide +kernel
theorem dX2_covers_28 : decode cX2_covers 28 = .ok (.iconst 1, 1) := by decide +kernel
theorem dX2_covers_29 : decode cX2_covers 29 = .ok (.goto 4, 3) := by decide +kernel
theorem dX2_covers_32 : decode cX2_covers 32 = .ok (.iconst 0, 1) := by decide +kernel
theorem dX2_covers_33 : decode cX2_covers 33 = .ok (.istore_n 3, 1) := by decide +kernel
theorem dX2_covers_34 : decode cX2_covers 34 = .ok (.iload_n 3, 1) := by decide +kernel
theorem dX2_covers_35 : decode cX2_covers 35 = .ok (.ifCond .eq 16, 3) := by decide +kernel
theorem dX2_covers_38 : decode cX2_covers 38 = .ok (.aload_n 0, 1) := by decide +kernel
theorem dX2_covers_39 : decode cX2_covers 39 = .ok (.iload_n 1, 1) := by decide +kernel
theorem dX2_covers_40 : decode cX2_covers 40 = .ok (.iload_n 2, 1) := by decide +kernel
theorem dX2_covers_41 : decode cX2_covers 41 = .ok (.invokevirtual 62, 3) := by decide +kernel
theorem dX2_covers_44 : decode cX2_covers 44 = .ok (.ifCond .eq 7, 3) := by decide +kernel
theorem dX2_covers_47 : decode cX2_covers 47 = .ok (.iconst 1, 1) := by decide +kernel
theorem dX2_covers_48 : decode cX2_covers 48 = .ok (.goto 4, 3) := by decide +kernel
theorem dX2_covers_51 : decode cX2_covers 51 = .ok (.iconst 0, 1) := by decide +kernel
theorem dX2_covers_52 : decode cX2_covers 52 = .ok (.ireturn, 1) := by decide +kernel
theorem dX2_sign_0 : decode cX2_sign 0 = .ok (.iload_n 0, 1) := by decide +kernel
theorem dX2_sign_1 : decode cX2_sign 1 = .ok (.ifCond .ge 7, 3) := by decide +kernel
theorem dX2_sign_4 : decode cX2_sign 4 = .ok (.iconst (-1), 1) := by decide +kernel
theorem dX2_sign_5 : decode cX2_sign 5 = .ok (.goto 12, 3) := by decide +kernel
theorem dX2_sign_8 : decode cX2_sign 8 = .ok (.iload_n 0, 1) := by decide +kernel
theorem dX2_sign_9 : decode cX2_sign 9 = .ok (.ifCond .le 7, 3) := by decide +kernel
theorem dX2_sign_12 : decode cX2_sign 12 = .ok (.iconst 1, 1) := by decide +kernel
theorem dX2_sign_13 : decode cX2_sign 13 = .ok (.goto 4, 3) := by decide +kernel
theorem dX2_sign_16 : decode cX2_sign 16 = .ok (.iconst 0, 1) := by decide +kernel
theorem dX2_sign_17 : decode cX2_sign 17 = .ok (.ireturn, 1) := by decide +kernel
set_option maxRecDepth 20000 in
theorem ggX2_line_X2_isFar : GoodIn wsX2_line wsX2_isFar := goodIn_r _ [6] (by decide +kernel) (by decide +kernel)
set_option maxRecDepth 20000 in
theorem gX2_line_X2_isFar : GoodIn wsX2_line (va_wsS RX2 37 yX2_isFar wsX2_isFar) := goodIn_app (goodIn_of _ (by decide +kernel)) ggX2_line_X2_isFar
set_option maxRecDepth 20000 in
theorem ggX2_line_X2_sign : GoodIn wsX2_line wsX2_sign := goodIn_r _ [9] (by decide +kernel) (by decide +kernel)
set_option maxRecDepth 20000 in
theorem gX2_line_X2_sign : GoodIn wsX2_line (va_wsS RX2 71 yX2_sign wsX2_sign) := goodIn_app (goodIn_of _ (by decide +kernel)) ggX2_line_X2_sign
set_option maxRecDepth 20000 in
theorem ggX2_line_X2_isPixel : GoodIn wsX2_line wsX2_isPixel := goodIn_r _ [13, 14, 15, 16, 17, 18, 19, 20, 21, 22, 23] (by decide +kernel) (by decide +kernel)
set_option maxRecDepth 20000 in
theorem gX2_line_X2_isPixel : GoodIn wsX2_line (wsV RX2 75 RX2 yX2_isPixel wsX2_isPixel) := goodIn_app (goodIn_of _ (by decide +kernel)) ggX2_line_X2_isPixel
theorem dX2_line_0 : decode cX2_line 0 = .ok (.iload_n 1, 1) := by decide +kernel
theorem dX2_line_1 : decode cX2_line 1 = .ok (.invokestatic 37, 3) := by decide +kernel
theorem dX2_line_4 : decode cX2_line 4 = .ok (.ifCond .ne 25, 3) := by decide +kernel
theorem dX2_line_7 : decode cX2_line 7 = .ok (.iload_n 2, 1) := by decide +kernel
theorem dX2_line_8 : decode cX2_line 8 = .ok (.invokestatic 37, 3) := by decide +kernel
theorem dX2_line_11 : decode cX2_line 11 = .ok (.ifCond .ne 18, 3) := by decide +kernel
theorem dX2_line_14 : decode cX2_line 14 = .ok (.iload_n 3, 1) := by decide +kernel
theorem dX2_line_15 : decode cX2_line 15 = .ok (.invokestatic 37, 3) := by decide +kernel
theorem dX2_line_18 : decode cX2_line 18 = .ok (.ifCond .ne 11, 3) := by decide +kernel
theorem dX2_line_21 : decode cX2_line 21 = .ok (.iload 4, 2) := by decide +kernel
theorem dX2_line_23 : decode cX2_line 23 = .ok (.invokestatic 37, 3) := by decide +kernel
theorem dX2_line_26 : decode cX2_line 26 = .ok (.ifCond .eq 5, 3) := by decide +kernel
theorem dX2_line_29 : decode cX2_line 29 = .ok (.iconst (-1), 1) := by decide +kernel
theorem dX2_line_30 : decode cX2_line 30 = .ok (.ireturn, 1) := by decide +kernel
theorem dX2_line_31 : decode cX2_line 31 = .ok (.iload_n 3, 1) := by decide +kernel
theorem dX2_line_32 : decode cX2_line 32 = .ok (.iload_n 1, 1) := by decide +kernel
theorem dX2_line_33 : decode cX2_line 33 = .ok (.if_icmp .ge 9, 3) := by decide +kernel
theorem dX2_line_36 : decode cX2_line 36 = .ok (.iload_n 1, 1) := by decide +kernel
theorem dX2_line_37 : decode cX2_line 37 = .ok (.iload_n 3, 1) := by decide +kernel
theorem dX2_line_38 : decode cX2_line 38 = .ok (.isub, 1) := by decide +kernel
theorem dX2_line_39 : decode cX2_line 39 = .ok (.goto 6, 3) := by decide +kernel
theorem dX2_line_42 : decode cX2_line 42 = .ok (.iload_n 3, 1) := by decide +kernel
theorem dX2_line_43 : decode cX2_line 43 = .ok (.iload_n 1, 1) := by decide +kernel
theorem dX2_line_44 : decode cX2_line 44 = .ok (.isub, 1) := by decide +kernel
theorem dX2_line_45 : decode cX2_line 45 = .ok (.istore 6, 2) := by decide +kernel
theorem dX2_line_47 : decode cX2_line 47 = .ok (.iload 4, 2) := by decide +kernel
theorem dX2_line_49 : decode cX2_line 49 = .ok (.iload_n 2, 1) := by decide +kernel
theorem dX2_line_50 : decode cX2_line 50 = .ok (.if_icmp .ge 10, 3) := by decide +kernel
theorem dX2_line_53 : decode cX2_line 53 = .ok (.iload_n 2, 1) := by decide +kernel
theorem dX2_line_54 : decode cX2_line 54 = .ok (.iload 4, 2) := by decide +kernel
theorem dX2_line_56 : decode cX2_line 56 = .ok (.isub, 1) := by decide +kernel
theorem dX2_line_57 : decode cX2_line 57 = .ok (.goto 7, 3) := by decide +kernel
theorem dX2_line_60 : decode cX2_line 60 = .ok (.iload 4, 2) := by decide +kernel
theorem dX2_line_62 : decode cX2_line 62 = .ok (.iload_n 2, 1) := by decide +kernel
theorem dX2_line_63 : decode cX2_line 63 = .ok (.isub, 1) := by decide +kernel
theorem dX2_line_64 : decode cX2_line 64 = .ok (.istore 7, 2) := by decide +kernel
theorem dX2_line_66 : decode cX2_line 66 = .ok (.iload 6, 2) := by decide +kernel
theorem dX2_line_68 : decode cX2_line 68 = .ok (.iload 7, 2) := by decide +kernel
theorem dX2_line_70 : decode cX2_line 70 = .ok (.if_icmp .lt 7, 3) := by decide +kernel
theorem dX2_line_73 : decode cX2_line 73 = .ok (.iconst 1, 1) := by decide +kernel
theorem dX2_line_74 : decode cX2_line 74 = .ok (.goto 4, 3) := by decide +kernel
theorem dX2_line_77 : decode cX2_line 77 = .ok (.iconst 0, 1) := by decide +kernel
theorem dX2_line_78 : decode cX2_line 78 = .ok (.istore 8, 2) := by decide +kernel
theorem dX2_line_80 : decode cX2_line 80 = .ok (.iload 8, 2) := by decide +kernel
theorem dX2_line_82 : decode cX2_line 82 = .ok (.ifCond .eq 8, 3) := by decide +kernel
theorem dX2_line_85 : decode cX2_line 85 = .ok (.iload 6, 2) := by decide +kernel
theorem dX2_line_87 : decode cX2_line 87 = .ok (.goto 5, 3) := by decide +kernel
theorem dX2_line_90 : decode cX2_line 90 = .ok (.iload 7, 2) := by decide +kernel
theorem dX2_line_92 : decode cX2_line 92 = .ok (.istore 9, 2) := by decide +kernel
theorem dX2_line_94 : decode cX2_line 94 = .ok (.iload 8, 2) := by decide +kernel
theorem dX2_line_96 : decode cX2_line 96 = .ok (.ifCond .eq 8, 3) := by decide +kernel
theorem dX2_line_99 : decode cX2_line 99 = .ok (.iload 7, 2) := by decide +kernel
theorem dX2_line_101 : decode cX2_line 101 = .ok (.goto 5, 3) := by decide +kernel
theorem dX2_line_104 : decode cX2_line 104 = .ok (.iload 6, 2) := by decide +kernel
theorem dX2_line_106 : decode cX2_line 106 = .ok (.istore 10, 2) := by decide +kernel
theorem dX2_line_108 : decode cX2_line 108 = .ok (.iconst 0, 1) := by decide +kernel
theorem dX2_line_109 : decode cX2_line 109 = .ok (.istore 11, 2) := by decide +kernel
theorem dX2_line_111 : decode cX2_line 111 = .ok (.iconst 0, 1) := by decide +kernel
theorem dX2_line_112 : decode cX2_line 112 = .ok (.istore 12, 2) := by decide +kernel
theorem dX2_line_114 : decode cX2_line 114 = .ok (.iload 12, 2) := by decide +kernel
theorem dX2_line_116 : decode cX2_line 116 = .ok (.iload 9, 2) := by decide +kernel
theorem dX2_line_118 : decode cX2_line 118 = .ok (.if_icmp .gt 122, 3) := by decide +kernel
theorem dX2_line_121 : decode cX2_line 121 = .ok (.iload 9, 2) := by decide +kernel
theorem dX2_line_123 : decode cX2_line 123 = .ok (.ifCond .ne 7, 3) := by decide +kernel
theorem dX2_line_126 : decode cX2_line 126 = .ok (.iconst 0, 1) := by decide +kernel
theorem dX2_line_127 : decode cX2_line 127 = .ok (.goto 29, 3) := by decide +kernel
theorem dX2_line_130 : decode cX2_line 130 = .ok (.ldc2_w 69, 3) := by decide +kernel
theorem dX2_line_133 : decode cX2_line 133 = .ok (.iload 12, 2) := by decide +kernel
theorem dX2_line_135 : decode cX2_line 135 = .ok (.i2l, 1) := by decide +kernel
theorem dX2_line_136 : decode cX2_line 136 = .ok (.lmul, 1) := by decide +kernel
theorem dX2_line_137 : decode cX2_line 137 = .ok (.iload 10, 2) := by decide +kernel
theorem dX2_line_139 : decode cX2_line 139 = .ok (.i2l, 1) := by decide +kernel
theorem dX2_line_140 : decode cX2_line 140 = .ok (.lmul, 1) := by decide +kernel
theorem dX2_line_141 : decode cX2_line 141 = .ok (.iload 9, 2) := by decide +kernel
theorem dX2_line_143 : decode cX2_line 143 = .ok (.i2l, 1) := by decide +kernel
theorem dX2_line_144 : decode cX2_line 144 = .ok (.ladd, 1) := by decide +kernel
theorem dX2_line_145 : decode cX2_line 145 = .ok (.lconst 1, 1) := by decide +kernel
theorem dX2_line_146 : decode cX2_line 146 = .ok (.lsub, 1) := by decide +kernel
theorem dX2_line_147 : decode cX2_line 147 = .ok (.ldc2_w 69, 3) := by decide +kernel
theorem dX2_line_150 : decode cX2_line 150 = .ok (.iload 9, 2) := by decide +kernel
theorem dX2_line_152 : decode cX2_line 152 = .ok (.i2l, 1) := by decide +kernel
theorem dX2_line_153 : decode cX2_line 153 = .ok (.lmul, 1) := by decide +kernel
theorem dX2_line_154 : decode cX2_line 154 = .ok (.ldiv, 1) := by decide +kernel
theorem dX2_line_155 : decode cX2_line 155 = .ok (.l2i, 1) := by decide +kernel
theorem dX2_line_156 : decode cX2_line 156 = .ok (.istore 13, 2) := by decide +kernel
theorem dX2_line_158 : decode cX2_line 158 = .ok (.iload_n 1, 1) := by decide +kernel
theorem dX2_line_159 : decode cX2_line 159 = .ok (.iload_n 3, 1) := by decide +kernel
theorem dX2_line_160 : decode cX2_line 160 = .ok (.iload_n 1, 1) := by decide +kernel
theorem dX2_line_161 : decode cX2_line 161 = .ok (.isub, 1) := by decide +kernel
theorem dX2_line_162 : decode cX2_line 162 = .ok (.invokestatic 71, 3) := by decide +kernel
theorem dX2_line_165 : decode cX2_line 165 = .ok (.iload 8, 2) := by decide +kernel
theorem dX2_line_167 : decode cX2_line 167 = .ok (.ifCond .eq 8, 3) := by decide +kernel
theorem dX2_line_170 : decode cX2_line 170 = .ok (.iload 12, 2) := by decide +kernel
theorem dX2_line_172 : decode cX2_line 172 = .ok (.goto 5, 3) := by decide +kernel
theorem dX2_line_175 : decode cX2_line 175 = .ok (.iload 13, 2) := by decide +kernel
theorem dX2_line_177 : decode cX2_line 177 = .ok (.imul, 1) := by decide +kernel
theorem dX2_line_178 : decode cX2_line 178 = .ok (.iadd, 1) := by decide +kernel
theorem dX2_line_179 : decode cX2_line 179 = .ok (.istore 14, 2) := by decide +kernel
theorem dX2_line_181 : decode cX2_line 181 = .ok (.iload_n 2, 1) := by decide +kernel
theorem dX2_line_182 : decode cX2_line 182 = .ok (.iload 4, 2) := by decide +kernel
theorem dX2_line_184 : decode cX2_line 184 = .ok (.iload_n 2, 1) := by decide +kernel
theorem dX2_line_185 : decode cX2_line 185 = .ok (.isub, 1) := by decide +kernel
theorem dX2_line_186 : decode cX2_line 186 = .ok (.invokestatic 71, 3) := by decide +kernel
theorem dX2_line_189 : decode cX2_line 189 = .ok (.iload 8, 2) := by decide +kernel
theorem dX2_line_191 : decode cX2_line 191 = .ok (.ifCond .eq 8, 3) := by decide +kernel
theorem dX2_line_194 : decode cX2_line 194 = .ok (.iload 13, 2) := by decide +kernel
theorem dX2_line_196 : decode cX2_line 196 = .ok (.goto 5, 3) := by decide +kernel
theorem dX2_line_199 : decode cX2_line 199 = .ok (.iload 12, 2) := by decide +kernel
theorem dX2_line_201 : decode cX2_line 201 = .ok (.imul, 1) := by decide +kernel
theorem dX2_line_202 : decode cX2_line 202 = .ok (.iadd, 1) := by decide +kernel
theorem dX2_line_203 : decode cX2_line 203 = .ok (.istore 15, 2) := by decide +kernel
theorem dX2_line_205 : decode cX2_line 205 = .ok (.aload_n 0, 1) := by decide +kernel
theorem dX2_line_206 : decode cX2_line 206 = .ok (.iload 14, 2) := by decide +kernel
theorem dX2_line_208 : decode cX2_line 208 = .ok (.iload 15, 2) := by decide +kernel
theorem dX2_line_210 : decode cX2_line 210 = .ok (.invokevirtual 75, 3) := by decide +kernel
theorem dX2_line_213 : decode cX2_line 213 = .ok (.ifCond .eq 21, 3) := by decide +kernel
theorem dX2_line_216 : decode cX2_line 216 = .ok (.aload_n 0, 1) := by decide +kernel
theorem dX2_line_217 : decode cX2_line 217 = .ok (.getfield 7, 3) := by decide +kernel
theorem dX2_line_220 : decode cX2_line 220 = .ok (.bipush 24, 2) := by decide +kernel
theorem dX2_line_222 : decode cX2_line 222 = .ok (.iload 15, 2) := by decide +kernel
theorem dX2_line_224 : decode cX2_line 224 = .ok (.imul, 1) := by decide +kernel
theorem dX2_line_225 : decode cX2_line 225 = .ok (.iload 14, 2) := by decide +kernel
theorem dX2_line_227 : decode cX2_line 227 = .ok (.iadd, 1) := by decide +kernel
theorem dX2_line_228 : decode cX2_line 228 = .ok (.iload 5, 2) := by decide +kernel
theorem dX2_line_230 : decode cX2_line 230 = .ok (.iastore, 1) := by decide +kernel
theorem dX2_line_231 : decode cX2_line 231 = .ok (.iinc 11 1, 3) := by decide +kernel
theorem dX2_line_234 : decode cX2_line 234 = .ok (.iinc 12 1, 3) := by decide +kernel
theorem dX2_line_237 : decode cX2_line 237 = .ok (.goto (-123), 3) := by decide +kernel
theorem dX2_line_240 : decode cX2_line 240 = .ok (.iload 11, 2) := by decide +kernel
theorem dX2_line_242 : decode cX2_line 242 = .ok (.ireturn, 1) := by decide +kernel
theorem dX2_mark_0 : decode cX2_mark 0 = .ok (.aload_n 0, 1) := by decide +kernel
theorem dX2_mark_1 : decode cX2_mark 1 = .ok (.getfield 7, 3) := by decide +kernel
theorem dX2_mark_4 : decode cX2_mark 4 = .ok (.bipush 24, 2) := by decide +kernel
theorem dX2_mark_6 : decode cX2_mark 6 = .ok (.iload_n 2, 1) := by decide +kernel
theorem dX2_mark_7 : decode cX2_mark 7 = .ok (.imul, 1) := by decide +kernel
theorem dX2_mark_8 : decode cX2_mark 8 = .ok (.iload_n 1, 1) := by decide +kernel
theorem dX2_mark_9 : decode cX2_mark 9 = .ok (.iadd, 1) := by decide +kernel
theorem dX2_mark_10 : decode cX2_mark 10 = .ok (.iaload, 1) := by decide +kernel
theorem dX2_mark_11 : decode cX2_mark 11 = .ok (.istore_n 3, 1) := by decide +kernel
theorem dX2_mark_12 : decode cX2_mark 12 = .ok (.aload_n 0, 1) := by decide +kernel
theorem dX2_mark_13 : decode cX2_mark 13 = .ok (.getfield 25, 3) := by decide +kernel
theorem dX2_mark_16 : decode cX2_mark 16 = .ok (.bipush 24, 2) := by decide +kernel
theorem dX2_mark_18 : decode cX2_mark 18 = .ok (.iload_n 2, 1) := by decide +kernel
theorem dX2_mark_19 : decode cX2_mark 19 = .ok (.imul, 1) := by decide +kernel
theorem dX2_mark_20 : decode cX2_mark 20 = .ok (.iload_n 1, 1) := by decide +kernel
theorem dX2_mark_21 : decode cX2_mark 21 = .ok (.iadd, 1) := by decide +kernel
theorem dX2_mark_22 : decode cX2_mark 22 = .ok (.iconst 1, 1) := by decide +kernel
theorem dX2_mark_23 : decode cX2_mark 23 = .ok (.bastore, 1) := by decide +kernel
theorem dX2_mark_24 : decode cX2_mark 24 = .ok (.iconst 1, 1) := by decide +kernel
theorem dX2_mark_25 : decode cX2_mark 25 = .ok (.istore 4, 2) := by decide +kernel
theorem dX2_mark_27 : decode cX2_mark 27 = .ok (.iconst 1, 1) := by decide +kernel
theorem dX2_mark_28 : decode cX2_mark 28 = .ok (.istore 5, 2) := by decide +kernel
theorem dX2_mark_30 : decode cX2_mark 30 = .ok (.iload 5, 2) := by decide +kernel
theorem dX2_mark_32 : decode cX2_mark 32 = .ok (.ifCond .eq 184, 3) := by decide +kernel
theorem dX2_mark_35 : decode cX2_mark 35 = .ok (.iconst 0, 1) := by decide +kernel
theorem dX2_mark_36 : decode cX2_mark 36 = .ok (.istore 5, 2) := by decide +kernel
theorem dX2_mark_38 : decode cX2_mark 38 = .ok (.iconst 0, 1) := by decide +kernel
theorem dX2_mark_39 : decode cX2_mark 39 = .ok (.istore 6, 2) := by decide +kernel
theorem dX2_mark_41 : decode cX2_mark 41 = .ok (.iload 6, 2) := by decide +kernel
theorem dX2_mark_43 : decode cX2_mark 43 = .ok (.aload_n 0, 1) := by decide +kernel
theorem dX2_mark_44 : decode cX2_mark 44 = .ok (.getfield 33, 3) := by decide +kernel
theorem dX2_mark_47 : decode cX2_mark 47 = .ok (.if_icmp .ge 166, 3) := by decide +kernel
theorem dX2_mark_50 : decode cX2_mark 50 = .ok (.iconst 0, 1) := by decide +kernel
theorem dX2_mark_51 : decode cX2_mark 51 = .ok (.istore 7, 2) := by decide +kernel
theorem dX2_mark_53 : decode cX2_mark 53 = .ok (.iload 7, 2) := by decide +kernel
theorem dX2_mark_55 : decode cX2_mark 55 = .ok (.aload_n 0, 1) := by decide +kernel
theorem dX2_mark_56 : decode cX2_mark 56 = .ok (.getfield 29, 3) := by decide +kernel
theorem dX2_mark_59 : decode cX2_mark 59 = .ok (.if_icmp .ge 148, 3) := by decide +kernel
theorem dX2_mark_62 : decode cX2_mark 62 = .ok (.bipush 24, 2) := by decide +kernel
theorem dX2_mark_64 : decode cX2_mark 64 = .ok (.iload 6, 2) := by decide +kernel
theorem dX2_mark_66 : decode cX2_mark 66 = .ok (.imul, 1) := by decide +kernel
theorem dX2_mark_67 : decode cX2_mark 67 = .ok (.iload 7, 2) := by decide +kernel
theorem dX2_mark_69 : decode cX2_mark 69 = .ok (.iadd, 1) := by decide +kernel
theorem dX2_mark_70 : decode cX2_mark 70 = .ok (.istore 8, 2) := by decide +kernel
theorem dX2_mark_72 : decode cX2_mark 72 = .ok (.iload 7, 2) := by decide +kernel
theorem dX2_mark_74 : decode cX2_mark 74 = .ok (.ifCond .le 15, 3) := by decide +kernel
theorem dX2_mark_77 : decode cX2_mark 77 = .ok (.aload_n 0, 1) := by decide +kernel
theorem dX2_mark_78 : decode cX2_mark 78 = .ok (.getfield 25, 3) := by decide +kernel
theorem dX2_mark_81 : decode cX2_mark 81 = .ok (.iload 8, 2) := by decide +kernel
theorem dX2_mark_83 : decode cX2_mark 83 = .ok (.iconst 1, 1) := by decide +kernel
theorem dX2_mark_84 : decode cX2_mark 84 = .ok (.isub, 1) := by decide +kernel
theorem dX2_mark_85 : decode cX2_mark 85 = .ok (.baload, 1) := by decide +kernel
theorem dX2_mark_86 : decode cX2_mark 86 = .ok (.ifCond .ne 68, 3) := by decide +kernel
theorem dX2_mark_89 : decode cX2_mark 89 = .ok (.iload 7, 2) := by decide +kernel
theorem dX2_mark_91 : decode cX2_mark 91 = .ok (.iconst 1, 1) := by decide +kernel
theorem dX2_mark_92 : decode cX2_mark 92 = .ok (.iadd, 1) := by decide +kernel
theorem dX2_mark_93 : decode cX2_mark 93 = .ok (.aload_n 0, 1) := by decide +kernel
theorem dX2_mark_94 : decode cX2_mark 94 = .ok (.getfield 29, 3) := by decide +kernel
theorem dX2_mark_97 : decode cX2_mark 97 = .ok (.if_icmp .ge 15, 3) := by decide +kernel
theorem dX2_mark_100 : decode cX2_mark 100 = .ok (.aload_n 0, 1) := by decide +kernel
theorem dX2_mark_101 : decode cX2_mark 101 = .ok (.getfield 25, 3) := by decide +kernel
theorem dX2_mark_104 : decode cX2_mark 104 = .ok (.iload 8, 2) := by decide +kernel
theorem dX2_mark_106 : decode cX2_mark 106 = .ok (.iconst 1, 1) := by decide +kernel
theorem dX2_mark_107 : decode cX2_mark 107 = .ok (.iadd, 1) := by decide +kernel
theorem dX2_mark_108 : decode cX2_mark 108 = .ok (.baload, 1) := by decide +kernel
theorem dX2_mark_109 : decode cX2_mark 109 = .ok (.ifCond .ne 45, 3) := by decide +kernel
theorem dX2_mark_112 : decode cX2_mark 112 = .ok (.iload 6, 2) := by decide +kernel
theorem dX2_mark_114 : decode cX2_mark 114 = .ok (.ifCond .le 16, 3) := by decide +kernel
theorem dX2_mark_117 : decode cX2_mark 117 = .ok (.aload_n 0, 1) := by decide +kernel
theorem dX2_mark_118 : decode cX2_mark 118 = .ok (.getfield 25, 3) := by decide +kernel
theorem dX2_mark_121 : decode cX2_mark 121 = .ok (.iload 8, 2) := by decide +kernel
theorem dX2_mark_123 : decode cX2_mark 123 = .ok (.bipush 24, 2) := by decide +kernel
theorem dX2_mark_125 : decode cX2_mark 125 = .ok (.isub, 1) := by decide +kernel
theorem dX2_mark_126 : decode cX2_mark 126 = .ok (.baload, 1) := by decide +kernel
theorem dX2_mark_127 : decode cX2_mark 127 = .ok (.ifCond .ne 27, 3) := by decide +kernel
theorem dX2_mark_130 : decode cX2_mark 130 = .ok (.iload 6, 2) := by decide +kernel
theorem dX2_mark_132 : decode cX2_mark 132 = .ok (.iconst 1, 1) := by decide +kernel
theorem dX2_mark_133 : decode cX2_mark 133 = .ok (.iadd, 1) := by decide +kernel
theorem dX2_mark_134 : decode cX2_mark 134 = .ok (.aload_n 0, 1) := by decide +kernel
theorem dX2_mark_135 : decode cX2_mark 135 = .ok (.getfield 33, 3) := by decide +kernel
theorem dX2_mark_138 : decode cX2_mark 138 = .ok (.if_icmp .ge 20, 3) := by decide +kernel
theorem dX2_mark_141 : decode cX2_mark 141 = .ok (.aload_n 0, 1) := by decide +kernel
theorem dX2_mark_142 : decode cX2_mark 142 = .ok (.getfield 25, 3) := by decide +kernel
theorem dX2_mark_145 : decode cX2_mark 145 = .ok (.iload 8, 2) := by decide +kernel
theorem dX2_mark_147 : decode cX2_mark 147 = .ok (.bipush 24, 2) := by decide +kernel
theorem dX2_mark_149 : decode cX2_mark 149 = .ok (.iadd, 1) := by decide +kernel
theorem dX2_mark_150 : decode cX2_mark 150 = .ok (.baload, 1) := by decide +kernel
theorem dX2_mark_151 : decode cX2_mark 151 = .ok (.ifCond .eq 7, 3) := by decide +kernel
theorem dX2_mark_154 : decode cX2_mark 154 = .ok (.iconst 1, 1) := by decide +kernel
theorem dX2_mark_155 : decode cX2_mark 155 = .ok (.goto 4, 3) := by decide +kernel
theorem dX2_mark_158 : decode cX2_mark 158 = .ok (.iconst 0, 1) := by decide +kernel
theorem dX2_mark_159 : decode cX2_mark 159 = .ok (.istore 9, 2) := by decide +kernel
theorem dX2_mark_161 : decode cX2_mark 161 = .ok (.aload_n 0, 1) := by decide +kernel
theorem dX2_mark_162 : decode cX2_mark 162 = .ok (.getfield 25, 3) := by decide +kernel
theorem dX2_mark_165 : decode cX2_mark 165 = .ok (.iload 8, 2) := by decide +kernel
theorem dX2_mark_167 : decode cX2_mark 167 = .ok (.baload, 1) := by decide +kernel
theorem dX2_mark_168 : decode cX2_mark 168 = .ok (.ifCond .ne 33, 3) := by decide +kernel
theorem dX2_mark_171 : decode cX2_mark 171 = .ok (.aload_n 0, 1) := by decide +kernel
theorem dX2_mark_172 : decode cX2_mark 172 = .ok (.getfield 7, 3) := by decide +kernel
theorem dX2_mark_175 : decode cX2_mark 175 = .ok (.iload 8, 2) := by decide +kernel
theorem dX2_mark_177 : decode cX2_mark 177 = .ok (.iaload, 1) := by decide +kernel
theorem dX2_mark_178 : decode cX2_mark 178 = .ok (.iload_n 3, 1) := by decide +kernel
theorem dX2_mark_179 : decode cX2_mark 179 = .ok (.if_icmp .ne 22, 3) := by decide +kernel
theorem dX2_mark_182 : decode cX2_mark 182 = .ok (.iload 9, 2) := by decide +kernel
theorem dX2_mark_184 : decode cX2_mark 184 = .ok (.ifCond .eq 17, 3) := by decide +kernel
theorem dX2_mark_187 : decode cX2_mark 187 = .ok (.aload_n 0, 1) := by decide +kernel
theorem dX2_mark_188 : decode cX2_mark 188 = .ok (.getfield 25, 3) := by decide +kernel
theorem dX2_mark_191 : decode cX2_mark 191 = .ok (.iload 8, 2) := by decide +kernel
theorem dX2_mark_193 : decode cX2_mark 193 = .ok (.iconst 1, 1) := by decide +kernel
theorem dX2_mark_194 : decode cX2_mark 194 = .ok (.bastore, 1) := by decide +kernel
theorem dX2_mark_195 : decode cX2_mark 195 = .ok (.iinc 4 1, 3) := by decide +kernel
theorem dX2_mark_198 : decode cX2_mark 198 = .ok (.iconst 1, 1) := by decide +kernel
theorem dX2_mark_199 : decode cX2_mark 199 = .ok (.istore 5, 2) := by decide +kernel
theorem dX2_mark_201 : decode cX2_mark 201 = .ok (.iinc 7 1, 3) := by decide +kernel
theorem dX2_mark_204 : decode cX2_mark 204 = .ok (.goto (-151), 3) := by decide +kernel
theorem dX2_mark_207 : decode cX2_mark 207 = .ok (.iinc 6 1, 3) := by decide +kernel
theorem dX2_mark_210 : decode cX2_mark 210 = .ok (.goto (-169), 3) := by decide +kernel
theorem dX2_mark_213 : decode cX2_mark 213 = .ok (.goto (-183), 3) := by decide +kernel
theorem dX2_mark_216 : decode cX2_mark 216 = .ok (.iload 4, 2) := by decide +kernel
theorem dX2_mark_218 : decode cX2_mark 218 = .ok (.ireturn, 1) := by decide +kernel
theorem dX2_unmark_0 : decode cX2_unmark 0 = .ok (.iconst 0, 1) := by decide +kernel
theorem dX2_unmark_1 : decode cX2_unmark 1 = .ok (.istore_n 1, 1) := by decide +kernel
theorem dX2_unmark_2 : decode cX2_unmark 2 = .ok (.iload_n 1, 1) := by decide +kernel
theorem dX2_unmark_3 : decode cX2_unmark 3 = .ok (.sipush 576, 3) := by decide +kernel
theorem dX2_unmark_6 : decode cX2_unmark 6 = .ok (.if_icmp .ge 16, 3) := by decide +kernel
theorem dX2_unmark_9 : decode cX2_unmark 9 = .ok (.aload_n 0, 1) := by decide +kernel
theorem dX2_unmark_10 : decode cX2_unmark 10 = .ok (.getfield 25, 3) := by decide +kernel
theorem dX2_unmark_13 : decode cX2_unmark 13 = .ok (.iload_n 1, 1) := by decide +kernel
theorem dX2_unmark_14 : decode cX2_unmark 14 = .ok (.iconst 0, 1) := by decide +kernel
theorem dX2_unmark_15 : decode cX2_unmark 15 = .ok (.bastore, 1) := by decide +kernel
theorem dX2_unmark_16 : decode cX2_unmark 16 = .ok (.iinc 1 1, 3) := by decide +kernel
theorem dX2_unmark_19 : decode cX2_unmark 19 = .ok (.goto (-17), 3) := by decide +kernel
theorem dX2_unmark_22 : decode cX2_unmark 22 = .ok (.return_, 1) := by decide +kernel
set_option maxRecDepth 20000 in
theorem ggX2_fill_X2_isPixel : GoodIn wsX2_fill wsX2_isPixel := goodIn_r _ [7, 8, 9, 18, 19, 20, 21, 22, 23, 24, 25] (by decide +kernel) (by decide +kernel)
set_option maxRecDepth 20000 in
theorem gX2_fill_X2_isPixel : GoodIn wsX2_fill (wsV RX2 75 RX2 yX2_isPixel wsX2_isPixel) := goodIn_app (goodIn_of _ (by decide +kernel)) ggX2_fill_X2_isPixel
set_option maxRecDepth 20000 in
theorem ggX2_fill_X2_unmark : GoodIn wsX2_fill wsX2_unmark := goodIn_r _ [13, 2, 18, 19, 20, 21, 22, 23, 24, 25] (by decide +kernel) (by decide +kernel)
set_option maxRecDepth 20000 in
theorem gX2_fill_X2_unmark : GoodIn wsX2_fill (wsV RX2 78 RX2 yX2_unmark wsX2_unmark) := goodIn_app (goodIn_of _ (by decide +kernel)) ggX2_fill_X2_unmark
set_option maxRecDepth 20000 in
theorem ggX2_fill_X2_mark : GoodIn wsX2_fill wsX2_mark := goodIn_r _ [17, 1, 2, 9, 8, 18, 19, 20, 21, 22, 23, 24, 25] (by decide +kernel) (by decide +kernel)
set_option maxRecDepth 20000 in
theorem gX2_fill_X2_mark : GoodIn wsX2_fill (wsV RX2 81 RX2 yX2_mark wsX2_mark) := goodIn_app (goodIn_of _ (by decide +kernel)) ggX2_fill_X2_mark
theorem dX2_fill_0 : decode cX2_fill 0 = .ok (.aload_n 0, 1) := by decide +kernel
theorem dX2_fill_1 : decode cX2_fill 1 = .ok (.iload_n 1, 1) := by decide +kernel
theorem dX2_fill_2 : decode cX2_fill 2 = .ok (.iload_n 2, 1) := by decide +kernel
theorem dX2_fill_3 : decode cX2_fill 3 = .ok (.invokevirtual 75, 3) := by decide +kernel
theorem dX2_fill_6 : decode cX2_fill 6 = .ok (.ifCond .eq 18, 3) := by decide +kernel
theorem dX2_fill_9 : decode cX2_fill 9 = .ok (.aload_n 0, 1) := by decide +kernel
theorem dX2_fill_10 : decode cX2_fill 10 = .ok (.getfield 7, 3) := by decide +kernel
theorem dX2_fill_13 : decode cX2_fill 13 = .ok (.bipush 24, 2) := by decide +kernel
theorem dX2_fill_15 : decode cX2_fill 15 = .ok (.iload_n 2, 1) := by decide +kernel
theorem dX2_fill_16 : decode cX2_fill 16 = .ok (.imul, 1) := by decide +kernel
theorem dX2_fill_17 : decode cX2_fill 17 = .ok (.iload_n 1, 1) := by decide +kernel
theorem dX2_fill_18 : decode cX2_fill 18 = .ok (.iadd, 1) := by decide +kernel
theorem dX2_fill_19 : decode cX2_fill 19 = .ok (.iaload, 1) := by decide +kernel
theorem dX2_fill_20 : decode cX2_fill 20 = .ok (.iload_n 3, 1) := by decide +kernel
theorem dX2_fill_21 : decode cX2_fill 21 = .ok (.if_icmp .ne 5, 3) := by decide +kernel
theorem dX2_fill_24 : decode cX2_fill 24 = .ok (.iconst 0, 1) := by decide +kernel
theorem dX2_fill_25 : decode cX2_fill 25 = .ok (.ireturn, 1) := by decide +kernel
theorem dX2_fill_26 : decode cX2_fill 26 = .ok (.aload_n 0, 1) := by decide +kernel
theorem dX2_fill_27 : decode cX2_fill 27 = .ok (.invokevirtual 78, 3) := by decide +kernel
theorem dX2_fill_30 : decode cX2_fill 30 = .ok (.aload_n 0, 1) := by decide +kernel
theorem dX2_fill_31 : decode cX2_fill 31 = .ok (.iload_n 1, 1) := by decide +kernel
theorem dX2_fill_32 : decode cX2_fill 32 = .ok (.iload_n 2, 1) := by decide +kernel
theorem dX2_fill_33 : decode cX2_fill 33 = .ok (.invokevirtual 81, 3) := by decide +kernel
theorem dX2_fill_36 : decode cX2_fill 36 = .ok (.istore 4, 2) := by decide +kernel
theorem dX2_fill_38 : decode cX2_fill 38 = .ok (.iconst 0, 1) := by decide +kernel
theorem dX2_fill_39 : decode cX2_fill 39 = .ok (.istore 5, 2) := by decide +kernel
theorem dX2_fill_41 : decode cX2_fill 41 = .ok (.iload 5, 2) := by decide +kernel
theorem dX2_fill_43 : decode cX2_fill 43 = .ok (.sipush 576, 3) := by decide +kernel
theorem dX2_fill_46 : decode cX2_fill 46 = .ok (.if_icmp .ge 37, 3) := by decide +kernel
theorem dX2_fill_49 : decode cX2_fill 49 = .ok (.aload_n 0, 1) := by decide +kernel
theorem dX2_fill_50 : decode cX2_fill 50 = .ok (.getfield 7, 3) := by decide +kernel
theorem dX2_fill_53 : decode cX2_fill 53 = .ok (.iload 5, 2) := by decide +kernel
theorem dX2_fill_55 : decode cX2_fill 55 = .ok (.aload_n 0, 1) := by decide +kernel
theorem dX2_fill_56 : decode cX2_fill 56 = .ok (.getfield 25, 3) := by decide +kernel
theorem dX2_fill_59 : decode cX2_fill 59 = .ok (.iload 5, 2) := by decide +kernel
theorem dX2_fill_61 : decode cX2_fill 61 = .ok (.baload, 1) := by decide +kernel
theorem dX2_fill_62 : decode cX2_fill 62 = .ok (.ifCond .eq 7, 3) := by decide +kernel
theorem dX2_fill_65 : decode cX2_fill 65 = .ok (.iload_n 3, 1) := by decide +kernel
theorem dX2_fill_66 : decode cX2_fill 66 = .ok (.goto 10, 3) := by decide +kernel
theorem dX2_fill_69 : decode cX2_fill 69 = .ok (.aload_n 0, 1) := by decide +kernel
theorem dX2_fill_70 : decode cX2_fill 70 = .ok (.getfield 7, 3) := by decide +kernel
theorem dX2_fill_73 : decode cX2_fill 73 = .ok (.iload 5, 2) := by decide +kernel
theorem dX2_fill_75 : decode cX2_fill 75 = .ok (.iaload, 1) := by decide +kernel
theorem dX2_fill_76 : decode cX2_fill 76 = .ok (.iastore, 1) := by decide +kernel
theorem dX2_fill_77 : decode cX2_fill 77 = .ok (.iinc 5 1, 3) := by decide +kernel
theorem dX2_fill_80 : decode cX2_fill 80 = .ok (.goto (-39), 3) := by decide +kernel
theorem dX2_fill_83 : decode cX2_fill 83 = .ok (.iload 4, 2) := by decide +kernel
theorem dX2_fill_85 : decode cX2_fill 85 = .ok (.ireturn, 1) := by decide +kernel
set_option maxRecDepth 20000 in
theorem ggX2_pieces_X2_unmark : GoodIn wsX2_pieces wsX2_unmark := goodIn_r _ [9, 4, 14, 15, 16, 17, 18, 19, 20, 21] (by decide +kernel) (by decide +kernel)
set_option maxRecDepth 20000 in
theorem gX2_pieces_X2_unmark : GoodIn wsX2_pieces (wsV RX2 78 RX2 yX2_unmark wsX2_unmark) := goodIn_app (goodIn_of _ (by decide +kernel)) ggX2_pieces_X2_unmark
set_option maxRecDepth 20000 in
theorem ggX2_pieces_X2_mark : GoodIn wsX2_pieces wsX2_mark := goodIn_r _ [13, 3, 4, 1, 2, 14, 15, 16, 17, 18, 19, 20, 21] (by decide +kernel) (by decide +kernel)
set_option maxRecDepth 20000 in
theorem gX2_pieces_X2_mark : GoodIn wsX2_pieces (wsV RX2 81 RX2 yX2_mark wsX2_mark) := goodIn_app (goodIn_of _ (by decide +kernel)) ggX2_pieces_X2_mark
theorem dX2_pieces_0 : decode cX2_pieces 0 = .ok (.aload_n 0, 1) := by decide +kernel
theorem dX2_pieces_1 : decode cX2_pieces 1 = .ok (.invokevirtual 78, 3) := by decide +kernel
theorem dX2_pieces_4 : decode cX2_pieces 4 = .ok (.iconst 0, 1) := by decide +kernel
theorem dX2_pieces_5 : decode cX2_pieces 5 = .ok (.istore_n 2, 1) := by decide +kernel
theorem dX2_pieces_6 : decode cX2_pieces 6 = .ok (.iconst 0, 1) := by decide +kernel
theorem dX2_pieces_7 : decode cX2_pieces 7 = .ok (.istore_n 3, 1) := by decide +kernel
theorem dX2_pieces_8 : decode cX2_pieces 8 = .ok (.iload_n 3, 1) := by decide +kernel
theorem dX2_pieces_9 : decode cX2_pieces 9 = .ok (.aload_n 0, 1) := by decide +kernel
theorem dX2_pieces_10 : decode cX2_pieces 10 = .ok (.getfield 33, 3) := by decide +kernel
theorem dX2_pieces_13 : decode cX2_pieces 13 = .ok (.if_icmp .ge 69, 3) := by decide +kernel
theorem dX2_pieces_16 : decode cX2_pieces 16 = .ok (.iconst 0, 1) := by decide +kernel
theorem dX2_pieces_17 : decode cX2_pieces 17 = .ok (.istore 4, 2) := by decide +kernel
theorem dX2_pieces_19 : decode cX2_pieces 19 = .ok (.iload 4, 2) := by decide +kernel
theorem dX2_pieces_21 : decode cX2_pieces 21 = .ok (.aload_n 0, 1) := by decide +kernel
theorem dX2_pieces_22 : decode cX2_pieces 22 = .ok (.getfield 29, 3) := by decide +kernel
theorem dX2_pieces_25 : decode cX2_pieces 25 = .ok (.if_icmp .ge 51, 3) := by decide +kernel
theorem dX2_pieces_28 : decode cX2_pieces 28 = .ok (.aload_n 0, 1) := by decide +kernel
theorem dX2_pieces_29 : decode cX2_pieces 29 = .ok (.getfield 7, 3) := by decide +kernel
theorem dX2_pieces_32 : decode cX2_pieces 32 = .ok (.bipush 24, 2) := by decide +kernel
theorem dX2_pieces_34 : decode cX2_pieces 34 = .ok (.iload_n 3, 1) := by decide +kernel
theorem dX2_pieces_35 : decode cX2_pieces 35 = .ok (.imul, 1) := by decide +kernel
theorem dX2_pieces_36 : decode cX2_pieces 36 = .ok (.iload 4, 2) := by decide +kernel
theorem dX2_pieces_38 : decode cX2_pieces 38 = .ok (.iadd, 1) := by decide +kernel
theorem dX2_pieces_39 : decode cX2_pieces 39 = .ok (.iaload, 1) := by decide +kernel
theorem dX2_pieces_40 : decode cX2_pieces 40 = .ok (.iload_n 1, 1) := by decide +kernel
theorem dX2_pieces_41 : decode cX2_pieces 41 = .ok (.if_icmp .ne 29, 3) := by decide +kernel
theorem dX2_pieces_44 : decode cX2_pieces 44 = .ok (.aload_n 0, 1) := by decide +kernel
theorem dX2_pieces_45 : decode cX2_pieces 45 = .ok (.getfield 25, 3) := by decide +kernel
theorem dX2_pieces_48 : decode cX2_pieces 48 = .ok (.bipush 24, 2) := by decide +kernel
theorem dX2_pieces_50 : decode cX2_pieces 50 = .ok (.iload_n 3, 1) := by decide +kernel
theorem dX2_pieces_51 : decode cX2_pieces 51 = .ok (.imul, 1) := by decide +kernel
theorem dX2_pieces_52 : decode cX2_pieces 52 = .ok (.iload 4, 2) := by decide +kernel
theorem dX2_pieces_54 : decode cX2_pieces 54 = .ok (.iadd, 1) := by decide +kernel
theorem dX2_pieces_55 : decode cX2_pieces 55 = .ok (.baload, 1) := by decide +kernel
theorem dX2_pieces_56 : decode cX2_pieces 56 = .ok (.ifCond .ne 14, 3) := by decide +kernel
theorem dX2_pieces_59 : decode cX2_pieces 59 = .ok (.aload_n 0, 1) := by decide +kernel
theorem dX2_pieces_60 : decode cX2_pieces 60 = .ok (.iload 4, 2) := by decide +kernel
theorem dX2_pieces_62 : decode cX2_pieces 62 = .ok (.iload_n 3, 1) := by decide +kernel
theorem dX2_pieces_63 : decode cX2_pieces 63 = .ok (.invokevirtual 81, 3) := by decide +kernel
theorem dX2_pieces_66 : decode cX2_pieces 66 = .ok (.pop, 1) := by decide +kernel
theorem dX2_pieces_67 : decode cX2_pieces 67 = .ok (.iinc 2 1, 3) := by decide +kernel
theorem dX2_pieces_70 : decode cX2_pieces 70 = .ok (.iinc 4 1, 3) := by decide +kernel
theorem dX2_pieces_73 : decode cX2_pieces 73 = .ok (.goto (-54), 3) := by decide +kernel
theorem dX2_pieces_76 : decode cX2_pieces 76 = .ok (.iinc 3 1, 3) := by decide +kernel
theorem dX2_pieces_79 : decode cX2_pieces 79 = .ok (.goto (-71), 3) := by decide +kernel
theorem dX2_pieces_82 : decode cX2_pieces 82 = .ok (.iload_n 2, 1) := by decide +kernel
theorem dX2_pieces_83 : decode cX2_pieces 83 = .ok (.ireturn, 1) := by decide +kernel
set_option maxRecDepth 20000 in
theorem ggX2_pixel_X2_isPixel : GoodIn wsX2_pixel wsX2_isPixel := goodIn_r _ [6, 7, 8, 9, 10, 11, 12, 13, 14, 15, 16] (by decide +kernel) (by decide +kernel)
set_option maxRecDepth 20000 in
theorem gX2_pixel_X2_isPixel : GoodIn wsX2_pixel (wsV RX2 75 RX2 yX2_isPixel wsX2_isPixel) := goodIn_app (goodIn_of _ (by decide +kernel)) ggX2_pixel_X2_isPixel
theorem dX2_pixel_0 : decode cX2_pixel 0 = .ok (.aload_n 0, 1) := by decide +kernel
theorem dX2_pixel_1 : decode cX2_pixel 1 = .ok (.iload_n 1, 1) := by decide +kernel
theorem dX2_pixel_2 : decode cX2_pixel 2 = .ok (.iload_n 2, 1) := by decide +kernel
theorem dX2_pixel_3 : decode cX2_pixel 3 = .ok (.invokevirtual 75, 3) := by decide +kernel
theorem dX2_pixel_6 : decode cX2_pixel 6 = .ok (.ifCond .eq 17, 3) := by decide +kernel
theorem dX2_pixel_9 : decode cX2_pixel 9 = .ok (.aload_n 0, 1) := by decide +kernel
theorem dX2_pixel_10 : decode cX2_pixel 10 = .ok (.getfield 7, 3) := by decide +kernel
theorem dX2_pixel_13 : decode cX2_pixel 13 = .ok (.bipush 24, 2) := by decide +kernel
theorem dX2_pixel_15 : decode cX2_pixel 15 = .ok (.iload_n 2, 1) := by decide +kernel
theorem dX2_pixel_16 : decode cX2_pixel 16 = .ok (.imul, 1) := by decide +kernel
theorem dX2_pixel_17 : decode cX2_pixel 17 = .ok (.iload_n 1, 1) := by decide +kernel
theorem dX2_pixel_18 : decode cX2_pixel 18 = .ok (.iadd, 1) := by decide +kernel
theorem dX2_pixel_19 : decode cX2_pixel 19 = .ok (.iaload, 1) := by decide +kernel
theorem dX2_pixel_20 : decode cX2_pixel 20 = .ok (.goto 4, 3) := by decide +kernel
theorem dX2_pixel_23 : decode cX2_pixel 23 = .ok (.iconst (-1), 1) := by decide +kernel
theorem dX2_pixel_24 : decode cX2_pixel 24 = .ok (.ireturn, 1) := by decide +kernel
set_option maxRecDepth 20000 in
theorem ggX2_depthAt_X2_isPixel : GoodIn wsX2_depthAt wsX2_isPixel := goodIn_r _ [6, 7, 8, 9, 10, 11, 12, 13, 14, 15, 16] (by decide +kernel) (by decide +kernel)
set_option maxRecDepth 20000 in
theorem gX2_depthAt_X2_isPixel : GoodIn wsX2_depthAt (wsV RX2 75 RX2 yX2_isPixel wsX2_isPixel) := goodIn_app (goodIn_of _ (by decide +kernel)) ggX2_depthAt_X2_isPixel
theorem dX2_depthAt_0 : decode cX2_depthAt 0 = .ok (.aload_n 0, 1) := by decide +kernel
theorem dX2_depthAt_1 : decode cX2_depthAt 1 = .ok (.iload_n 1, 1) := by decide +kernel
theorem dX2_depthAt_2 : decode cX2_depthAt 2 = .ok (.iload_n 2, 1) := by decide +kernel
theorem dX2_depthAt_3 : decode cX2_depthAt 3 = .ok (.invokevirtual 75, 3) := by decide +kernel
theorem dX2_depthAt_6 : decode cX2_depthAt 6 = .ok (.ifCond .eq 17, 3) := by decide +kernel
theorem dX2_depthAt_9 : decode cX2_depthAt 9 = .ok (.aload_n 0, 1) := by decide +kernel
theorem dX2_depthAt_10 : decode cX2_depthAt 10 = .ok (.getfield 13, 3) := by decide +kernel
theorem dX2_depthAt_13 : decode cX2_depthAt 13 = .ok (.bipush 24, 2) := by decide +kernel
theorem dX2_depthAt_15 : decode cX2_depthAt 15 = .ok (.iload_n 2, 1) := by decide +kernel
theorem dX2_depthAt_16 : decode cX2_depthAt 16 = .ok (.imul, 1) := by decide +kernel
theorem dX2_depthAt_17 : decode cX2_depthAt 17 = .ok (.iload_n 1, 1) := by decide +kernel
theorem dX2_depthAt_18 : decode cX2_depthAt 18 = .ok (.iadd, 1) := by decide +kernel
theorem dX2_depthAt_19 : decode cX2_depthAt 19 = .ok (.iaload, 1) := by decide +kernel
theorem dX2_depthAt_20 : decode cX2_depthAt 20 = .ok (.goto 4, 3) := by decide +kernel
theorem dX2_depthAt_23 : decode cX2_depthAt 23 = .ok (.iconst (-1), 1) := by decide +kernel
theorem dX2_depthAt_24 : decode cX2_depthAt 24 = .ok (.ireturn, 1) := by decide +kernel
theorem dX2_count_0 : decode cX2_count 0 = .ok (.iconst 0, 1) := by decide +kernel
theorem dX2_count_1 : decode cX2_count 1 = .ok (.istore_n 2, 1) := by decide +kernel
theorem dX2_count_2 : decode cX2_count 2 = .ok (.iconst 0, 1) := by decide +kernel
theorem dX2_count_3 : decode cX2_count 3 = .ok (.istore_n 3, 1) := by decide +kernel
theorem dX2_count_4 : decode cX2_count 4 = .ok (.iload_n 3, 1) := by decide +kernel
theorem dX2_count_5 : decode cX2_count 5 = .ok (.aload_n 0, 1) := by decide +kernel
theorem dX2_count_6 : decode cX2_count 6 = .ok (.getfield 33, 3) := by decide +kernel
theorem dX2_count_9 : decode cX2_count 9 = .ok (.if_icmp .ge 51, 3) := by decide +kernel
theorem dX2_count_12 : decode cX2_count 12 = .ok (.iconst 0, 1) := by decide +kernel
theorem dX2_count_13 : decode cX2_count 13 = .ok (.istore 4, 2) := by decide +kernel
theorem dX2_count_15 : decode cX2_count 15 = .ok (.iload 4, 2) := by decide +kernel
