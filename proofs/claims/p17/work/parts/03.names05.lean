theorem dX12_pieces_26 : decode cX12_pieces 26 = .ok (.iconst (-1), 1) := kd_r kbX12_pieces ki_99 rfl
theorem dX12_pieces_27 : decode cX12_pieces 27 = .ok (.ireturn, 1) := kd_r kbX12_pieces ki_7 rfl
theorem dX12_pieces_28 : decode cX12_pieces 28 = .ok (.aload_n 0, 1) := kd_r kbX12_pieces ki_0 rfl
theorem dX12_pieces_29 : decode cX12_pieces 29 = .ok (.getfield 9, 3) := kd_r kbX12_pieces ki_13 rfl
theorem dX12_pieces_32 : decode cX12_pieces 32 = .ok (.iload_n 1, 1) := kd_r kbX12_pieces ki_8 rfl
theorem dX12_pieces_33 : decode cX12_pieces 33 = .ok (.iaload, 1) := kd_r kbX12_pieces ki_14 rfl
theorem dX12_pieces_34 : decode cX12_pieces 34 = .ok (.iconst 2, 1) := kd_r kbX12_pieces ki_244 rfl
theorem dX12_pieces_35 : decode cX12_pieces 35 = .ok (.if_icmp .ge 6, 3) := kd_r kbX12_pieces ki_589 rfl
theorem dX12_pieces_38 : decode cX12_pieces 38 = .ok (.bipush (-2), 2) := kd_r kbX12_pieces ki_39 rfl
theorem dX12_pieces_40 : decode cX12_pieces 40 = .ok (.ireturn, 1) := kd_r kbX12_pieces ki_7 rfl
theorem dX12_pieces_41 : decode cX12_pieces 41 = .ok (.aload_n 0, 1) := kd_r kbX12_pieces ki_0 rfl
theorem dX12_pieces_42 : decode cX12_pieces 42 = .ok (.iload_n 1, 1) := kd_r kbX12_pieces ki_8 rfl
theorem dX12_pieces_43 : decode cX12_pieces 43 = .ok (.iload_n 2, 1) := kd_r kbX12_pieces ki_11 rfl
theorem dX12_pieces_44 : decode cX12_pieces 44 = .ok (.invokevirtual 214, 3) := kd_r kbX12_pieces ki_862 rfl
theorem dX12_pieces_47 : decode cX12_pieces 47 = .ok (.iconst 1, 1) := kd_r kbX12_pieces ki_16 rfl
theorem dX12_pieces_48 : decode cX12_pieces 48 = .ok (.istore 4, 2) := kd_r kbX12_pieces ki_129 rfl
theorem dX12_pieces_50 : decode cX12_pieces 50 = .ok (.iconst 2, 1) := kd_r kbX12_pieces ki_244 rfl
theorem dX12_pieces_51 : decode cX12_pieces 51 = .ok (.istore 5, 2) := kd_r kbX12_pieces ki_133 rfl
theorem dX12_pieces_53 : decode cX12_pieces 53 = .ok (.iload 5, 2) := kd_r kbX12_pieces ki_134 rfl
theorem dX12_pieces_55 : decode cX12_pieces 55 = .ok (.iconst 5, 1) := kd_r kbX12_pieces ki_79 rfl
theorem dX12_pieces_56 : decode cX12_pieces 56 = .ok (.if_icmp .gt 43, 3) := kd_r kbX12_pieces ki_863 rfl
theorem dX12_pieces_59 : decode cX12_pieces 59 = .ok (.aload_n 0, 1) := kd_r kbX12_pieces ki_0 rfl
theorem dX12_pieces_60 : decode cX12_pieces 60 = .ok (.getfield 43, 3) := kd_r kbX12_pieces ki_855 rfl
theorem dX12_pieces_63 : decode cX12_pieces 63 = .ok (.iload 5, 2) := kd_r kbX12_pieces ki_134 rfl
theorem dX12_pieces_65 : decode cX12_pieces 65 = .ok (.iconst 0, 1) := kd_r kbX12_pieces ki_20 rfl
theorem dX12_pieces_66 : decode cX12_pieces 66 = .ok (.invokestatic 205, 3) := kd_r kbX12_pieces ki_856 rfl
theorem dX12_pieces_69 : decode cX12_pieces 69 = .ok (.iaload, 1) := kd_r kbX12_pieces ki_14 rfl
theorem dX12_pieces_70 : decode cX12_pieces 70 = .ok (.aload_n 0, 1) := kd_r kbX12_pieces ki_0 rfl
theorem dX12_pieces_71 : decode cX12_pieces 71 = .ok (.getfield 43, 3) := kd_r kbX12_pieces ki_855 rfl
theorem dX12_pieces_74 : decode cX12_pieces 74 = .ok (.iload 4, 2) := kd_r kbX12_pieces ki_57 rfl
theorem dX12_pieces_76 : decode cX12_pieces 76 = .ok (.iconst 0, 1) := kd_r kbX12_pieces ki_20 rfl
theorem dX12_pieces_77 : decode cX12_pieces 77 = .ok (.invokestatic 205, 3) := kd_r kbX12_pieces ki_856 rfl
theorem dX12_pieces_80 : decode cX12_pieces 80 = .ok (.iaload, 1) := kd_r kbX12_pieces ki_14 rfl
theorem dX12_pieces_81 : decode cX12_pieces 81 = .ok (.if_icmp .ge 8, 3) := kd_r kbX12_pieces ki_323 rfl
theorem dX12_pieces_84 : decode cX12_pieces 84 = .ok (.iload 5, 2) := kd_r kbX12_pieces ki_134 rfl
theorem dX12_pieces_86 : decode cX12_pieces 86 = .ok (.goto 5, 3) := kd_r kbX12_pieces ki_342 rfl
theorem dX12_pieces_89 : decode cX12_pieces 89 = .ok (.iload 4, 2) := kd_r kbX12_pieces ki_57 rfl
theorem dX12_pieces_91 : decode cX12_pieces 91 = .ok (.istore 4, 2) := kd_r kbX12_pieces ki_129 rfl
theorem dX12_pieces_93 : decode cX12_pieces 93 = .ok (.iinc 5 1, 3) := kd_r kbX12_pieces ki_143 rfl
theorem dX12_pieces_96 : decode cX12_pieces 96 = .ok (.goto (-43), 3) := kd_r kbX12_pieces ki_450 rfl
theorem dX12_pieces_99 : decode cX12_pieces 99 = .ok (.iload_n 3, 1) := kd_r kbX12_pieces ki_55 rfl
theorem dX12_pieces_100 : decode cX12_pieces 100 = .ok (.bipush (-2), 2) := kd_r kbX12_pieces ki_39 rfl
theorem dX12_pieces_102 : decode cX12_pieces 102 = .ok (.if_icmp .ne 15, 3) := kd_r kbX12_pieces ki_275 rfl
theorem dX12_pieces_105 : decode cX12_pieces 105 = .ok (.aload_n 0, 1) := kd_r kbX12_pieces ki_0 rfl
theorem dX12_pieces_106 : decode cX12_pieces 106 = .ok (.getfield 43, 3) := kd_r kbX12_pieces ki_855 rfl
theorem dX12_pieces_109 : decode cX12_pieces 109 = .ok (.iload 4, 2) := kd_r kbX12_pieces ki_57 rfl
theorem dX12_pieces_111 : decode cX12_pieces 111 = .ok (.iconst 0, 1) := kd_r kbX12_pieces ki_20 rfl
theorem dX12_pieces_112 : decode cX12_pieces 112 = .ok (.invokestatic 205, 3) := kd_r kbX12_pieces ki_856 rfl
theorem dX12_pieces_115 : decode cX12_pieces 115 = .ok (.iaload, 1) := kd_r kbX12_pieces ki_14 rfl
theorem dX12_pieces_116 : decode cX12_pieces 116 = .ok (.ireturn, 1) := kd_r kbX12_pieces ki_7 rfl
theorem dX12_pieces_117 : decode cX12_pieces 117 = .ok (.iload_n 3, 1) := kd_r kbX12_pieces ki_55 rfl
theorem dX12_pieces_118 : decode cX12_pieces 118 = .ok (.iconst (-1), 1) := kd_r kbX12_pieces ki_99 rfl
theorem dX12_pieces_119 : decode cX12_pieces 119 = .ok (.if_icmp .ne 6, 3) := kd_r kbX12_pieces ki_604 rfl
theorem dX12_pieces_122 : decode cX12_pieces 122 = .ok (.iload 4, 2) := kd_r kbX12_pieces ki_57 rfl
theorem dX12_pieces_124 : decode cX12_pieces 124 = .ok (.ireturn, 1) := kd_r kbX12_pieces ki_7 rfl
theorem dX12_pieces_125 : decode cX12_pieces 125 = .ok (.iconst 0, 1) := kd_r kbX12_pieces ki_20 rfl
theorem dX12_pieces_126 : decode cX12_pieces 126 = .ok (.istore 5, 2) := kd_r kbX12_pieces ki_133 rfl
theorem dX12_pieces_128 : decode cX12_pieces 128 = .ok (.iconst 0, 1) := kd_r kbX12_pieces ki_20 rfl
theorem dX12_pieces_129 : decode cX12_pieces 129 = .ok (.istore 6, 2) := kd_r kbX12_pieces ki_199 rfl
theorem dX12_pieces_131 : decode cX12_pieces 131 = .ok (.iload 6, 2) := kd_r kbX12_pieces ki_200 rfl
theorem dX12_pieces_133 : decode cX12_pieces 133 = .ok (.iload_n 3, 1) := kd_r kbX12_pieces ki_55 rfl
theorem dX12_pieces_134 : decode cX12_pieces 134 = .ok (.if_icmp .ge 109, 3) := kd_r kbX12_pieces ki_864 rfl
theorem dX12_pieces_137 : decode cX12_pieces 137 = .ok (.iload 6, 2) := kd_r kbX12_pieces ki_200 rfl
theorem dX12_pieces_139 : decode cX12_pieces 139 = .ok (.iload 4, 2) := kd_r kbX12_pieces ki_57 rfl
theorem dX12_pieces_141 : decode cX12_pieces 141 = .ok (.if_icmp .ge 102, 3) := kd_r kbX12_pieces ki_865 rfl
theorem dX12_pieces_144 : decode cX12_pieces 144 = .ok (.iload 4, 2) := kd_r kbX12_pieces ki_57 rfl
theorem dX12_pieces_146 : decode cX12_pieces 146 = .ok (.iload 6, 2) := kd_r kbX12_pieces ki_200 rfl
theorem dX12_pieces_148 : decode cX12_pieces 148 = .ok (.isub, 1) := kd_r kbX12_pieces ki_50 rfl
theorem dX12_pieces_149 : decode cX12_pieces 149 = .ok (.istore 7, 2) := kd_r kbX12_pieces ki_152 rfl
theorem dX12_pieces_151 : decode cX12_pieces 151 = .ok (.iload 5, 2) := kd_r kbX12_pieces ki_134 rfl
theorem dX12_pieces_153 : decode cX12_pieces 153 = .ok (.iconst 2, 1) := kd_r kbX12_pieces ki_244 rfl
theorem dX12_pieces_154 : decode cX12_pieces 154 = .ok (.iadd, 1) := kd_r kbX12_pieces ki_30 rfl
theorem dX12_pieces_155 : decode cX12_pieces 155 = .ok (.istore 8, 2) := kd_r kbX12_pieces ki_155 rfl
theorem dX12_pieces_157 : decode cX12_pieces 157 = .ok (.iload 8, 2) := kd_r kbX12_pieces ki_156 rfl
theorem dX12_pieces_159 : decode cX12_pieces 159 = .ok (.aload_n 0, 1) := kd_r kbX12_pieces ki_0 rfl
theorem dX12_pieces_160 : decode cX12_pieces 160 = .ok (.getfield 9, 3) := kd_r kbX12_pieces ki_13 rfl
theorem dX12_pieces_163 : decode cX12_pieces 163 = .ok (.iload_n 1, 1) := kd_r kbX12_pieces ki_8 rfl
theorem dX12_pieces_164 : decode cX12_pieces 164 = .ok (.iaload, 1) := kd_r kbX12_pieces ki_14 rfl
theorem dX12_pieces_165 : decode cX12_pieces 165 = .ok (.if_icmp .ge 68, 3) := kd_r kbX12_pieces ki_866 rfl
theorem dX12_pieces_168 : decode cX12_pieces 168 = .ok (.aload_n 0, 1) := kd_r kbX12_pieces ki_0 rfl
theorem dX12_pieces_169 : decode cX12_pieces 169 = .ok (.getfield 43, 3) := kd_r kbX12_pieces ki_855 rfl
theorem dX12_pieces_172 : decode cX12_pieces 172 = .ok (.iload 7, 2) := kd_r kbX12_pieces ki_153 rfl
theorem dX12_pieces_174 : decode cX12_pieces 174 = .ok (.iconst 1, 1) := kd_r kbX12_pieces ki_16 rfl
theorem dX12_pieces_175 : decode cX12_pieces 175 = .ok (.isub, 1) := kd_r kbX12_pieces ki_50 rfl
theorem dX12_pieces_176 : decode cX12_pieces 176 = .ok (.iload 8, 2) := kd_r kbX12_pieces ki_156 rfl
theorem dX12_pieces_178 : decode cX12_pieces 178 = .ok (.invokestatic 205, 3) := kd_r kbX12_pieces ki_856 rfl
theorem dX12_pieces_181 : decode cX12_pieces 181 = .ok (.iaload, 1) := kd_r kbX12_pieces ki_14 rfl
theorem dX12_pieces_182 : decode cX12_pieces 182 = .ok (.ldc 195, 2) := kd_r kbX12_pieces ki_831 rfl
theorem dX12_pieces_184 : decode cX12_pieces 184 = .ok (.if_icmp .ge 43, 3) := kd_r kbX12_pieces ki_347 rfl
theorem dX12_pieces_187 : decode cX12_pieces 187 = .ok (.aload_n 0, 1) := kd_r kbX12_pieces ki_0 rfl
theorem dX12_pieces_188 : decode cX12_pieces 188 = .ok (.iload_n 1, 1) := kd_r kbX12_pieces ki_8 rfl
theorem dX12_pieces_189 : decode cX12_pieces 189 = .ok (.iload 5, 2) := kd_r kbX12_pieces ki_134 rfl
theorem dX12_pieces_191 : decode cX12_pieces 191 = .ok (.iload 8, 2) := kd_r kbX12_pieces ki_156 rfl
theorem dX12_pieces_193 : decode cX12_pieces 193 = .ok (.iload_n 2, 1) := kd_r kbX12_pieces ki_11 rfl
theorem dX12_pieces_194 : decode cX12_pieces 194 = .ok (.invokevirtual 208, 3) := kd_r kbX12_pieces ki_858 rfl
theorem dX12_pieces_197 : decode cX12_pieces 197 = .ok (.aload_n 0, 1) := kd_r kbX12_pieces ki_0 rfl
theorem dX12_pieces_198 : decode cX12_pieces 198 = .ok (.getfield 43, 3) := kd_r kbX12_pieces ki_855 rfl
theorem dX12_pieces_201 : decode cX12_pieces 201 = .ok (.iload 7, 2) := kd_r kbX12_pieces ki_153 rfl
theorem dX12_pieces_203 : decode cX12_pieces 203 = .ok (.iconst 1, 1) := kd_r kbX12_pieces ki_16 rfl
theorem dX12_pieces_204 : decode cX12_pieces 204 = .ok (.isub, 1) := kd_r kbX12_pieces ki_50 rfl
theorem dX12_pieces_205 : decode cX12_pieces 205 = .ok (.iload 8, 2) := kd_r kbX12_pieces ki_156 rfl
theorem dX12_pieces_207 : decode cX12_pieces 207 = .ok (.invokestatic 205, 3) := kd_r kbX12_pieces ki_856 rfl
theorem dX12_pieces_210 : decode cX12_pieces 210 = .ok (.iaload, 1) := kd_r kbX12_pieces ki_14 rfl
theorem dX12_pieces_211 : decode cX12_pieces 211 = .ok (.iadd, 1) := kd_r kbX12_pieces ki_30 rfl
theorem dX12_pieces_212 : decode cX12_pieces 212 = .ok (.aload_n 0, 1) := kd_r kbX12_pieces ki_0 rfl
theorem dX12_pieces_213 : decode cX12_pieces 213 = .ok (.getfield 43, 3) := kd_r kbX12_pieces ki_855 rfl
theorem dX12_pieces_216 : decode cX12_pieces 216 = .ok (.iload 7, 2) := kd_r kbX12_pieces ki_153 rfl
theorem dX12_pieces_218 : decode cX12_pieces 218 = .ok (.iload 5, 2) := kd_r kbX12_pieces ki_134 rfl
theorem dX12_pieces_220 : decode cX12_pieces 220 = .ok (.invokestatic 205, 3) := kd_r kbX12_pieces ki_856 rfl
theorem dX12_pieces_223 : decode cX12_pieces 223 = .ok (.iaload, 1) := kd_r kbX12_pieces ki_14 rfl
theorem dX12_pieces_224 : decode cX12_pieces 224 = .ok (.if_icmp .eq 9, 3) := kd_r kbX12_pieces ki_348 rfl
theorem dX12_pieces_227 : decode cX12_pieces 227 = .ok (.iinc 8 1, 3) := kd_r kbX12_pieces ki_162 rfl
theorem dX12_pieces_230 : decode cX12_pieces 230 = .ok (.goto (-73), 3) := kd_r kbX12_pieces ki_867 rfl
theorem dX12_pieces_233 : decode cX12_pieces 233 = .ok (.iload 8, 2) := kd_r kbX12_pieces ki_156 rfl
theorem dX12_pieces_235 : decode cX12_pieces 235 = .ok (.istore 5, 2) := kd_r kbX12_pieces ki_133 rfl
theorem dX12_pieces_237 : decode cX12_pieces 237 = .ok (.iinc 6 1, 3) := kd_r kbX12_pieces ki_208 rfl
theorem dX12_pieces_240 : decode cX12_pieces 240 = .ok (.goto (-109), 3) := kd_r kbX12_pieces ki_868 rfl
theorem dX12_pieces_243 : decode cX12_pieces 243 = .ok (.iload_n 3, 1) := kd_r kbX12_pieces ki_55 rfl
theorem dX12_pieces_244 : decode cX12_pieces 244 = .ok (.iload 4, 2) := kd_r kbX12_pieces ki_57 rfl
theorem dX12_pieces_246 : decode cX12_pieces 246 = .ok (.if_icmp .ge 8, 3) := kd_r kbX12_pieces ki_323 rfl
theorem dX12_pieces_249 : decode cX12_pieces 249 = .ok (.iload 5, 2) := kd_r kbX12_pieces ki_134 rfl
theorem dX12_pieces_251 : decode cX12_pieces 251 = .ok (.goto 4, 3) := kd_r kbX12_pieces ki_19 rfl
theorem dX12_pieces_254 : decode cX12_pieces 254 = .ok (.iconst (-1), 1) := kd_r kbX12_pieces ki_99 rfl
theorem dX12_pieces_255 : decode cX12_pieces 255 = .ok (.ireturn, 1) := kd_r kbX12_pieces ki_7 rfl
set_option maxRecDepth 20000 in
theorem ggX12_areTwo_X12_isStreet : GoodIn wsX12_areTwo wsX12_isStreet := goodIn_r _ [5, 6, 7, 8, 4, 9, 10, 11, 12, 13, 14, 15, 16, 17, 18, 19, 20, 21, 22, 23, 24, 25, 26, 27, 28, 29, 30, 31, 32, 33, 34, 35, 36, 37, 38, 39, 40, 41, 42, 43, 44, 45, 46, 47, 48, 49, 50, 51, 52, 53, 54, 55, 56, 57, 58] rfl (by decide +kernel)
set_option maxRecDepth 20000 in
theorem gX12_areTwo_X12_isStreet : GoodIn wsX12_areTwo (wsV RX12 126 RX12 yX12_isStreet wsX12_isStreet) := goodIn_app (goodIn_of _ (by decide +kernel)) ggX12_areTwo_X12_isStreet
theorem dX12_areTwo_0 : decode cX12_areTwo 0 = .ok (.iload_n 1, 1) := kd_r kbX12_areTwo ki_8 rfl
theorem dX12_areTwo_1 : decode cX12_areTwo 1 = .ok (.ifCond .lt 40, 3) := kd_r kbX12_areTwo ki_869 rfl
theorem dX12_areTwo_4 : decode cX12_areTwo 4 = .ok (.aload_n 0, 1) := kd_r kbX12_areTwo ki_0 rfl
theorem dX12_areTwo_5 : decode cX12_areTwo 5 = .ok (.iload_n 1, 1) := kd_r kbX12_areTwo ki_8 rfl
theorem dX12_areTwo_6 : decode cX12_areTwo 6 = .ok (.bipush 10, 2) := kd_r kbX12_areTwo ki_71 rfl
theorem dX12_areTwo_8 : decode cX12_areTwo 8 = .ok (.idiv, 1) := kd_r kbX12_areTwo ki_225 rfl
theorem dX12_areTwo_9 : decode cX12_areTwo 9 = .ok (.invokevirtual 126, 3) := kd_r kbX12_areTwo ki_764 rfl
theorem dX12_areTwo_12 : decode cX12_areTwo 12 = .ok (.ifCond .eq 29, 3) := kd_r kbX12_areTwo ki_765 rfl
theorem dX12_areTwo_15 : decode cX12_areTwo 15 = .ok (.aload_n 0, 1) := kd_r kbX12_areTwo ki_0 rfl
theorem dX12_areTwo_16 : decode cX12_areTwo 16 = .ok (.iload_n 1, 1) := kd_r kbX12_areTwo ki_8 rfl
theorem dX12_areTwo_17 : decode cX12_areTwo 17 = .ok (.bipush 10, 2) := kd_r kbX12_areTwo ki_71 rfl
theorem dX12_areTwo_19 : decode cX12_areTwo 19 = .ok (.irem, 1) := kd_r kbX12_areTwo ki_227 rfl
theorem dX12_areTwo_20 : decode cX12_areTwo 20 = .ok (.invokevirtual 126, 3) := kd_r kbX12_areTwo ki_764 rfl
theorem dX12_areTwo_23 : decode cX12_areTwo 23 = .ok (.ifCond .eq 18, 3) := kd_r kbX12_areTwo ki_252 rfl
theorem dX12_areTwo_26 : decode cX12_areTwo 26 = .ok (.iload_n 1, 1) := kd_r kbX12_areTwo ki_8 rfl
theorem dX12_areTwo_27 : decode cX12_areTwo 27 = .ok (.bipush 10, 2) := kd_r kbX12_areTwo ki_71 rfl
theorem dX12_areTwo_29 : decode cX12_areTwo 29 = .ok (.idiv, 1) := kd_r kbX12_areTwo ki_225 rfl
theorem dX12_areTwo_30 : decode cX12_areTwo 30 = .ok (.iload_n 1, 1) := kd_r kbX12_areTwo ki_8 rfl
theorem dX12_areTwo_31 : decode cX12_areTwo 31 = .ok (.bipush 10, 2) := kd_r kbX12_areTwo ki_71 rfl
theorem dX12_areTwo_33 : decode cX12_areTwo 33 = .ok (.irem, 1) := kd_r kbX12_areTwo ki_227 rfl
theorem dX12_areTwo_34 : decode cX12_areTwo 34 = .ok (.if_icmp .eq 7, 3) := kd_r kbX12_areTwo ki_254 rfl
theorem dX12_areTwo_37 : decode cX12_areTwo 37 = .ok (.iconst 1, 1) := kd_r kbX12_areTwo ki_16 rfl
theorem dX12_areTwo_38 : decode cX12_areTwo 38 = .ok (.goto 4, 3) := kd_r kbX12_areTwo ki_19 rfl
theorem dX12_areTwo_41 : decode cX12_areTwo 41 = .ok (.iconst 0, 1) := kd_r kbX12_areTwo ki_20 rfl
theorem dX12_areTwo_42 : decode cX12_areTwo 42 = .ok (.ireturn, 1) := kd_r kbX12_areTwo ki_7 rfl
set_option maxRecDepth 20000 in
theorem ggX12_bend_X12_areTwo : GoodIn wsX12_bend wsX12_areTwo := goodIn_r _ [7, 8, 9, 10, 6, 11, 12, 13, 14, 15, 16, 17, 18, 19, 20, 21, 22, 23, 24, 25, 26, 27, 28, 29, 30, 31, 32, 33, 34, 35, 36, 37, 38, 39, 40, 41, 42, 43, 44, 45, 46, 47, 48, 49, 50, 51, 52, 53, 54, 55, 56, 57, 58, 59, 60, 61, 62, 63, 64] rfl (by decide +kernel)
set_option maxRecDepth 20000 in
theorem gX12_bend_X12_areTwo : GoodIn wsX12_bend (wsV RX12 218 RX12 yX12_areTwo wsX12_areTwo) := goodIn_app (goodIn_of _ (by decide +kernel)) ggX12_bend_X12_areTwo
theorem dX12_bend_0 : decode cX12_bend 0 = .ok (.aload_n 0, 1) := kd_r kbX12_bend ki_0 rfl
theorem dX12_bend_1 : decode cX12_bend 1 = .ok (.iload_n 1, 1) := kd_r kbX12_bend ki_8 rfl
theorem dX12_bend_2 : decode cX12_bend 2 = .ok (.invokevirtual 218, 3) := kd_r kbX12_bend ki_870 rfl
theorem dX12_bend_5 : decode cX12_bend 5 = .ok (.ifCond .eq 23, 3) := kd_r kbX12_bend ki_768 rfl
theorem dX12_bend_8 : decode cX12_bend 8 = .ok (.aload_n 0, 1) := kd_r kbX12_bend ki_0 rfl
theorem dX12_bend_9 : decode cX12_bend 9 = .ok (.getfield 46, 3) := kd_r kbX12_bend ki_871 rfl
theorem dX12_bend_12 : decode cX12_bend 12 = .ok (.bipush 6, 2) := kd_r kbX12_bend ki_2 rfl
theorem dX12_bend_14 : decode cX12_bend 14 = .ok (.iload_n 1, 1) := kd_r kbX12_bend ki_8 rfl
theorem dX12_bend_15 : decode cX12_bend 15 = .ok (.bipush 10, 2) := kd_r kbX12_bend ki_71 rfl
theorem dX12_bend_17 : decode cX12_bend 17 = .ok (.idiv, 1) := kd_r kbX12_bend ki_225 rfl
theorem dX12_bend_18 : decode cX12_bend 18 = .ok (.imul, 1) := kd_r kbX12_bend ki_114 rfl
theorem dX12_bend_19 : decode cX12_bend 19 = .ok (.iload_n 1, 1) := kd_r kbX12_bend ki_8 rfl
theorem dX12_bend_20 : decode cX12_bend 20 = .ok (.bipush 10, 2) := kd_r kbX12_bend ki_71 rfl
theorem dX12_bend_22 : decode cX12_bend 22 = .ok (.irem, 1) := kd_r kbX12_bend ki_227 rfl
theorem dX12_bend_23 : decode cX12_bend 23 = .ok (.iadd, 1) := kd_r kbX12_bend ki_30 rfl
theorem dX12_bend_24 : decode cX12_bend 24 = .ok (.baload, 1) := kd_r kbX12_bend ki_872 rfl
theorem dX12_bend_25 : decode cX12_bend 25 = .ok (.ifCond .eq 5, 3) := kd_r kbX12_bend ki_539 rfl
theorem dX12_bend_28 : decode cX12_bend 28 = .ok (.iconst (-1), 1) := kd_r kbX12_bend ki_99 rfl
theorem dX12_bend_29 : decode cX12_bend 29 = .ok (.ireturn, 1) := kd_r kbX12_bend ki_7 rfl
theorem dX12_bend_30 : decode cX12_bend 30 = .ok (.aload_n 0, 1) := kd_r kbX12_bend ki_0 rfl
theorem dX12_bend_31 : decode cX12_bend 31 = .ok (.getfield 46, 3) := kd_r kbX12_bend ki_871 rfl
theorem dX12_bend_34 : decode cX12_bend 34 = .ok (.bipush 6, 2) := kd_r kbX12_bend ki_2 rfl
theorem dX12_bend_36 : decode cX12_bend 36 = .ok (.iload_n 1, 1) := kd_r kbX12_bend ki_8 rfl
theorem dX12_bend_37 : decode cX12_bend 37 = .ok (.bipush 10, 2) := kd_r kbX12_bend ki_71 rfl
theorem dX12_bend_39 : decode cX12_bend 39 = .ok (.idiv, 1) := kd_r kbX12_bend ki_225 rfl
theorem dX12_bend_40 : decode cX12_bend 40 = .ok (.imul, 1) := kd_r kbX12_bend ki_114 rfl
theorem dX12_bend_41 : decode cX12_bend 41 = .ok (.iload_n 1, 1) := kd_r kbX12_bend ki_8 rfl
theorem dX12_bend_42 : decode cX12_bend 42 = .ok (.bipush 10, 2) := kd_r kbX12_bend ki_71 rfl
theorem dX12_bend_44 : decode cX12_bend 44 = .ok (.irem, 1) := kd_r kbX12_bend ki_227 rfl
theorem dX12_bend_45 : decode cX12_bend 45 = .ok (.iadd, 1) := kd_r kbX12_bend ki_30 rfl
theorem dX12_bend_46 : decode cX12_bend 46 = .ok (.iconst 1, 1) := kd_r kbX12_bend ki_16 rfl
theorem dX12_bend_47 : decode cX12_bend 47 = .ok (.bastore, 1) := kd_r kbX12_bend ki_873 rfl
theorem dX12_bend_48 : decode cX12_bend 48 = .ok (.aload_n 0, 1) := kd_r kbX12_bend ki_0 rfl
theorem dX12_bend_49 : decode cX12_bend 49 = .ok (.dup, 1) := kd_r kbX12_bend ki_29 rfl
theorem dX12_bend_50 : decode cX12_bend 50 = .ok (.getfield 221, 3) := kd_r kbX12_bend ki_874 rfl
theorem dX12_bend_53 : decode cX12_bend 53 = .ok (.iconst 1, 1) := kd_r kbX12_bend ki_16 rfl
theorem dX12_bend_54 : decode cX12_bend 54 = .ok (.iadd, 1) := kd_r kbX12_bend ki_30 rfl
theorem dX12_bend_55 : decode cX12_bend 55 = .ok (.putfield 221, 3) := kd_r kbX12_bend ki_875 rfl
theorem dX12_bend_58 : decode cX12_bend 58 = .ok (.aload_n 0, 1) := kd_r kbX12_bend ki_0 rfl
theorem dX12_bend_59 : decode cX12_bend 59 = .ok (.getfield 221, 3) := kd_r kbX12_bend ki_874 rfl
theorem dX12_bend_62 : decode cX12_bend 62 = .ok (.ireturn, 1) := kd_r kbX12_bend ki_7 rfl
theorem dX12_isFree_0 : decode cX12_isFree 0 = .ok (.iconst 0, 1) := kd_r kbX12_isFree ki_20 rfl
theorem dX12_isFree_1 : decode cX12_isFree 1 = .ok (.istore_n 3, 1) := kd_r kbX12_isFree ki_108 rfl
theorem dX12_isFree_2 : decode cX12_isFree 2 = .ok (.iload_n 3, 1) := kd_r kbX12_isFree ki_55 rfl
theorem dX12_isFree_3 : decode cX12_isFree 3 = .ok (.aload_n 0, 1) := kd_r kbX12_isFree ki_0 rfl
theorem dX12_isFree_4 : decode cX12_isFree 4 = .ok (.getfield 106, 3) := kd_r kbX12_isFree ki_750 rfl
theorem dX12_isFree_7 : decode cX12_isFree 7 = .ok (.if_icmp .ge 33, 3) := kd_r kbX12_isFree ki_214 rfl
theorem dX12_isFree_10 : decode cX12_isFree 10 = .ok (.iload_n 2, 1) := kd_r kbX12_isFree ki_11 rfl
theorem dX12_isFree_11 : decode cX12_isFree 11 = .ok (.iload_n 3, 1) := kd_r kbX12_isFree ki_55 rfl
theorem dX12_isFree_12 : decode cX12_isFree 12 = .ok (.ishr, 1) := kd_r kbX12_isFree ki_876 rfl
theorem dX12_isFree_13 : decode cX12_isFree 13 = .ok (.iconst 1, 1) := kd_r kbX12_isFree ki_16 rfl
theorem dX12_isFree_14 : decode cX12_isFree 14 = .ok (.iand, 1) := kd_r kbX12_isFree ki_17 rfl
theorem dX12_isFree_15 : decode cX12_isFree 15 = .ok (.ifCond .ne 19, 3) := kd_r kbX12_isFree ki_308 rfl
theorem dX12_isFree_18 : decode cX12_isFree 18 = .ok (.aload_n 0, 1) := kd_r kbX12_isFree ki_0 rfl
theorem dX12_isFree_19 : decode cX12_isFree 19 = .ok (.getfield 46, 3) := kd_r kbX12_isFree ki_871 rfl
theorem dX12_isFree_22 : decode cX12_isFree 22 = .ok (.bipush 6, 2) := kd_r kbX12_isFree ki_2 rfl
theorem dX12_isFree_24 : decode cX12_isFree 24 = .ok (.iload_n 1, 1) := kd_r kbX12_isFree ki_8 rfl
theorem dX12_isFree_25 : decode cX12_isFree 25 = .ok (.imul, 1) := kd_r kbX12_isFree ki_114 rfl
theorem dX12_isFree_26 : decode cX12_isFree 26 = .ok (.iload_n 3, 1) := kd_r kbX12_isFree ki_55 rfl
theorem dX12_isFree_27 : decode cX12_isFree 27 = .ok (.iadd, 1) := kd_r kbX12_isFree ki_30 rfl
theorem dX12_isFree_28 : decode cX12_isFree 28 = .ok (.baload, 1) := kd_r kbX12_isFree ki_872 rfl
theorem dX12_isFree_29 : decode cX12_isFree 29 = .ok (.ifCond .eq 5, 3) := kd_r kbX12_isFree ki_539 rfl
theorem dX12_isFree_32 : decode cX12_isFree 32 = .ok (.iconst 0, 1) := kd_r kbX12_isFree ki_20 rfl
theorem dX12_isFree_33 : decode cX12_isFree 33 = .ok (.ireturn, 1) := kd_r kbX12_isFree ki_7 rfl
theorem dX12_isFree_34 : decode cX12_isFree 34 = .ok (.iinc 3 1, 3) := kd_r kbX12_isFree ki_116 rfl
theorem dX12_isFree_37 : decode cX12_isFree 37 = .ok (.goto (-35), 3) := kd_r kbX12_isFree ki_845 rfl
theorem dX12_isFree_40 : decode cX12_isFree 40 = .ok (.iconst 1, 1) := kd_r kbX12_isFree ki_16 rfl
theorem dX12_isFree_41 : decode cX12_isFree 41 = .ok (.ireturn, 1) := kd_r kbX12_isFree ki_7 rfl
set_option maxRecDepth 20000 in
theorem ggX12_order_X12_isFree : GoodIn wsX12_order wsX12_isFree := goodIn_r _ [6, 1, 7, 8, 9, 10, 11, 12, 13, 14, 15, 16, 17, 18, 19, 20, 21, 22, 23, 24, 25, 26, 27, 28, 29, 30, 31, 32, 33, 34, 35, 36, 37, 38, 39, 40, 41, 42, 43, 44, 45, 46, 47, 48, 49, 50, 51, 52, 53, 54, 55, 56] rfl (by decide +kernel)
set_option maxRecDepth 20000 in
theorem gX12_order_X12_isFree : GoodIn wsX12_order (wsV RX12 224 RX12 yX12_isFree wsX12_isFree) := goodIn_app (goodIn_of _ (by decide +kernel)) ggX12_order_X12_isFree
theorem dX12_order_0 : decode cX12_order 0 = .ok (.iload_n 1, 1) := kd_r kbX12_order ki_8 rfl
theorem dX12_order_1 : decode cX12_order 1 = .ok (.iconst (-1), 1) := kd_r kbX12_order ki_99 rfl
theorem dX12_order_2 : decode cX12_order 2 = .ok (.if_icmp .ge 5, 3) := kd_r kbX12_order ki_430 rfl
theorem dX12_order_5 : decode cX12_order 5 = .ok (.iconst (-1), 1) := kd_r kbX12_order ki_99 rfl
theorem dX12_order_6 : decode cX12_order 6 = .ok (.ireturn, 1) := kd_r kbX12_order ki_7 rfl
theorem dX12_order_7 : decode cX12_order 7 = .ok (.iconst 0, 1) := kd_r kbX12_order ki_20 rfl
theorem dX12_order_8 : decode cX12_order 8 = .ok (.istore_n 2, 1) := kd_r kbX12_order ki_32 rfl
theorem dX12_order_9 : decode cX12_order 9 = .ok (.iconst 0, 1) := kd_r kbX12_order ki_20 rfl
theorem dX12_order_10 : decode cX12_order 10 = .ok (.istore_n 3, 1) := kd_r kbX12_order ki_108 rfl
theorem dX12_order_11 : decode cX12_order 11 = .ok (.iload_n 3, 1) := kd_r kbX12_order ki_55 rfl
theorem dX12_order_12 : decode cX12_order 12 = .ok (.aload_n 0, 1) := kd_r kbX12_order ki_0 rfl
theorem dX12_order_13 : decode cX12_order 13 = .ok (.getfield 106, 3) := kd_r kbX12_order ki_750 rfl
theorem dX12_order_16 : decode cX12_order 16 = .ok (.if_icmp .ge 103, 3) := kd_r kbX12_order ki_877 rfl
theorem dX12_order_19 : decode cX12_order 19 = .ok (.iconst 0, 1) := kd_r kbX12_order ki_20 rfl
theorem dX12_order_20 : decode cX12_order 20 = .ok (.istore 4, 2) := kd_r kbX12_order ki_129 rfl
theorem dX12_order_22 : decode cX12_order 22 = .ok (.iload 4, 2) := kd_r kbX12_order ki_57 rfl
theorem dX12_order_24 : decode cX12_order 24 = .ok (.aload_n 0, 1) := kd_r kbX12_order ki_0 rfl
theorem dX12_order_25 : decode cX12_order 25 = .ok (.getfield 106, 3) := kd_r kbX12_order ki_750 rfl
theorem dX12_order_28 : decode cX12_order 28 = .ok (.if_icmp .ge 29, 3) := kd_r kbX12_order ki_136 rfl
theorem dX12_order_31 : decode cX12_order 31 = .ok (.iload_n 2, 1) := kd_r kbX12_order ki_11 rfl
theorem dX12_order_32 : decode cX12_order 32 = .ok (.iload 4, 2) := kd_r kbX12_order ki_57 rfl
theorem dX12_order_34 : decode cX12_order 34 = .ok (.ishr, 1) := kd_r kbX12_order ki_876 rfl
theorem dX12_order_35 : decode cX12_order 35 = .ok (.iconst 1, 1) := kd_r kbX12_order ki_16 rfl
theorem dX12_order_36 : decode cX12_order 36 = .ok (.iand, 1) := kd_r kbX12_order ki_17 rfl
theorem dX12_order_37 : decode cX12_order 37 = .ok (.iconst 1, 1) := kd_r kbX12_order ki_16 rfl
theorem dX12_order_38 : decode cX12_order 38 = .ok (.if_icmp .eq 13, 3) := kd_r kbX12_order ki_90 rfl
theorem dX12_order_41 : decode cX12_order 41 = .ok (.aload_n 0, 1) := kd_r kbX12_order ki_0 rfl
theorem dX12_order_42 : decode cX12_order 42 = .ok (.iload 4, 2) := kd_r kbX12_order ki_57 rfl
theorem dX12_order_44 : decode cX12_order 44 = .ok (.iload_n 2, 1) := kd_r kbX12_order ki_11 rfl
theorem dX12_order_45 : decode cX12_order 45 = .ok (.invokevirtual 224, 3) := kd_r kbX12_order ki_878 rfl
theorem dX12_order_48 : decode cX12_order 48 = .ok (.ifCond .ne 9, 3) := kd_r kbX12_order ki_879 rfl
theorem dX12_order_51 : decode cX12_order 51 = .ok (.iinc 4 1, 3) := kd_r kbX12_order ki_144 rfl
theorem dX12_order_54 : decode cX12_order 54 = .ok (.goto (-32), 3) := kd_r kbX12_order ki_367 rfl
theorem dX12_order_57 : decode cX12_order 57 = .ok (.iload 4, 2) := kd_r kbX12_order ki_57 rfl
theorem dX12_order_59 : decode cX12_order 59 = .ok (.aload_n 0, 1) := kd_r kbX12_order ki_0 rfl
theorem dX12_order_60 : decode cX12_order 60 = .ok (.getfield 106, 3) := kd_r kbX12_order ki_750 rfl
theorem dX12_order_63 : decode cX12_order 63 = .ok (.if_icmp .ne 35, 3) := kd_r kbX12_order ki_880 rfl
theorem dX12_order_66 : decode cX12_order 66 = .ok (.iconst 0, 1) := kd_r kbX12_order ki_20 rfl
theorem dX12_order_67 : decode cX12_order 67 = .ok (.istore 5, 2) := kd_r kbX12_order ki_133 rfl
theorem dX12_order_69 : decode cX12_order 69 = .ok (.iload_n 2, 1) := kd_r kbX12_order ki_11 rfl
theorem dX12_order_70 : decode cX12_order 70 = .ok (.iload 5, 2) := kd_r kbX12_order ki_134 rfl
theorem dX12_order_72 : decode cX12_order 72 = .ok (.ishr, 1) := kd_r kbX12_order ki_876 rfl
theorem dX12_order_73 : decode cX12_order 73 = .ok (.iconst 1, 1) := kd_r kbX12_order ki_16 rfl
theorem dX12_order_74 : decode cX12_order 74 = .ok (.iand, 1) := kd_r kbX12_order ki_17 rfl
theorem dX12_order_75 : decode cX12_order 75 = .ok (.iconst 1, 1) := kd_r kbX12_order ki_16 rfl
theorem dX12_order_76 : decode cX12_order 76 = .ok (.if_icmp .ne 9, 3) := kd_r kbX12_order ki_881 rfl
theorem dX12_order_79 : decode cX12_order 79 = .ok (.iinc 5 1, 3) := kd_r kbX12_order ki_143 rfl
theorem dX12_order_82 : decode cX12_order 82 = .ok (.goto (-13), 3) := kd_r kbX12_order ki_882 rfl
theorem dX12_order_85 : decode cX12_order 85 = .ok (.iload_n 1, 1) := kd_r kbX12_order ki_8 rfl
theorem dX12_order_86 : decode cX12_order 86 = .ok (.iconst (-1), 1) := kd_r kbX12_order ki_99 rfl
theorem dX12_order_87 : decode cX12_order 87 = .ok (.if_icmp .ne 8, 3) := kd_r kbX12_order ki_256 rfl
theorem dX12_order_90 : decode cX12_order 90 = .ok (.iload 5, 2) := kd_r kbX12_order ki_134 rfl
theorem dX12_order_92 : decode cX12_order 92 = .ok (.goto 5, 3) := kd_r kbX12_order ki_342 rfl
theorem dX12_order_95 : decode cX12_order 95 = .ok (.bipush (-2), 2) := kd_r kbX12_order ki_39 rfl
theorem dX12_order_97 : decode cX12_order 97 = .ok (.ireturn, 1) := kd_r kbX12_order ki_7 rfl
theorem dX12_order_98 : decode cX12_order 98 = .ok (.iload_n 3, 1) := kd_r kbX12_order ki_55 rfl
theorem dX12_order_99 : decode cX12_order 99 = .ok (.iload_n 1, 1) := kd_r kbX12_order ki_8 rfl
theorem dX12_order_100 : decode cX12_order 100 = .ok (.if_icmp .ne 6, 3) := kd_r kbX12_order ki_604 rfl
theorem dX12_order_103 : decode cX12_order 103 = .ok (.iload 4, 2) := kd_r kbX12_order ki_57 rfl
theorem dX12_order_105 : decode cX12_order 105 = .ok (.ireturn, 1) := kd_r kbX12_order ki_7 rfl
theorem dX12_order_106 : decode cX12_order 106 = .ok (.iload_n 2, 1) := kd_r kbX12_order ki_11 rfl
theorem dX12_order_107 : decode cX12_order 107 = .ok (.iconst 1, 1) := kd_r kbX12_order ki_16 rfl
theorem dX12_order_108 : decode cX12_order 108 = .ok (.iload 4, 2) := kd_r kbX12_order ki_57 rfl
theorem dX12_order_110 : decode cX12_order 110 = .ok (.ishl, 1) := kd_r kbX12_order ki_26 rfl
theorem dX12_order_111 : decode cX12_order 111 = .ok (.ior, 1) := kd_r kbX12_order ki_27 rfl
theorem dX12_order_112 : decode cX12_order 112 = .ok (.istore_n 2, 1) := kd_r kbX12_order ki_32 rfl
theorem dX12_order_113 : decode cX12_order 113 = .ok (.iinc 3 1, 3) := kd_r kbX12_order ki_116 rfl
theorem dX12_order_116 : decode cX12_order 116 = .ok (.goto (-105), 3) := kd_r kbX12_order ki_883 rfl
theorem dX12_order_119 : decode cX12_order 119 = .ok (.bipush (-2), 2) := kd_r kbX12_order ki_39 rfl
theorem dX12_order_121 : decode cX12_order 121 = .ok (.ireturn, 1) := kd_r kbX12_order ki_7 rfl
set_option maxRecDepth 20000 in
theorem ggX12_wall_X12_isStreet : GoodIn wsX12_wall wsX12_isStreet := goodIn_r _ [7, 8, 9, 10, 6, 11, 25, 26, 27, 28, 29, 30, 31, 32, 33, 34, 35, 36, 37, 38, 39, 40, 41, 42, 43, 44, 45, 46, 47, 48, 49, 50, 51, 52, 53, 54, 55, 56, 57, 58, 59, 60, 61, 62, 63, 64, 65, 66, 67, 68, 69, 70, 71, 72, 73] rfl (by decide +kernel)
set_option maxRecDepth 20000 in
theorem gX12_wall_X12_isStreet : GoodIn wsX12_wall (wsV RX12 126 RX12 yX12_isStreet wsX12_isStreet) := goodIn_app (goodIn_of _ (by decide +kernel)) ggX12_wall_X12_isStreet
set_option maxRecDepth 20000 in
theorem ggX12_wall_X12_within : GoodIn wsX12_wall wsX12_within := goodIn_r _ [11] rfl (by decide +kernel)
set_option maxRecDepth 20000 in
theorem gX12_wall_X12_within : GoodIn wsX12_wall (va_wsS RX12 109 yX12_within wsX12_within) := goodIn_app (goodIn_of _ (by decide +kernel)) ggX12_wall_X12_within
set_option maxRecDepth 20000 in
theorem ggX12_wall_X12_depth : GoodIn wsX12_wall wsX12_depth := goodIn_r _ [15, 16, 25, 26, 27, 28, 29, 30, 31, 32, 33, 34, 35, 36, 37, 38, 39, 40, 41, 42, 43, 44, 45, 46, 47, 48, 49, 50, 51, 52, 53, 54, 55, 56, 57, 58, 59, 60, 61, 62, 63, 64, 65, 66, 67, 68, 69, 70, 71, 72, 73] rfl (by decide +kernel)
set_option maxRecDepth 20000 in
theorem gX12_wall_X12_depth : GoodIn wsX12_wall (wsV RX12 164 RX12 yX12_depth wsX12_depth) := goodIn_app (goodIn_of _ (by decide +kernel)) ggX12_wall_X12_depth
set_option maxRecDepth 20000 in
theorem ggX12_wall_X12_atOf : GoodIn wsX12_wall wsX12_atOf := goodIn_r _ [20, 21, 22, 23, 6, 24, 16, 25, 26, 27, 28, 29, 30, 31, 32, 33, 34, 35, 36, 37, 38, 39, 40, 41, 42, 43, 44, 45, 46, 47, 48, 49, 50, 51, 52, 53, 54, 55, 56, 57, 58, 59, 60, 61, 62, 63, 64, 65, 66, 67, 68, 69, 70, 71, 72, 73] rfl (by decide +kernel)
set_option maxRecDepth 20000 in
theorem gX12_wall_X12_atOf : GoodIn wsX12_wall (wsV RX12 153 RX12 yX12_atOf wsX12_atOf) := goodIn_app (goodIn_of _ (by decide +kernel)) ggX12_wall_X12_atOf
theorem dX12_wall_0 : decode cX12_wall 0 = .ok (.aload_n 0, 1) := kd_r kbX12_wall ki_0 rfl
theorem dX12_wall_1 : decode cX12_wall 1 = .ok (.iload_n 1, 1) := kd_r kbX12_wall ki_8 rfl
theorem dX12_wall_2 : decode cX12_wall 2 = .ok (.invokevirtual 126, 3) := kd_r kbX12_wall ki_764 rfl
theorem dX12_wall_5 : decode cX12_wall 5 = .ok (.ifCond .eq 15, 3) := kd_r kbX12_wall ki_641 rfl
theorem dX12_wall_8 : decode cX12_wall 8 = .ok (.iload_n 3, 1) := kd_r kbX12_wall ki_55 rfl
theorem dX12_wall_9 : decode cX12_wall 9 = .ok (.i2l, 1) := kd_r kbX12_wall ki_399 rfl
theorem dX12_wall_10 : decode cX12_wall 10 = .ok (.lconst 0, 1) := kd_r kbX12_wall ki_172 rfl
theorem dX12_wall_11 : decode cX12_wall 11 = .ok (.ldc2_w 147, 3) := kd_r kbX12_wall ki_785 rfl
theorem dX12_wall_14 : decode cX12_wall 14 = .ok (.invokestatic 109, 3) := kd_r kbX12_wall ki_751 rfl
theorem dX12_wall_17 : decode cX12_wall 17 = .ok (.ifCond .ne 5, 3) := kd_r kbX12_wall ki_36 rfl
theorem dX12_wall_20 : decode cX12_wall 20 = .ok (.iconst (-1), 1) := kd_r kbX12_wall ki_99 rfl
theorem dX12_wall_21 : decode cX12_wall 21 = .ok (.ireturn, 1) := kd_r kbX12_wall ki_7 rfl
theorem dX12_wall_22 : decode cX12_wall 22 = .ok (.bipush (-2), 2) := kd_r kbX12_wall ki_39 rfl
theorem dX12_wall_24 : decode cX12_wall 24 = .ok (.istore 4, 2) := kd_r kbX12_wall ki_129 rfl
theorem dX12_wall_26 : decode cX12_wall 26 = .ok (.iconst 0, 1) := kd_r kbX12_wall ki_20 rfl
theorem dX12_wall_27 : decode cX12_wall 27 = .ok (.istore 5, 2) := kd_r kbX12_wall ki_133 rfl
theorem dX12_wall_29 : decode cX12_wall 29 = .ok (.iconst 0, 1) := kd_r kbX12_wall ki_20 rfl
theorem dX12_wall_30 : decode cX12_wall 30 = .ok (.istore 6, 2) := kd_r kbX12_wall ki_199 rfl
theorem dX12_wall_32 : decode cX12_wall 32 = .ok (.iconst 0, 1) := kd_r kbX12_wall ki_20 rfl
theorem dX12_wall_33 : decode cX12_wall 33 = .ok (.istore 7, 2) := kd_r kbX12_wall ki_152 rfl
theorem dX12_wall_35 : decode cX12_wall 35 = .ok (.iload 7, 2) := kd_r kbX12_wall ki_153 rfl
theorem dX12_wall_37 : decode cX12_wall 37 = .ok (.aload_n 0, 1) := kd_r kbX12_wall ki_0 rfl
theorem dX12_wall_38 : decode cX12_wall 38 = .ok (.getfield 9, 3) := kd_r kbX12_wall ki_13 rfl
theorem dX12_wall_41 : decode cX12_wall 41 = .ok (.iload_n 1, 1) := kd_r kbX12_wall ki_8 rfl
theorem dX12_wall_42 : decode cX12_wall 42 = .ok (.iaload, 1) := kd_r kbX12_wall ki_14 rfl
theorem dX12_wall_43 : decode cX12_wall 43 = .ok (.if_icmp .ge 131, 3) := kd_r kbX12_wall ki_884 rfl
theorem dX12_wall_46 : decode cX12_wall 46 = .ok (.iload 7, 2) := kd_r kbX12_wall ki_153 rfl
theorem dX12_wall_48 : decode cX12_wall 48 = .ok (.istore 8, 2) := kd_r kbX12_wall ki_155 rfl
theorem dX12_wall_50 : decode cX12_wall 50 = .ok (.iload 7, 2) := kd_r kbX12_wall ki_153 rfl
theorem dX12_wall_52 : decode cX12_wall 52 = .ok (.istore 9, 2) := kd_r kbX12_wall ki_369 rfl
theorem dX12_wall_54 : decode cX12_wall 54 = .ok (.iload 7, 2) := kd_r kbX12_wall ki_153 rfl
theorem dX12_wall_56 : decode cX12_wall 56 = .ok (.aload_n 0, 1) := kd_r kbX12_wall ki_0 rfl
theorem dX12_wall_57 : decode cX12_wall 57 = .ok (.getfield 9, 3) := kd_r kbX12_wall ki_13 rfl
theorem dX12_wall_60 : decode cX12_wall 60 = .ok (.iload_n 1, 1) := kd_r kbX12_wall ki_8 rfl
theorem dX12_wall_61 : decode cX12_wall 61 = .ok (.iaload, 1) := kd_r kbX12_wall ki_14 rfl
theorem dX12_wall_62 : decode cX12_wall 62 = .ok (.if_icmp .ge 46, 3) := kd_r kbX12_wall ki_857 rfl
theorem dX12_wall_65 : decode cX12_wall 65 = .ok (.aload_n 0, 1) := kd_r kbX12_wall ki_0 rfl
theorem dX12_wall_66 : decode cX12_wall 66 = .ok (.iload_n 1, 1) := kd_r kbX12_wall ki_8 rfl
theorem dX12_wall_67 : decode cX12_wall 67 = .ok (.iload 7, 2) := kd_r kbX12_wall ki_153 rfl
theorem dX12_wall_69 : decode cX12_wall 69 = .ok (.invokevirtual 164, 3) := kd_r kbX12_wall ki_796 rfl
theorem dX12_wall_72 : decode cX12_wall 72 = .ok (.iload_n 2, 1) := kd_r kbX12_wall ki_11 rfl
theorem dX12_wall_73 : decode cX12_wall 73 = .ok (.if_icmp .le 35, 3) := kd_r kbX12_wall ki_159 rfl
theorem dX12_wall_76 : decode cX12_wall 76 = .ok (.aload_n 0, 1) := kd_r kbX12_wall ki_0 rfl
theorem dX12_wall_77 : decode cX12_wall 77 = .ok (.iload_n 1, 1) := kd_r kbX12_wall ki_8 rfl
theorem dX12_wall_78 : decode cX12_wall 78 = .ok (.iload 7, 2) := kd_r kbX12_wall ki_153 rfl
theorem dX12_wall_80 : decode cX12_wall 80 = .ok (.invokevirtual 164, 3) := kd_r kbX12_wall ki_796 rfl
theorem dX12_wall_83 : decode cX12_wall 83 = .ok (.aload_n 0, 1) := kd_r kbX12_wall ki_0 rfl
theorem dX12_wall_84 : decode cX12_wall 84 = .ok (.iload_n 1, 1) := kd_r kbX12_wall ki_8 rfl
theorem dX12_wall_85 : decode cX12_wall 85 = .ok (.iload 9, 2) := kd_r kbX12_wall ki_370 rfl
theorem dX12_wall_87 : decode cX12_wall 87 = .ok (.invokevirtual 164, 3) := kd_r kbX12_wall ki_796 rfl
theorem dX12_wall_90 : decode cX12_wall 90 = .ok (.if_icmp .ge 8, 3) := kd_r kbX12_wall ki_323 rfl
theorem dX12_wall_93 : decode cX12_wall 93 = .ok (.iload 7, 2) := kd_r kbX12_wall ki_153 rfl
theorem dX12_wall_95 : decode cX12_wall 95 = .ok (.goto 5, 3) := kd_r kbX12_wall ki_342 rfl
theorem dX12_wall_98 : decode cX12_wall 98 = .ok (.iload 9, 2) := kd_r kbX12_wall ki_370 rfl
theorem dX12_wall_100 : decode cX12_wall 100 = .ok (.istore 9, 2) := kd_r kbX12_wall ki_369 rfl
theorem dX12_wall_102 : decode cX12_wall 102 = .ok (.iinc 7 1, 3) := kd_r kbX12_wall ki_164 rfl
theorem dX12_wall_105 : decode cX12_wall 105 = .ok (.goto (-51), 3) := kd_r kbX12_wall ki_885 rfl
theorem dX12_wall_108 : decode cX12_wall 108 = .ok (.aload_n 0, 1) := kd_r kbX12_wall ki_0 rfl
theorem dX12_wall_109 : decode cX12_wall 109 = .ok (.iload_n 1, 1) := kd_r kbX12_wall ki_8 rfl
theorem dX12_wall_110 : decode cX12_wall 110 = .ok (.iload 7, 2) := kd_r kbX12_wall ki_153 rfl
theorem dX12_wall_112 : decode cX12_wall 112 = .ok (.invokevirtual 153, 3) := kd_r kbX12_wall ki_790 rfl
theorem dX12_wall_115 : decode cX12_wall 115 = .ok (.aload_n 0, 1) := kd_r kbX12_wall ki_0 rfl
theorem dX12_wall_116 : decode cX12_wall 116 = .ok (.iload_n 1, 1) := kd_r kbX12_wall ki_8 rfl
theorem dX12_wall_117 : decode cX12_wall 117 = .ok (.iload 8, 2) := kd_r kbX12_wall ki_156 rfl
theorem dX12_wall_119 : decode cX12_wall 119 = .ok (.invokevirtual 153, 3) := kd_r kbX12_wall ki_790 rfl
theorem dX12_wall_122 : decode cX12_wall 122 = .ok (.isub, 1) := kd_r kbX12_wall ki_50 rfl
theorem dX12_wall_123 : decode cX12_wall 123 = .ok (.istore 10, 2) := kd_r kbX12_wall ki_372 rfl
theorem dX12_wall_125 : decode cX12_wall 125 = .ok (.iload 7, 2) := kd_r kbX12_wall ki_153 rfl
theorem dX12_wall_127 : decode cX12_wall 127 = .ok (.iload 8, 2) := kd_r kbX12_wall ki_156 rfl
theorem dX12_wall_129 : decode cX12_wall 129 = .ok (.isub, 1) := kd_r kbX12_wall ki_50 rfl
theorem dX12_wall_130 : decode cX12_wall 130 = .ok (.iconst 1, 1) := kd_r kbX12_wall ki_16 rfl
theorem dX12_wall_131 : decode cX12_wall 131 = .ok (.if_icmp .le 22, 3) := kd_r kbX12_wall ki_886 rfl
theorem dX12_wall_134 : decode cX12_wall 134 = .ok (.iload 10, 2) := kd_r kbX12_wall ki_373 rfl
theorem dX12_wall_136 : decode cX12_wall 136 = .ok (.iload 5, 2) := kd_r kbX12_wall ki_134 rfl
theorem dX12_wall_138 : decode cX12_wall 138 = .ok (.if_icmp .le 15, 3) := kd_r kbX12_wall ki_887 rfl
theorem dX12_wall_141 : decode cX12_wall 141 = .ok (.iload 8, 2) := kd_r kbX12_wall ki_156 rfl
theorem dX12_wall_143 : decode cX12_wall 143 = .ok (.istore 4, 2) := kd_r kbX12_wall ki_129 rfl
theorem dX12_wall_145 : decode cX12_wall 145 = .ok (.iload 10, 2) := kd_r kbX12_wall ki_373 rfl
theorem dX12_wall_147 : decode cX12_wall 147 = .ok (.istore 5, 2) := kd_r kbX12_wall ki_133 rfl
theorem dX12_wall_149 : decode cX12_wall 149 = .ok (.iload 9, 2) := kd_r kbX12_wall ki_370 rfl
theorem dX12_wall_151 : decode cX12_wall 151 = .ok (.istore 6, 2) := kd_r kbX12_wall ki_199 rfl
theorem dX12_wall_153 : decode cX12_wall 153 = .ok (.iload 7, 2) := kd_r kbX12_wall ki_153 rfl
theorem dX12_wall_155 : decode cX12_wall 155 = .ok (.iload 8, 2) := kd_r kbX12_wall ki_156 rfl
theorem dX12_wall_157 : decode cX12_wall 157 = .ok (.if_icmp .ne 10, 3) := kd_r kbX12_wall ki_415 rfl
theorem dX12_wall_160 : decode cX12_wall 160 = .ok (.iload 7, 2) := kd_r kbX12_wall ki_153 rfl
theorem dX12_wall_162 : decode cX12_wall 162 = .ok (.iconst 1, 1) := kd_r kbX12_wall ki_16 rfl
theorem dX12_wall_163 : decode cX12_wall 163 = .ok (.iadd, 1) := kd_r kbX12_wall ki_30 rfl
theorem dX12_wall_164 : decode cX12_wall 164 = .ok (.goto 5, 3) := kd_r kbX12_wall ki_342 rfl
theorem dX12_wall_167 : decode cX12_wall 167 = .ok (.iload 7, 2) := kd_r kbX12_wall ki_153 rfl
theorem dX12_wall_169 : decode cX12_wall 169 = .ok (.istore 7, 2) := kd_r kbX12_wall ki_152 rfl
theorem dX12_wall_171 : decode cX12_wall 171 = .ok (.goto (-136), 3) := kd_r kbX12_wall ki_888 rfl
theorem dX12_wall_174 : decode cX12_wall 174 = .ok (.iload 4, 2) := kd_r kbX12_wall ki_57 rfl
theorem dX12_wall_176 : decode cX12_wall 176 = .ok (.ifCond .ge 8, 3) := kd_r kbX12_wall ki_637 rfl
theorem dX12_wall_179 : decode cX12_wall 179 = .ok (.bipush (-2), 2) := kd_r kbX12_wall ki_39 rfl
theorem dX12_wall_181 : decode cX12_wall 181 = .ok (.goto 24, 3) := kd_r kbX12_wall ki_408 rfl
theorem dX12_wall_184 : decode cX12_wall 184 = .ok (.iload_n 3, 1) := kd_r kbX12_wall ki_55 rfl
theorem dX12_wall_185 : decode cX12_wall 185 = .ok (.ifCond .ne 8, 3) := kd_r kbX12_wall ki_456 rfl
theorem dX12_wall_188 : decode cX12_wall 188 = .ok (.iload 4, 2) := kd_r kbX12_wall ki_57 rfl
theorem dX12_wall_190 : decode cX12_wall 190 = .ok (.goto 15, 3) := kd_r kbX12_wall ki_383 rfl
theorem dX12_wall_193 : decode cX12_wall 193 = .ok (.iload_n 3, 1) := kd_r kbX12_wall ki_55 rfl
theorem dX12_wall_194 : decode cX12_wall 194 = .ok (.iconst 1, 1) := kd_r kbX12_wall ki_16 rfl
theorem dX12_wall_195 : decode cX12_wall 195 = .ok (.if_icmp .ne 8, 3) := kd_r kbX12_wall ki_256 rfl
theorem dX12_wall_198 : decode cX12_wall 198 = .ok (.iload 5, 2) := kd_r kbX12_wall ki_134 rfl
theorem dX12_wall_200 : decode cX12_wall 200 = .ok (.goto 5, 3) := kd_r kbX12_wall ki_342 rfl
theorem dX12_wall_203 : decode cX12_wall 203 = .ok (.iload 6, 2) := kd_r kbX12_wall ki_200 rfl
theorem dX12_wall_205 : decode cX12_wall 205 = .ok (.ireturn, 1) := kd_r kbX12_wall ki_7 rfl
set_option maxRecDepth 20000 in
theorem ggX12_furrow_X12_isStreet : GoodIn wsX12_furrow wsX12_isStreet := goodIn_r _ [6, 7, 8, 9, 5, 10, 16, 17, 18, 19, 20, 21, 22, 23, 24, 25, 26, 27, 28, 29, 30, 31, 32, 33, 34, 35, 36, 37, 38, 39, 40, 41, 42, 43, 44, 45, 46, 47, 48, 49, 50, 51, 52, 53, 54, 55, 56, 57, 58, 59, 60, 61, 62, 63, 64] rfl (by decide +kernel)
set_option maxRecDepth 20000 in
theorem gX12_furrow_X12_isStreet : GoodIn wsX12_furrow (wsV RX12 126 RX12 yX12_isStreet wsX12_isStreet) := goodIn_app (goodIn_of _ (by decide +kernel)) ggX12_furrow_X12_isStreet
set_option maxRecDepth 20000 in
theorem ggX12_furrow_X12_aside : GoodIn wsX12_furrow wsX12_aside := goodIn_r _ [14, 15, 16, 17, 18, 19, 20, 21, 22, 23, 24, 25, 26, 27, 28, 29, 30, 31, 32, 33, 34, 35, 36, 37, 38, 39, 40, 41, 42, 43, 44, 45, 46, 47, 48, 49, 50, 51, 52, 53, 54, 55, 56, 57, 58, 59, 60, 61, 62, 63, 64] rfl (by decide +kernel)
set_option maxRecDepth 20000 in
theorem gX12_furrow_X12_aside : GoodIn wsX12_furrow (wsV RX12 117 RX12 yX12_aside wsX12_aside) := goodIn_app (goodIn_of _ (by decide +kernel)) ggX12_furrow_X12_aside
theorem dX12_furrow_0 : decode cX12_furrow 0 = .ok (.aload_n 0, 1) := kd_r kbX12_furrow ki_0 rfl
theorem dX12_furrow_1 : decode cX12_furrow 1 = .ok (.iload_n 1, 1) := kd_r kbX12_furrow ki_8 rfl
theorem dX12_furrow_2 : decode cX12_furrow 2 = .ok (.invokevirtual 126, 3) := kd_r kbX12_furrow ki_764 rfl
theorem dX12_furrow_5 : decode cX12_furrow 5 = .ok (.ifCond .ne 5, 3) := kd_r kbX12_furrow ki_36 rfl
theorem dX12_furrow_8 : decode cX12_furrow 8 = .ok (.iconst (-1), 1) := kd_r kbX12_furrow ki_99 rfl
theorem dX12_furrow_9 : decode cX12_furrow 9 = .ok (.ireturn, 1) := kd_r kbX12_furrow ki_7 rfl
theorem dX12_furrow_10 : decode cX12_furrow 10 = .ok (.iconst 0, 1) := kd_r kbX12_furrow ki_20 rfl
theorem dX12_furrow_11 : decode cX12_furrow 11 = .ok (.istore_n 2, 1) := kd_r kbX12_furrow ki_32 rfl
theorem dX12_furrow_12 : decode cX12_furrow 12 = .ok (.iconst 0, 1) := kd_r kbX12_furrow ki_20 rfl
theorem dX12_furrow_13 : decode cX12_furrow 13 = .ok (.istore_n 3, 1) := kd_r kbX12_furrow ki_108 rfl
theorem dX12_furrow_14 : decode cX12_furrow 14 = .ok (.iconst 0, 1) := kd_r kbX12_furrow ki_20 rfl
theorem dX12_furrow_15 : decode cX12_furrow 15 = .ok (.istore 4, 2) := kd_r kbX12_furrow ki_129 rfl
theorem dX12_furrow_17 : decode cX12_furrow 17 = .ok (.iload 4, 2) := kd_r kbX12_furrow ki_57 rfl
theorem dX12_furrow_19 : decode cX12_furrow 19 = .ok (.aload_n 0, 1) := kd_r kbX12_furrow ki_0 rfl
theorem dX12_furrow_20 : decode cX12_furrow 20 = .ok (.getfield 9, 3) := kd_r kbX12_furrow ki_13 rfl
theorem dX12_furrow_23 : decode cX12_furrow 23 = .ok (.iload_n 1, 1) := kd_r kbX12_furrow ki_8 rfl
theorem dX12_furrow_24 : decode cX12_furrow 24 = .ok (.iaload, 1) := kd_r kbX12_furrow ki_14 rfl
theorem dX12_furrow_25 : decode cX12_furrow 25 = .ok (.if_icmp .ge 60, 3) := kd_r kbX12_furrow ki_804 rfl
theorem dX12_furrow_28 : decode cX12_furrow 28 = .ok (.aload_n 0, 1) := kd_r kbX12_furrow ki_0 rfl
theorem dX12_furrow_29 : decode cX12_furrow 29 = .ok (.iload_n 1, 1) := kd_r kbX12_furrow ki_8 rfl
theorem dX12_furrow_30 : decode cX12_furrow 30 = .ok (.iload 4, 2) := kd_r kbX12_furrow ki_57 rfl
theorem dX12_furrow_32 : decode cX12_furrow 32 = .ok (.invokevirtual 117, 3) := kd_r kbX12_furrow ki_755 rfl
theorem dX12_furrow_35 : decode cX12_furrow 35 = .ok (.istore 5, 2) := kd_r kbX12_furrow ki_133 rfl
theorem dX12_furrow_37 : decode cX12_furrow 37 = .ok (.iload 5, 2) := kd_r kbX12_furrow ki_134 rfl
theorem dX12_furrow_39 : decode cX12_furrow 39 = .ok (.ifCond .eq 40, 3) := kd_r kbX12_furrow ki_889 rfl
theorem dX12_furrow_42 : decode cX12_furrow 42 = .ok (.iload_n 2, 1) := kd_r kbX12_furrow ki_11 rfl
theorem dX12_furrow_43 : decode cX12_furrow 43 = .ok (.iload_n 3, 1) := kd_r kbX12_furrow ki_55 rfl
theorem dX12_furrow_44 : decode cX12_furrow 44 = .ok (.ifCond .eq 29, 3) := kd_r kbX12_furrow ki_765 rfl
theorem dX12_furrow_47 : decode cX12_furrow 47 = .ok (.iload 5, 2) := kd_r kbX12_furrow ki_134 rfl
theorem dX12_furrow_49 : decode cX12_furrow 49 = .ok (.ifCond .le 7, 3) := kd_r kbX12_furrow ki_710 rfl
theorem dX12_furrow_52 : decode cX12_furrow 52 = .ok (.iconst 1, 1) := kd_r kbX12_furrow ki_16 rfl
theorem dX12_furrow_53 : decode cX12_furrow 53 = .ok (.goto 4, 3) := kd_r kbX12_furrow ki_19 rfl
theorem dX12_furrow_56 : decode cX12_furrow 56 = .ok (.iconst 0, 1) := kd_r kbX12_furrow ki_20 rfl
theorem dX12_furrow_57 : decode cX12_furrow 57 = .ok (.iload_n 3, 1) := kd_r kbX12_furrow ki_55 rfl
theorem dX12_furrow_58 : decode cX12_furrow 58 = .ok (.ifCond .le 7, 3) := kd_r kbX12_furrow ki_710 rfl
theorem dX12_furrow_61 : decode cX12_furrow 61 = .ok (.iconst 1, 1) := kd_r kbX12_furrow ki_16 rfl
theorem dX12_furrow_62 : decode cX12_furrow 62 = .ok (.goto 4, 3) := kd_r kbX12_furrow ki_19 rfl
theorem dX12_furrow_65 : decode cX12_furrow 65 = .ok (.iconst 0, 1) := kd_r kbX12_furrow ki_20 rfl
theorem dX12_furrow_66 : decode cX12_furrow 66 = .ok (.if_icmp .eq 7, 3) := kd_r kbX12_furrow ki_254 rfl
theorem dX12_furrow_69 : decode cX12_furrow 69 = .ok (.iconst 1, 1) := kd_r kbX12_furrow ki_16 rfl
theorem dX12_furrow_70 : decode cX12_furrow 70 = .ok (.goto 4, 3) := kd_r kbX12_furrow ki_19 rfl
theorem dX12_furrow_73 : decode cX12_furrow 73 = .ok (.iconst 0, 1) := kd_r kbX12_furrow ki_20 rfl
theorem dX12_furrow_74 : decode cX12_furrow 74 = .ok (.iadd, 1) := kd_r kbX12_furrow ki_30 rfl
theorem dX12_furrow_75 : decode cX12_furrow 75 = .ok (.istore_n 2, 1) := kd_r kbX12_furrow ki_32 rfl
theorem dX12_furrow_76 : decode cX12_furrow 76 = .ok (.iload 5, 2) := kd_r kbX12_furrow ki_134 rfl
theorem dX12_furrow_78 : decode cX12_furrow 78 = .ok (.istore_n 3, 1) := kd_r kbX12_furrow ki_108 rfl
theorem dX12_furrow_79 : decode cX12_furrow 79 = .ok (.iinc 4 1, 3) := kd_r kbX12_furrow ki_144 rfl
theorem dX12_furrow_82 : decode cX12_furrow 82 = .ok (.goto (-65), 3) := kd_r kbX12_furrow ki_63 rfl
theorem dX12_furrow_85 : decode cX12_furrow 85 = .ok (.iload_n 2, 1) := kd_r kbX12_furrow ki_11 rfl
theorem dX12_furrow_86 : decode cX12_furrow 86 = .ok (.ireturn, 1) := kd_r kbX12_furrow ki_7 rfl
set_option maxRecDepth 20000 in
theorem ggX12_market_X12_looks : GoodIn wsX12_market wsX12_looks := goodIn_r _ [6, 1, 7, 8, 9, 10, 11, 5, 12, 13, 14, 15, 16, 17, 18, 19, 20, 21, 26, 27, 28, 29, 30, 31, 32, 33, 34, 35, 36, 37, 38, 39, 40, 41, 42, 43, 44, 45, 46, 47, 48, 49, 50, 51, 52, 53, 54, 55, 56, 57, 58, 59, 60, 61, 62, 63, 64, 65, 66, 67, 68, 69, 70, 71, 72, 73, 74] rfl (by decide +kernel)
set_option maxRecDepth 20000 in
theorem gX12_market_X12_looks : GoodIn wsX12_market (wsV RX12 176 RX12 yX12_looks wsX12_looks) := goodIn_app (goodIn_of _ (by decide +kernel)) ggX12_market_X12_looks
set_option maxRecDepth 20000 in
theorem ggX12_market_X12_atOf : GoodIn wsX12_market wsX12_atOf := goodIn_r _ [25, 17, 18, 19, 5, 20, 21, 26, 27, 28, 29, 30, 31, 32, 33, 34, 35, 36, 37, 38, 39, 40, 41, 42, 43, 44, 45, 46, 47, 48, 49, 50, 51, 52, 53, 54, 55, 56, 57, 58, 59, 60, 61, 62, 63, 64, 65, 66, 67, 68, 69, 70, 71, 72, 73, 74] rfl (by decide +kernel)
set_option maxRecDepth 20000 in
theorem gX12_market_X12_atOf : GoodIn wsX12_market (wsV RX12 153 RX12 yX12_atOf wsX12_atOf) := goodIn_app (goodIn_of _ (by decide +kernel)) ggX12_market_X12_atOf
theorem dX12_market_0 : decode cX12_market 0 = .ok (.aload_n 0, 1) := kd_r kbX12_market ki_0 rfl
theorem dX12_market_1 : decode cX12_market 1 = .ok (.iload_n 1, 1) := kd_r kbX12_market ki_8 rfl
theorem dX12_market_2 : decode cX12_market 2 = .ok (.iload_n 2, 1) := kd_r kbX12_market ki_11 rfl
theorem dX12_market_3 : decode cX12_market 3 = .ok (.invokevirtual 176, 3) := kd_r kbX12_market ki_811 rfl
theorem dX12_market_6 : decode cX12_market 6 = .ok (.ifCond .ne 5, 3) := kd_r kbX12_market ki_36 rfl
theorem dX12_market_9 : decode cX12_market 9 = .ok (.iconst (-1), 1) := kd_r kbX12_market ki_99 rfl
theorem dX12_market_10 : decode cX12_market 10 = .ok (.ireturn, 1) := kd_r kbX12_market ki_7 rfl
theorem dX12_market_11 : decode cX12_market 11 = .ok (.sipush 1000, 3) := kd_r kbX12_market ki_188 rfl
theorem dX12_market_14 : decode cX12_market 14 = .ok (.aload_n 0, 1) := kd_r kbX12_market ki_0 rfl
theorem dX12_market_15 : decode cX12_market 15 = .ok (.iload_n 1, 1) := kd_r kbX12_market ki_8 rfl
theorem dX12_market_16 : decode cX12_market 16 = .ok (.iload_n 2, 1) := kd_r kbX12_market ki_11 rfl
theorem dX12_market_17 : decode cX12_market 17 = .ok (.bipush 100, 2) := kd_r kbX12_market ki_228 rfl
theorem dX12_market_19 : decode cX12_market 19 = .ok (.irem, 1) := kd_r kbX12_market ki_227 rfl
theorem dX12_market_20 : decode cX12_market 20 = .ok (.iconst 1, 1) := kd_r kbX12_market ki_16 rfl
theorem dX12_market_21 : decode cX12_market 21 = .ok (.iadd, 1) := kd_r kbX12_market ki_30 rfl
theorem dX12_market_22 : decode cX12_market 22 = .ok (.invokevirtual 153, 3) := kd_r kbX12_market ki_790 rfl
theorem dX12_market_25 : decode cX12_market 25 = .ok (.aload_n 0, 1) := kd_r kbX12_market ki_0 rfl
theorem dX12_market_26 : decode cX12_market 26 = .ok (.iload_n 1, 1) := kd_r kbX12_market ki_8 rfl
theorem dX12_market_27 : decode cX12_market 27 = .ok (.iload_n 2, 1) := kd_r kbX12_market ki_11 rfl
theorem dX12_market_28 : decode cX12_market 28 = .ok (.bipush 100, 2) := kd_r kbX12_market ki_228 rfl
theorem dX12_market_30 : decode cX12_market 30 = .ok (.idiv, 1) := kd_r kbX12_market ki_225 rfl
theorem dX12_market_31 : decode cX12_market 31 = .ok (.invokevirtual 153, 3) := kd_r kbX12_market ki_790 rfl
theorem dX12_market_34 : decode cX12_market 34 = .ok (.isub, 1) := kd_r kbX12_market ki_50 rfl
theorem dX12_market_35 : decode cX12_market 35 = .ok (.imul, 1) := kd_r kbX12_market ki_114 rfl
theorem dX12_market_36 : decode cX12_market 36 = .ok (.aload_n 0, 1) := kd_r kbX12_market ki_0 rfl
theorem dX12_market_37 : decode cX12_market 37 = .ok (.iload_n 1, 1) := kd_r kbX12_market ki_8 rfl
theorem dX12_market_38 : decode cX12_market 38 = .ok (.aload_n 0, 1) := kd_r kbX12_market ki_0 rfl
theorem dX12_market_39 : decode cX12_market 39 = .ok (.getfield 9, 3) := kd_r kbX12_market ki_13 rfl
theorem dX12_market_42 : decode cX12_market 42 = .ok (.iload_n 1, 1) := kd_r kbX12_market ki_8 rfl
theorem dX12_market_43 : decode cX12_market 43 = .ok (.iaload, 1) := kd_r kbX12_market ki_14 rfl
theorem dX12_market_44 : decode cX12_market 44 = .ok (.invokevirtual 153, 3) := kd_r kbX12_market ki_790 rfl
theorem dX12_market_47 : decode cX12_market 47 = .ok (.idiv, 1) := kd_r kbX12_market ki_225 rfl
theorem dX12_market_48 : decode cX12_market 48 = .ok (.ireturn, 1) := kd_r kbX12_market ki_7 rfl
set_option maxRecDepth 20000 in
theorem ggX12_isName_X12_within : GoodIn wsX12_isName wsX12_within := goodIn_r _ [5] rfl (by decide +kernel)
set_option maxRecDepth 20000 in
theorem gX12_isName_X12_within : GoodIn wsX12_isName (va_wsS RX12 109 yX12_within wsX12_within) := goodIn_app (goodIn_of _ (by decide +kernel)) ggX12_isName_X12_within
theorem dX12_isName_0 : decode cX12_isName 0 = .ok (.iload_n 0, 1) := kd_r kbX12_isName ki_40 rfl
theorem dX12_isName_1 : decode cX12_isName 1 = .ok (.i2l, 1) := kd_r kbX12_isName ki_399 rfl
theorem dX12_isName_2 : decode cX12_isName 2 = .ok (.lconst 0, 1) := kd_r kbX12_isName ki_172 rfl
theorem dX12_isName_3 : decode cX12_isName 3 = .ok (.ldc2_w 227, 3) := kd_r kbX12_isName ki_890 rfl
theorem dX12_isName_6 : decode cX12_isName 6 = .ok (.invokestatic 109, 3) := kd_r kbX12_isName ki_751 rfl
theorem dX12_isName_9 : decode cX12_isName 9 = .ok (.ireturn, 1) := kd_r kbX12_isName ki_7 rfl
theorem dX12_told_0 : decode cX12_told 0 = .ok (.aload_n 0, 1) := kd_r kbX12_told ki_0 rfl
theorem dX12_told_1 : decode cX12_told 1 = .ok (.getfield 229, 3) := kd_r kbX12_told ki_891 rfl
theorem dX12_told_4 : decode cX12_told 4 = .ok (.bipush 10, 2) := kd_r kbX12_told ki_71 rfl
theorem dX12_told_6 : decode cX12_told 6 = .ok (.if_icmp .ne 6, 3) := kd_r kbX12_told ki_604 rfl
theorem dX12_told_9 : decode cX12_told 9 = .ok (.bipush (-3), 2) := kd_r kbX12_told ki_293 rfl
theorem dX12_told_11 : decode cX12_told 11 = .ok (.ireturn, 1) := kd_r kbX12_told ki_7 rfl
theorem dX12_told_12 : decode cX12_told 12 = .ok (.aload_n 0, 1) := kd_r kbX12_told ki_0 rfl
theorem dX12_told_13 : decode cX12_told 13 = .ok (.getfield 50, 3) := kd_r kbX12_told ki_892 rfl
theorem dX12_told_16 : decode cX12_told 16 = .ok (.aload_n 0, 1) := kd_r kbX12_told ki_0 rfl
theorem dX12_told_17 : decode cX12_told 17 = .ok (.getfield 229, 3) := kd_r kbX12_told ki_891 rfl
theorem dX12_told_20 : decode cX12_told 20 = .ok (.iload_n 1, 1) := kd_r kbX12_told ki_8 rfl
theorem dX12_told_21 : decode cX12_told 21 = .ok (.iastore, 1) := kd_r kbX12_told ki_28 rfl
theorem dX12_told_22 : decode cX12_told 22 = .ok (.aload_n 0, 1) := kd_r kbX12_told ki_0 rfl
theorem dX12_told_23 : decode cX12_told 23 = .ok (.getfield 53, 3) := kd_r kbX12_told ki_893 rfl
theorem dX12_told_26 : decode cX12_told 26 = .ok (.aload_n 0, 1) := kd_r kbX12_told ki_0 rfl
theorem dX12_told_27 : decode cX12_told 27 = .ok (.getfield 229, 3) := kd_r kbX12_told ki_891 rfl
theorem dX12_told_30 : decode cX12_told 30 = .ok (.iload_n 2, 1) := kd_r kbX12_told ki_11 rfl
theorem dX12_told_31 : decode cX12_told 31 = .ok (.iastore, 1) := kd_r kbX12_told ki_28 rfl
theorem dX12_told_32 : decode cX12_told 32 = .ok (.aload_n 0, 1) := kd_r kbX12_told ki_0 rfl
theorem dX12_told_33 : decode cX12_told 33 = .ok (.getfield 56, 3) := kd_r kbX12_told ki_894 rfl
theorem dX12_told_36 : decode cX12_told 36 = .ok (.aload_n 0, 1) := kd_r kbX12_told ki_0 rfl
theorem dX12_told_37 : decode cX12_told 37 = .ok (.getfield 229, 3) := kd_r kbX12_told ki_891 rfl
theorem dX12_told_40 : decode cX12_told 40 = .ok (.iload_n 3, 1) := kd_r kbX12_told ki_55 rfl
theorem dX12_told_41 : decode cX12_told 41 = .ok (.iastore, 1) := kd_r kbX12_told ki_28 rfl
theorem dX12_told_42 : decode cX12_told 42 = .ok (.aload_n 0, 1) := kd_r kbX12_told ki_0 rfl
theorem dX12_told_43 : decode cX12_told 43 = .ok (.dup, 1) := kd_r kbX12_told ki_29 rfl
theorem dX12_told_44 : decode cX12_told 44 = .ok (.getfield 229, 3) := kd_r kbX12_told ki_891 rfl
theorem dX12_told_47 : decode cX12_told 47 = .ok (.iconst 1, 1) := kd_r kbX12_told ki_16 rfl
theorem dX12_told_48 : decode cX12_told 48 = .ok (.iadd, 1) := kd_r kbX12_told ki_30 rfl
theorem dX12_told_49 : decode cX12_told 49 = .ok (.putfield 229, 3) := kd_r kbX12_told ki_895 rfl
theorem dX12_told_52 : decode cX12_told 52 = .ok (.aload_n 0, 1) := kd_r kbX12_told ki_0 rfl
theorem dX12_told_53 : decode cX12_told 53 = .ok (.getfield 229, 3) := kd_r kbX12_told ki_891 rfl
theorem dX12_told_56 : decode cX12_told 56 = .ok (.ireturn, 1) := kd_r kbX12_told ki_7 rfl
set_option maxRecDepth 20000 in
theorem ggX12_deed_X12_isName : GoodIn wsX12_deed wsX12_isName := goodIn_r _ [5, 6, 7, 8, 4, 9] rfl (by decide +kernel)
set_option maxRecDepth 20000 in
theorem gX12_deed_X12_isName : GoodIn wsX12_deed (va_wsS RX12 232 yX12_isName wsX12_isName) := goodIn_app (goodIn_of _ (by decide +kernel)) ggX12_deed_X12_isName
set_option maxRecDepth 20000 in
theorem ggX12_deed_X12_within : GoodIn wsX12_deed wsX12_within := goodIn_r _ [9] rfl (by decide +kernel)
set_option maxRecDepth 20000 in
theorem gX12_deed_X12_within : GoodIn wsX12_deed (va_wsS RX12 109 yX12_within wsX12_within) := goodIn_app (goodIn_of _ (by decide +kernel)) ggX12_deed_X12_within
set_option maxRecDepth 20000 in
theorem ggX12_deed_X12_told : GoodIn wsX12_deed wsX12_told := goodIn_r _ [13, 14, 15, 16, 17, 18, 19, 20, 21, 22, 23, 24, 25, 26, 27, 28, 29, 30, 31, 32, 33, 34, 35, 36, 37, 38, 39, 40, 41, 42, 43, 44, 45, 46, 47, 48, 49, 50, 51, 52, 53, 54, 55, 56, 57, 58, 59, 60, 61, 62, 63, 64, 65, 66] rfl (by decide +kernel)
set_option maxRecDepth 20000 in
theorem gX12_deed_X12_told : GoodIn wsX12_deed (wsV RX12 235 RX12 yX12_told wsX12_told) := goodIn_app (goodIn_of _ (by decide +kernel)) ggX12_deed_X12_told
theorem dX12_deed_0 : decode cX12_deed 0 = .ok (.iload_n 1, 1) := kd_r kbX12_deed ki_8 rfl
theorem dX12_deed_1 : decode cX12_deed 1 = .ok (.ifCond .lt 62, 3) := kd_r kbX12_deed ki_896 rfl
theorem dX12_deed_4 : decode cX12_deed 4 = .ok (.iload_n 1, 1) := kd_r kbX12_deed ki_8 rfl
theorem dX12_deed_5 : decode cX12_deed 5 = .ok (.bipush 10, 2) := kd_r kbX12_deed ki_71 rfl
theorem dX12_deed_7 : decode cX12_deed 7 = .ok (.idiv, 1) := kd_r kbX12_deed ki_225 rfl
theorem dX12_deed_8 : decode cX12_deed 8 = .ok (.invokestatic 232, 3) := kd_r kbX12_deed ki_897 rfl
theorem dX12_deed_11 : decode cX12_deed 11 = .ok (.ifCond .eq 52, 3) := kd_r kbX12_deed ki_898 rfl
theorem dX12_deed_14 : decode cX12_deed 14 = .ok (.iload_n 1, 1) := kd_r kbX12_deed ki_8 rfl
theorem dX12_deed_15 : decode cX12_deed 15 = .ok (.bipush 10, 2) := kd_r kbX12_deed ki_71 rfl
theorem dX12_deed_17 : decode cX12_deed 17 = .ok (.irem, 1) := kd_r kbX12_deed ki_227 rfl
theorem dX12_deed_18 : decode cX12_deed 18 = .ok (.invokestatic 232, 3) := kd_r kbX12_deed ki_897 rfl
theorem dX12_deed_21 : decode cX12_deed 21 = .ok (.ifCond .eq 42, 3) := kd_r kbX12_deed ki_899 rfl
theorem dX12_deed_24 : decode cX12_deed 24 = .ok (.iload_n 1, 1) := kd_r kbX12_deed ki_8 rfl
theorem dX12_deed_25 : decode cX12_deed 25 = .ok (.bipush 10, 2) := kd_r kbX12_deed ki_71 rfl
theorem dX12_deed_27 : decode cX12_deed 27 = .ok (.idiv, 1) := kd_r kbX12_deed ki_225 rfl
theorem dX12_deed_28 : decode cX12_deed 28 = .ok (.iload_n 1, 1) := kd_r kbX12_deed ki_8 rfl
theorem dX12_deed_29 : decode cX12_deed 29 = .ok (.bipush 10, 2) := kd_r kbX12_deed ki_71 rfl
theorem dX12_deed_31 : decode cX12_deed 31 = .ok (.irem, 1) := kd_r kbX12_deed ki_227 rfl
theorem dX12_deed_32 : decode cX12_deed 32 = .ok (.if_icmp .eq 31, 3) := kd_r kbX12_deed ki_900 rfl
theorem dX12_deed_35 : decode cX12_deed 35 = .ok (.iload_n 2, 1) := kd_r kbX12_deed ki_11 rfl
theorem dX12_deed_36 : decode cX12_deed 36 = .ok (.i2l, 1) := kd_r kbX12_deed ki_399 rfl
theorem dX12_deed_37 : decode cX12_deed 37 = .ok (.lconst 0, 1) := kd_r kbX12_deed ki_172 rfl
theorem dX12_deed_38 : decode cX12_deed 38 = .ok (.ldc2_w 120, 3) := kd_r kbX12_deed ki_758 rfl
theorem dX12_deed_41 : decode cX12_deed 41 = .ok (.invokestatic 109, 3) := kd_r kbX12_deed ki_751 rfl
theorem dX12_deed_44 : decode cX12_deed 44 = .ok (.ifCond .eq 19, 3) := kd_r kbX12_deed ki_901 rfl
theorem dX12_deed_47 : decode cX12_deed 47 = .ok (.aload_n 0, 1) := kd_r kbX12_deed ki_0 rfl
theorem dX12_deed_48 : decode cX12_deed 48 = .ok (.iload_n 1, 1) := kd_r kbX12_deed ki_8 rfl
theorem dX12_deed_49 : decode cX12_deed 49 = .ok (.bipush 10, 2) := kd_r kbX12_deed ki_71 rfl
theorem dX12_deed_51 : decode cX12_deed 51 = .ok (.idiv, 1) := kd_r kbX12_deed ki_225 rfl
theorem dX12_deed_52 : decode cX12_deed 52 = .ok (.iload_n 1, 1) := kd_r kbX12_deed ki_8 rfl
theorem dX12_deed_53 : decode cX12_deed 53 = .ok (.bipush 10, 2) := kd_r kbX12_deed ki_71 rfl
theorem dX12_deed_55 : decode cX12_deed 55 = .ok (.irem, 1) := kd_r kbX12_deed ki_227 rfl
theorem dX12_deed_56 : decode cX12_deed 56 = .ok (.iload_n 2, 1) := kd_r kbX12_deed ki_11 rfl
theorem dX12_deed_57 : decode cX12_deed 57 = .ok (.invokevirtual 235, 3) := kd_r kbX12_deed ki_902 rfl
theorem dX12_deed_60 : decode cX12_deed 60 = .ok (.goto 4, 3) := kd_r kbX12_deed ki_19 rfl
theorem dX12_deed_63 : decode cX12_deed 63 = .ok (.iconst (-1), 1) := kd_r kbX12_deed ki_99 rfl
theorem dX12_deed_64 : decode cX12_deed 64 = .ok (.ireturn, 1) := kd_r kbX12_deed ki_7 rfl
set_option maxRecDepth 20000 in
theorem ggX12_stands_X12_isName : GoodIn wsX12_stands wsX12_isName := goodIn_r _ [5, 6, 7, 8, 4, 9] rfl (by decide +kernel)
set_option maxRecDepth 20000 in
theorem gX12_stands_X12_isName : GoodIn wsX12_stands (va_wsS RX12 232 yX12_isName wsX12_isName) := goodIn_app (goodIn_of _ (by decide +kernel)) ggX12_stands_X12_isName
set_option maxRecDepth 20000 in
theorem ggX12_stands_X12_within : GoodIn wsX12_stands wsX12_within := goodIn_r _ [9] rfl (by decide +kernel)
set_option maxRecDepth 20000 in
theorem gX12_stands_X12_within : GoodIn wsX12_stands (va_wsS RX12 109 yX12_within wsX12_within) := goodIn_app (goodIn_of _ (by decide +kernel)) ggX12_stands_X12_within
set_option maxRecDepth 20000 in
theorem ggX12_stands_X12_told : GoodIn wsX12_stands wsX12_told := goodIn_r _ [13, 14, 15, 16, 17, 18, 19, 20, 21, 22, 23, 24, 25, 26, 27, 28, 29, 30, 31, 32, 33, 34, 35, 36, 37, 38, 39, 40, 41, 42, 43, 44, 45, 46, 47, 48, 49, 50, 51, 52, 53, 54, 55, 56, 57, 58, 59, 60, 61, 62, 63, 64, 65, 66] rfl (by decide +kernel)
set_option maxRecDepth 20000 in
theorem gX12_stands_X12_told : GoodIn wsX12_stands (wsV RX12 235 RX12 yX12_told wsX12_told) := goodIn_app (goodIn_of _ (by decide +kernel)) ggX12_stands_X12_told
theorem dX12_stands_0 : decode cX12_stands 0 = .ok (.iload_n 1, 1) := kd_r kbX12_stands ki_8 rfl
theorem dX12_stands_1 : decode cX12_stands 1 = .ok (.invokestatic 232, 3) := kd_r kbX12_stands ki_897 rfl
theorem dX12_stands_4 : decode cX12_stands 4 = .ok (.ifCond .eq 25, 3) := kd_r kbX12_stands ki_783 rfl
theorem dX12_stands_7 : decode cX12_stands 7 = .ok (.iload_n 2, 1) := kd_r kbX12_stands ki_11 rfl
theorem dX12_stands_8 : decode cX12_stands 8 = .ok (.i2l, 1) := kd_r kbX12_stands ki_399 rfl
theorem dX12_stands_9 : decode cX12_stands 9 = .ok (.lconst 0, 1) := kd_r kbX12_stands ki_172 rfl
theorem dX12_stands_10 : decode cX12_stands 10 = .ok (.ldc2_w 239, 3) := kd_r kbX12_stands ki_903 rfl
theorem dX12_stands_13 : decode cX12_stands 13 = .ok (.invokestatic 109, 3) := kd_r kbX12_stands ki_751 rfl
theorem dX12_stands_16 : decode cX12_stands 16 = .ok (.ifCond .eq 13, 3) := kd_r kbX12_stands ki_413 rfl
theorem dX12_stands_19 : decode cX12_stands 19 = .ok (.aload_n 0, 1) := kd_r kbX12_stands ki_0 rfl
theorem dX12_stands_20 : decode cX12_stands 20 = .ok (.iload_n 1, 1) := kd_r kbX12_stands ki_8 rfl
theorem dX12_stands_21 : decode cX12_stands 21 = .ok (.iconst (-1), 1) := kd_r kbX12_stands ki_99 rfl
theorem dX12_stands_22 : decode cX12_stands 22 = .ok (.iload_n 2, 1) := kd_r kbX12_stands ki_11 rfl
theorem dX12_stands_23 : decode cX12_stands 23 = .ok (.invokevirtual 235, 3) := kd_r kbX12_stands ki_902 rfl
theorem dX12_stands_26 : decode cX12_stands 26 = .ok (.goto 4, 3) := kd_r kbX12_stands ki_19 rfl
theorem dX12_stands_29 : decode cX12_stands 29 = .ok (.iconst (-1), 1) := kd_r kbX12_stands ki_99 rfl
theorem dX12_stands_30 : decode cX12_stands 30 = .ok (.ireturn, 1) := kd_r kbX12_stands ki_7 rfl
theorem dX12_burn_0 : decode cX12_burn 0 = .ok (.aload_n 0, 1) := kd_r kbX12_burn ki_0 rfl
theorem dX12_burn_1 : decode cX12_burn 1 = .ok (.getfield 229, 3) := kd_r kbX12_burn ki_891 rfl
theorem dX12_burn_4 : decode cX12_burn 4 = .ok (.istore_n 1, 1) := kd_r kbX12_burn ki_60 rfl
theorem dX12_burn_5 : decode cX12_burn 5 = .ok (.aload_n 0, 1) := kd_r kbX12_burn ki_0 rfl
theorem dX12_burn_6 : decode cX12_burn 6 = .ok (.iconst 0, 1) := kd_r kbX12_burn ki_20 rfl
theorem dX12_burn_7 : decode cX12_burn 7 = .ok (.putfield 229, 3) := kd_r kbX12_burn ki_895 rfl
theorem dX12_burn_10 : decode cX12_burn 10 = .ok (.iload_n 1, 1) := kd_r kbX12_burn ki_8 rfl
theorem dX12_burn_11 : decode cX12_burn 11 = .ok (.ireturn, 1) := kd_r kbX12_burn ki_7 rfl
theorem dX12_findNames_0 : decode cX12_findNames 0 = .ok (.aload_n 0, 1) := kd_r kbX12_findNames ki_0 rfl
theorem dX12_findNames_1 : decode cX12_findNames 1 = .ok (.iconst 0, 1) := kd_r kbX12_findNames ki_20 rfl
theorem dX12_findNames_2 : decode cX12_findNames 2 = .ok (.putfield 241, 3) := kd_r kbX12_findNames ki_904 rfl
theorem dX12_findNames_5 : decode cX12_findNames 5 = .ok (.iconst 0, 1) := kd_r kbX12_findNames ki_20 rfl
theorem dX12_findNames_6 : decode cX12_findNames 6 = .ok (.istore_n 1, 1) := kd_r kbX12_findNames ki_60 rfl
theorem dX12_findNames_7 : decode cX12_findNames 7 = .ok (.iload_n 1, 1) := kd_r kbX12_findNames ki_8 rfl
theorem dX12_findNames_8 : decode cX12_findNames 8 = .ok (.bipush 8, 2) := kd_r kbX12_findNames ki_74 rfl
theorem dX12_findNames_10 : decode cX12_findNames 10 = .ok (.if_icmp .ge 88, 3) := kd_r kbX12_findNames ki_905 rfl
theorem dX12_findNames_13 : decode cX12_findNames 13 = .ok (.iconst 0, 1) := kd_r kbX12_findNames ki_20 rfl
theorem dX12_findNames_14 : decode cX12_findNames 14 = .ok (.istore_n 2, 1) := kd_r kbX12_findNames ki_32 rfl
theorem dX12_findNames_15 : decode cX12_findNames 15 = .ok (.iconst 0, 1) := kd_r kbX12_findNames ki_20 rfl
theorem dX12_findNames_16 : decode cX12_findNames 16 = .ok (.istore_n 3, 1) := kd_r kbX12_findNames ki_108 rfl
theorem dX12_findNames_17 : decode cX12_findNames 17 = .ok (.iload_n 3, 1) := kd_r kbX12_findNames ki_55 rfl
theorem dX12_findNames_18 : decode cX12_findNames 18 = .ok (.aload_n 0, 1) := kd_r kbX12_findNames ki_0 rfl
theorem dX12_findNames_19 : decode cX12_findNames 19 = .ok (.getfield 229, 3) := kd_r kbX12_findNames ki_891 rfl
theorem dX12_findNames_22 : decode cX12_findNames 22 = .ok (.if_icmp .ge 39, 3) := kd_r kbX12_findNames ki_374 rfl
theorem dX12_findNames_25 : decode cX12_findNames 25 = .ok (.iload_n 2, 1) := kd_r kbX12_findNames ki_11 rfl
theorem dX12_findNames_26 : decode cX12_findNames 26 = .ok (.ifCond .ne 23, 3) := kd_r kbX12_findNames ki_906 rfl
theorem dX12_findNames_29 : decode cX12_findNames 29 = .ok (.aload_n 0, 1) := kd_r kbX12_findNames ki_0 rfl
theorem dX12_findNames_30 : decode cX12_findNames 30 = .ok (.getfield 50, 3) := kd_r kbX12_findNames ki_892 rfl
theorem dX12_findNames_33 : decode cX12_findNames 33 = .ok (.iload_n 3, 1) := kd_r kbX12_findNames ki_55 rfl
theorem dX12_findNames_34 : decode cX12_findNames 34 = .ok (.iaload, 1) := kd_r kbX12_findNames ki_14 rfl
theorem dX12_findNames_35 : decode cX12_findNames 35 = .ok (.iload_n 1, 1) := kd_r kbX12_findNames ki_8 rfl
theorem dX12_findNames_36 : decode cX12_findNames 36 = .ok (.if_icmp .eq 13, 3) := kd_r kbX12_findNames ki_90 rfl
theorem dX12_findNames_39 : decode cX12_findNames 39 = .ok (.aload_n 0, 1) := kd_r kbX12_findNames ki_0 rfl
theorem dX12_findNames_40 : decode cX12_findNames 40 = .ok (.getfield 53, 3) := kd_r kbX12_findNames ki_893 rfl
theorem dX12_findNames_43 : decode cX12_findNames 43 = .ok (.iload_n 3, 1) := kd_r kbX12_findNames ki_55 rfl
theorem dX12_findNames_44 : decode cX12_findNames 44 = .ok (.iaload, 1) := kd_r kbX12_findNames ki_14 rfl
theorem dX12_findNames_45 : decode cX12_findNames 45 = .ok (.iload_n 1, 1) := kd_r kbX12_findNames ki_8 rfl
theorem dX12_findNames_46 : decode cX12_findNames 46 = .ok (.if_icmp .ne 7, 3) := kd_r kbX12_findNames ki_280 rfl
theorem dX12_findNames_49 : decode cX12_findNames 49 = .ok (.iconst 1, 1) := kd_r kbX12_findNames ki_16 rfl
theorem dX12_findNames_50 : decode cX12_findNames 50 = .ok (.goto 4, 3) := kd_r kbX12_findNames ki_19 rfl
theorem dX12_findNames_53 : decode cX12_findNames 53 = .ok (.iconst 0, 1) := kd_r kbX12_findNames ki_20 rfl
theorem dX12_findNames_54 : decode cX12_findNames 54 = .ok (.istore_n 2, 1) := kd_r kbX12_findNames ki_32 rfl
theorem dX12_findNames_55 : decode cX12_findNames 55 = .ok (.iinc 3 1, 3) := kd_r kbX12_findNames ki_116 rfl
theorem dX12_findNames_58 : decode cX12_findNames 58 = .ok (.goto (-41), 3) := kd_r kbX12_findNames ki_355 rfl
theorem dX12_findNames_61 : decode cX12_findNames 61 = .ok (.aload_n 0, 1) := kd_r kbX12_findNames ki_0 rfl
theorem dX12_findNames_62 : decode cX12_findNames 62 = .ok (.getfield 62, 3) := kd_r kbX12_findNames ki_907 rfl
theorem dX12_findNames_65 : decode cX12_findNames 65 = .ok (.iload_n 1, 1) := kd_r kbX12_findNames ki_8 rfl
theorem dX12_findNames_66 : decode cX12_findNames 66 = .ok (.iconst (-1), 1) := kd_r kbX12_findNames ki_99 rfl
theorem dX12_findNames_67 : decode cX12_findNames 67 = .ok (.iastore, 1) := kd_r kbX12_findNames ki_28 rfl
theorem dX12_findNames_68 : decode cX12_findNames 68 = .ok (.iload_n 2, 1) := kd_r kbX12_findNames ki_11 rfl
theorem dX12_findNames_69 : decode cX12_findNames 69 = .ok (.ifCond .eq 23, 3) := kd_r kbX12_findNames ki_768 rfl
theorem dX12_findNames_72 : decode cX12_findNames 72 = .ok (.aload_n 0, 1) := kd_r kbX12_findNames ki_0 rfl
theorem dX12_findNames_73 : decode cX12_findNames 73 = .ok (.getfield 59, 3) := kd_r kbX12_findNames ki_908 rfl
theorem dX12_findNames_76 : decode cX12_findNames 76 = .ok (.aload_n 0, 1) := kd_r kbX12_findNames ki_0 rfl
theorem dX12_findNames_77 : decode cX12_findNames 77 = .ok (.getfield 241, 3) := kd_r kbX12_findNames ki_909 rfl
theorem dX12_findNames_80 : decode cX12_findNames 80 = .ok (.iload_n 1, 1) := kd_r kbX12_findNames ki_8 rfl
theorem dX12_findNames_81 : decode cX12_findNames 81 = .ok (.iastore, 1) := kd_r kbX12_findNames ki_28 rfl
theorem dX12_findNames_82 : decode cX12_findNames 82 = .ok (.aload_n 0, 1) := kd_r kbX12_findNames ki_0 rfl
theorem dX12_findNames_83 : decode cX12_findNames 83 = .ok (.dup, 1) := kd_r kbX12_findNames ki_29 rfl
theorem dX12_findNames_84 : decode cX12_findNames 84 = .ok (.getfield 241, 3) := kd_r kbX12_findNames ki_909 rfl
theorem dX12_findNames_87 : decode cX12_findNames 87 = .ok (.iconst 1, 1) := kd_r kbX12_findNames ki_16 rfl
theorem dX12_findNames_88 : decode cX12_findNames 88 = .ok (.iadd, 1) := kd_r kbX12_findNames ki_30 rfl
theorem dX12_findNames_89 : decode cX12_findNames 89 = .ok (.putfield 241, 3) := kd_r kbX12_findNames ki_904 rfl
theorem dX12_findNames_92 : decode cX12_findNames 92 = .ok (.iinc 1 1, 3) := kd_r kbX12_findNames ki_62 rfl
theorem dX12_findNames_95 : decode cX12_findNames 95 = .ok (.goto (-88), 3) := kd_r kbX12_findNames ki_910 rfl
theorem dX12_findNames_98 : decode cX12_findNames 98 = .ok (.return_, 1) := kd_r kbX12_findNames ki_5 rfl
set_option maxRecDepth 20000 in
theorem ggX12_mayBe_X12_atOf : GoodIn wsX12_mayBe wsX12_atOf := goodIn_r _ [9, 10, 11, 12, 8, 13, 14, 18, 19, 20, 21, 22, 23, 24, 25, 26, 27, 28, 29, 30, 31, 32, 33, 34, 35, 36, 37, 38, 39, 40, 41, 42, 43, 44, 45, 46, 47, 48, 49, 50, 51, 52, 53, 54, 55, 56, 57, 58, 59, 60, 61, 62, 63, 64, 65, 66] rfl (by decide +kernel)
set_option maxRecDepth 20000 in
theorem gX12_mayBe_X12_atOf : GoodIn wsX12_mayBe (wsV RX12 153 RX12 yX12_atOf wsX12_atOf) := goodIn_app (goodIn_of _ (by decide +kernel)) ggX12_mayBe_X12_atOf
set_option maxRecDepth 20000 in
theorem ggX12_mayBe_X12_size : GoodIn wsX12_mayBe wsX12_size := goodIn_r _ [17] rfl (by decide +kernel)
set_option maxRecDepth 20000 in
theorem gX12_mayBe_X12_size : GoodIn wsX12_mayBe (va_wsS RX12 196 yX12_size wsX12_size) := goodIn_app (goodIn_of _ (by decide +kernel)) ggX12_mayBe_X12_size
theorem dX12_mayBe_0 : decode cX12_mayBe 0 = .ok (.aload_n 0, 1) := kd_r kbX12_mayBe ki_0 rfl
theorem dX12_mayBe_1 : decode cX12_mayBe 1 = .ok (.getfield 62, 3) := kd_r kbX12_mayBe ki_907 rfl
theorem dX12_mayBe_4 : decode cX12_mayBe 4 = .ok (.aload_n 0, 1) := kd_r kbX12_mayBe ki_0 rfl
theorem dX12_mayBe_5 : decode cX12_mayBe 5 = .ok (.getfield 50, 3) := kd_r kbX12_mayBe ki_892 rfl
theorem dX12_mayBe_8 : decode cX12_mayBe 8 = .ok (.iload_n 1, 1) := kd_r kbX12_mayBe ki_8 rfl
theorem dX12_mayBe_9 : decode cX12_mayBe 9 = .ok (.iaload, 1) := kd_r kbX12_mayBe ki_14 rfl
theorem dX12_mayBe_10 : decode cX12_mayBe 10 = .ok (.iaload, 1) := kd_r kbX12_mayBe ki_14 rfl
theorem dX12_mayBe_11 : decode cX12_mayBe 11 = .ok (.istore 4, 2) := kd_r kbX12_mayBe ki_129 rfl
theorem dX12_mayBe_13 : decode cX12_mayBe 13 = .ok (.iload 4, 2) := kd_r kbX12_mayBe ki_57 rfl
theorem dX12_mayBe_15 : decode cX12_mayBe 15 = .ok (.ifCond .ge 5, 3) := kd_r kbX12_mayBe ki_528 rfl
theorem dX12_mayBe_18 : decode cX12_mayBe 18 = .ok (.iconst 1, 1) := kd_r kbX12_mayBe ki_16 rfl
theorem dX12_mayBe_19 : decode cX12_mayBe 19 = .ok (.ireturn, 1) := kd_r kbX12_mayBe ki_7 rfl
theorem dX12_mayBe_20 : decode cX12_mayBe 20 = .ok (.aload_n 0, 1) := kd_r kbX12_mayBe ki_0 rfl
theorem dX12_mayBe_21 : decode cX12_mayBe 21 = .ok (.getfield 53, 3) := kd_r kbX12_mayBe ki_893 rfl
theorem dX12_mayBe_24 : decode cX12_mayBe 24 = .ok (.iload_n 1, 1) := kd_r kbX12_mayBe ki_8 rfl
theorem dX12_mayBe_25 : decode cX12_mayBe 25 = .ok (.iaload, 1) := kd_r kbX12_mayBe ki_14 rfl
theorem dX12_mayBe_26 : decode cX12_mayBe 26 = .ok (.ifCond .ge 20, 3) := kd_r kbX12_mayBe ki_911 rfl
theorem dX12_mayBe_29 : decode cX12_mayBe 29 = .ok (.iload 4, 2) := kd_r kbX12_mayBe ki_57 rfl
theorem dX12_mayBe_31 : decode cX12_mayBe 31 = .ok (.aload_n 0, 1) := kd_r kbX12_mayBe ki_0 rfl
theorem dX12_mayBe_32 : decode cX12_mayBe 32 = .ok (.getfield 56, 3) := kd_r kbX12_mayBe ki_894 rfl
theorem dX12_mayBe_35 : decode cX12_mayBe 35 = .ok (.iload_n 1, 1) := kd_r kbX12_mayBe ki_8 rfl
theorem dX12_mayBe_36 : decode cX12_mayBe 36 = .ok (.iaload, 1) := kd_r kbX12_mayBe ki_14 rfl
theorem dX12_mayBe_37 : decode cX12_mayBe 37 = .ok (.if_icmp .ne 7, 3) := kd_r kbX12_mayBe ki_280 rfl
theorem dX12_mayBe_40 : decode cX12_mayBe 40 = .ok (.iconst 1, 1) := kd_r kbX12_mayBe ki_16 rfl
theorem dX12_mayBe_41 : decode cX12_mayBe 41 = .ok (.goto 4, 3) := kd_r kbX12_mayBe ki_19 rfl
theorem dX12_mayBe_44 : decode cX12_mayBe 44 = .ok (.iconst 0, 1) := kd_r kbX12_mayBe ki_20 rfl
theorem dX12_mayBe_45 : decode cX12_mayBe 45 = .ok (.ireturn, 1) := kd_r kbX12_mayBe ki_7 rfl
theorem dX12_mayBe_46 : decode cX12_mayBe 46 = .ok (.aload_n 0, 1) := kd_r kbX12_mayBe ki_0 rfl
theorem dX12_mayBe_47 : decode cX12_mayBe 47 = .ok (.getfield 62, 3) := kd_r kbX12_mayBe ki_907 rfl
theorem dX12_mayBe_50 : decode cX12_mayBe 50 = .ok (.aload_n 0, 1) := kd_r kbX12_mayBe ki_0 rfl
theorem dX12_mayBe_51 : decode cX12_mayBe 51 = .ok (.getfield 53, 3) := kd_r kbX12_mayBe ki_893 rfl
theorem dX12_mayBe_54 : decode cX12_mayBe 54 = .ok (.iload_n 1, 1) := kd_r kbX12_mayBe ki_8 rfl
theorem dX12_mayBe_55 : decode cX12_mayBe 55 = .ok (.iaload, 1) := kd_r kbX12_mayBe ki_14 rfl
theorem dX12_mayBe_56 : decode cX12_mayBe 56 = .ok (.iaload, 1) := kd_r kbX12_mayBe ki_14 rfl
theorem dX12_mayBe_57 : decode cX12_mayBe 57 = .ok (.istore 5, 2) := kd_r kbX12_mayBe ki_133 rfl
theorem dX12_mayBe_59 : decode cX12_mayBe 59 = .ok (.iload 5, 2) := kd_r kbX12_mayBe ki_134 rfl
theorem dX12_mayBe_61 : decode cX12_mayBe 61 = .ok (.ifCond .lt 38, 3) := kd_r kbX12_mayBe ki_912 rfl
theorem dX12_mayBe_64 : decode cX12_mayBe 64 = .ok (.aload_n 0, 1) := kd_r kbX12_mayBe ki_0 rfl
theorem dX12_mayBe_65 : decode cX12_mayBe 65 = .ok (.iload_n 2, 1) := kd_r kbX12_mayBe ki_11 rfl
theorem dX12_mayBe_66 : decode cX12_mayBe 66 = .ok (.iload 4, 2) := kd_r kbX12_mayBe ki_57 rfl
theorem dX12_mayBe_68 : decode cX12_mayBe 68 = .ok (.invokevirtual 153, 3) := kd_r kbX12_mayBe ki_790 rfl
theorem dX12_mayBe_71 : decode cX12_mayBe 71 = .ok (.aload_n 0, 1) := kd_r kbX12_mayBe ki_0 rfl
theorem dX12_mayBe_72 : decode cX12_mayBe 72 = .ok (.iload_n 2, 1) := kd_r kbX12_mayBe ki_11 rfl
theorem dX12_mayBe_73 : decode cX12_mayBe 73 = .ok (.iload 5, 2) := kd_r kbX12_mayBe ki_134 rfl
theorem dX12_mayBe_75 : decode cX12_mayBe 75 = .ok (.invokevirtual 153, 3) := kd_r kbX12_mayBe ki_790 rfl
theorem dX12_mayBe_78 : decode cX12_mayBe 78 = .ok (.isub, 1) := kd_r kbX12_mayBe ki_50 rfl
theorem dX12_mayBe_79 : decode cX12_mayBe 79 = .ok (.bipush 10, 2) := kd_r kbX12_mayBe ki_71 rfl
theorem dX12_mayBe_81 : decode cX12_mayBe 81 = .ok (.aload_n 0, 1) := kd_r kbX12_mayBe ki_0 rfl
theorem dX12_mayBe_82 : decode cX12_mayBe 82 = .ok (.getfield 56, 3) := kd_r kbX12_mayBe ki_894 rfl
theorem dX12_mayBe_85 : decode cX12_mayBe 85 = .ok (.iload_n 1, 1) := kd_r kbX12_mayBe ki_8 rfl
theorem dX12_mayBe_86 : decode cX12_mayBe 86 = .ok (.iaload, 1) := kd_r kbX12_mayBe ki_14 rfl
theorem dX12_mayBe_87 : decode cX12_mayBe 87 = .ok (.imul, 1) := kd_r kbX12_mayBe ki_114 rfl
theorem dX12_mayBe_88 : decode cX12_mayBe 88 = .ok (.isub, 1) := kd_r kbX12_mayBe ki_50 rfl
theorem dX12_mayBe_89 : decode cX12_mayBe 89 = .ok (.invokestatic 196, 3) := kd_r kbX12_mayBe ki_836 rfl
theorem dX12_mayBe_92 : decode cX12_mayBe 92 = .ok (.bipush 10, 2) := kd_r kbX12_mayBe ki_71 rfl
theorem dX12_mayBe_94 : decode cX12_mayBe 94 = .ok (.iload_n 3, 1) := kd_r kbX12_mayBe ki_55 rfl
theorem dX12_mayBe_95 : decode cX12_mayBe 95 = .ok (.imul, 1) := kd_r kbX12_mayBe ki_114 rfl
theorem dX12_mayBe_96 : decode cX12_mayBe 96 = .ok (.if_icmp .gt 7, 3) := kd_r kbX12_mayBe ki_191 rfl
theorem dX12_mayBe_99 : decode cX12_mayBe 99 = .ok (.iconst 1, 1) := kd_r kbX12_mayBe ki_16 rfl
theorem dX12_mayBe_100 : decode cX12_mayBe 100 = .ok (.goto 4, 3) := kd_r kbX12_mayBe ki_19 rfl
theorem dX12_mayBe_103 : decode cX12_mayBe 103 = .ok (.iconst 0, 1) := kd_r kbX12_mayBe ki_20 rfl
theorem dX12_mayBe_104 : decode cX12_mayBe 104 = .ok (.ireturn, 1) := kd_r kbX12_mayBe ki_7 rfl
set_option maxRecDepth 20000 in
theorem ggX12_puts_X12_mayBe : GoodIn wsX12_puts wsX12_mayBe := goodIn_r _ [13, 4, 14, 15, 16, 17, 18, 19, 12, 20, 21, 22, 23, 24, 25, 26, 27, 28, 32, 33, 34, 35, 36, 37, 38, 39, 40, 41, 42, 43, 44, 45, 46, 47, 48, 49, 50, 51, 52, 53, 54, 55, 56, 57, 58, 59, 60, 61, 62, 63, 64, 65, 66, 67, 68, 69, 70, 71, 72, 73, 74, 75, 76, 77, 78, 79, 80] rfl (by decide +kernel)
set_option maxRecDepth 20000 in
theorem gX12_puts_X12_mayBe : GoodIn wsX12_puts (wsV RX12 248 RX12 yX12_mayBe wsX12_mayBe) := goodIn_app (goodIn_of _ (by decide +kernel)) ggX12_puts_X12_mayBe
set_option maxRecDepth 20000 in
theorem ggX12_puts_X12_puts : GoodIn wsX12_puts wsX12_puts := goodIn_r _ [0, 1, 2, 3, 4, 5, 6, 7, 8, 9, 10, 11, 12, 13, 14, 15, 16, 17, 18, 19, 20, 21, 22, 23, 24, 25, 26, 27, 28, 29, 30, 31, 32, 33, 34, 35, 36, 37, 38, 39, 40, 41, 42, 43, 44, 45, 46, 47, 48, 49, 50, 51, 52, 53, 54, 55, 56, 57, 58, 59, 60, 61, 62, 63, 64, 65, 66, 67, 68, 69, 70, 71, 72, 73, 74, 75, 76, 77, 78, 79, 80] rfl (by decide +kernel)
set_option maxRecDepth 20000 in
theorem gX12_puts_X12_puts : GoodIn wsX12_puts (wsV RX12 252 RX12 yX12_puts wsX12_puts) := goodIn_app (goodIn_of _ (by decide +kernel)) ggX12_puts_X12_puts
theorem dX12_puts_0 : decode cX12_puts 0 = .ok (.iload_n 3, 1) := kd_r kbX12_puts ki_55 rfl
theorem dX12_puts_1 : decode cX12_puts 1 = .ok (.aload_n 0, 1) := kd_r kbX12_puts ki_0 rfl
theorem dX12_puts_2 : decode cX12_puts 2 = .ok (.getfield 241, 3) := kd_r kbX12_puts ki_909 rfl
theorem dX12_puts_5 : decode cX12_puts 5 = .ok (.if_icmp .ne 51, 3) := kd_r kbX12_puts ki_913 rfl
theorem dX12_puts_8 : decode cX12_puts 8 = .ok (.iconst 0, 1) := kd_r kbX12_puts ki_20 rfl
theorem dX12_puts_9 : decode cX12_puts 9 = .ok (.istore 4, 2) := kd_r kbX12_puts ki_129 rfl
theorem dX12_puts_11 : decode cX12_puts 11 = .ok (.iload 4, 2) := kd_r kbX12_puts ki_57 rfl
theorem dX12_puts_13 : decode cX12_puts 13 = .ok (.bipush 8, 2) := kd_r kbX12_puts ki_74 rfl
theorem dX12_puts_15 : decode cX12_puts 15 = .ok (.if_icmp .ge 30, 3) := kd_r kbX12_puts ki_34 rfl
theorem dX12_puts_18 : decode cX12_puts 18 = .ok (.aload_n 0, 1) := kd_r kbX12_puts ki_0 rfl
theorem dX12_puts_19 : decode cX12_puts 19 = .ok (.getfield 244, 3) := kd_r kbX12_puts ki_914 rfl
theorem dX12_puts_22 : decode cX12_puts 22 = .ok (.ifCond .ne 23, 3) := kd_r kbX12_puts ki_906 rfl
theorem dX12_puts_25 : decode cX12_puts 25 = .ok (.aload_n 0, 1) := kd_r kbX12_puts ki_0 rfl
theorem dX12_puts_26 : decode cX12_puts 26 = .ok (.getfield 65, 3) := kd_r kbX12_puts ki_639 rfl
theorem dX12_puts_29 : decode cX12_puts 29 = .ok (.iload 4, 2) := kd_r kbX12_puts ki_57 rfl
theorem dX12_puts_31 : decode cX12_puts 31 = .ok (.aload_n 0, 1) := kd_r kbX12_puts ki_0 rfl
theorem dX12_puts_32 : decode cX12_puts 32 = .ok (.getfield 62, 3) := kd_r kbX12_puts ki_907 rfl
theorem dX12_puts_35 : decode cX12_puts 35 = .ok (.iload 4, 2) := kd_r kbX12_puts ki_57 rfl
theorem dX12_puts_37 : decode cX12_puts 37 = .ok (.iaload, 1) := kd_r kbX12_puts ki_14 rfl
theorem dX12_puts_38 : decode cX12_puts 38 = .ok (.iastore, 1) := kd_r kbX12_puts ki_28 rfl
theorem dX12_puts_39 : decode cX12_puts 39 = .ok (.iinc 4 1, 3) := kd_r kbX12_puts ki_144 rfl
theorem dX12_puts_42 : decode cX12_puts 42 = .ok (.goto (-31), 3) := kd_r kbX12_puts ki_915 rfl
theorem dX12_puts_45 : decode cX12_puts 45 = .ok (.aload_n 0, 1) := kd_r kbX12_puts ki_0 rfl
theorem dX12_puts_46 : decode cX12_puts 46 = .ok (.dup, 1) := kd_r kbX12_puts ki_29 rfl
theorem dX12_puts_47 : decode cX12_puts 47 = .ok (.getfield 244, 3) := kd_r kbX12_puts ki_914 rfl
theorem dX12_puts_50 : decode cX12_puts 50 = .ok (.iconst 1, 1) := kd_r kbX12_puts ki_16 rfl
theorem dX12_puts_51 : decode cX12_puts 51 = .ok (.iadd, 1) := kd_r kbX12_puts ki_30 rfl
theorem dX12_puts_52 : decode cX12_puts 52 = .ok (.putfield 244, 3) := kd_r kbX12_puts ki_916 rfl
theorem dX12_puts_55 : decode cX12_puts 55 = .ok (.return_, 1) := kd_r kbX12_puts ki_5 rfl
theorem dX12_puts_56 : decode cX12_puts 56 = .ok (.iconst 0, 1) := kd_r kbX12_puts ki_20 rfl
theorem dX12_puts_57 : decode cX12_puts 57 = .ok (.istore 4, 2) := kd_r kbX12_puts ki_129 rfl
theorem dX12_puts_59 : decode cX12_puts 59 = .ok (.iload 4, 2) := kd_r kbX12_puts ki_57 rfl
theorem dX12_puts_61 : decode cX12_puts 61 = .ok (.aload_n 0, 1) := kd_r kbX12_puts ki_0 rfl
theorem dX12_puts_62 : decode cX12_puts 62 = .ok (.getfield 9, 3) := kd_r kbX12_puts ki_13 rfl
theorem dX12_puts_65 : decode cX12_puts 65 = .ok (.iload_n 1, 1) := kd_r kbX12_puts ki_8 rfl
theorem dX12_puts_66 : decode cX12_puts 66 = .ok (.iaload, 1) := kd_r kbX12_puts ki_14 rfl
theorem dX12_puts_67 : decode cX12_puts 67 = .ok (.if_icmp .ge 133, 3) := kd_r kbX12_puts ki_917 rfl
theorem dX12_puts_70 : decode cX12_puts 70 = .ok (.aload_n 0, 1) := kd_r kbX12_puts ki_0 rfl
theorem dX12_puts_71 : decode cX12_puts 71 = .ok (.getfield 244, 3) := kd_r kbX12_puts ki_914 rfl
theorem dX12_puts_74 : decode cX12_puts 74 = .ok (.ldc 247, 2) := kd_r kbX12_puts ki_918 rfl
theorem dX12_puts_76 : decode cX12_puts 76 = .ok (.if_icmp .ge 124, 3) := kd_r kbX12_puts ki_919 rfl
theorem dX12_puts_79 : decode cX12_puts 79 = .ok (.iconst 1, 1) := kd_r kbX12_puts ki_16 rfl
theorem dX12_puts_80 : decode cX12_puts 80 = .ok (.istore 5, 2) := kd_r kbX12_puts ki_133 rfl
theorem dX12_puts_82 : decode cX12_puts 82 = .ok (.iconst 0, 1) := kd_r kbX12_puts ki_20 rfl
theorem dX12_puts_83 : decode cX12_puts 83 = .ok (.istore 6, 2) := kd_r kbX12_puts ki_199 rfl
theorem dX12_puts_85 : decode cX12_puts 85 = .ok (.iload 6, 2) := kd_r kbX12_puts ki_200 rfl
theorem dX12_puts_87 : decode cX12_puts 87 = .ok (.iload_n 3, 1) := kd_r kbX12_puts ki_55 rfl
theorem dX12_puts_88 : decode cX12_puts 88 = .ok (.if_icmp .ge 38, 3) := kd_r kbX12_puts ki_93 rfl
theorem dX12_puts_91 : decode cX12_puts 91 = .ok (.iload 5, 2) := kd_r kbX12_puts ki_134 rfl
theorem dX12_puts_93 : decode cX12_puts 93 = .ok (.ifCond .eq 24, 3) := kd_r kbX12_puts ki_432 rfl
theorem dX12_puts_96 : decode cX12_puts 96 = .ok (.aload_n 0, 1) := kd_r kbX12_puts ki_0 rfl
theorem dX12_puts_97 : decode cX12_puts 97 = .ok (.getfield 62, 3) := kd_r kbX12_puts ki_907 rfl
theorem dX12_puts_100 : decode cX12_puts 100 = .ok (.aload_n 0, 1) := kd_r kbX12_puts ki_0 rfl
theorem dX12_puts_101 : decode cX12_puts 101 = .ok (.getfield 59, 3) := kd_r kbX12_puts ki_908 rfl
theorem dX12_puts_104 : decode cX12_puts 104 = .ok (.iload 6, 2) := kd_r kbX12_puts ki_200 rfl
theorem dX12_puts_106 : decode cX12_puts 106 = .ok (.iaload, 1) := kd_r kbX12_puts ki_14 rfl
theorem dX12_puts_107 : decode cX12_puts 107 = .ok (.iaload, 1) := kd_r kbX12_puts ki_14 rfl
theorem dX12_puts_108 : decode cX12_puts 108 = .ok (.iload 4, 2) := kd_r kbX12_puts ki_57 rfl
theorem dX12_puts_110 : decode cX12_puts 110 = .ok (.if_icmp .eq 7, 3) := kd_r kbX12_puts ki_254 rfl
theorem dX12_puts_113 : decode cX12_puts 113 = .ok (.iconst 1, 1) := kd_r kbX12_puts ki_16 rfl
theorem dX12_puts_114 : decode cX12_puts 114 = .ok (.goto 4, 3) := kd_r kbX12_puts ki_19 rfl
theorem dX12_puts_117 : decode cX12_puts 117 = .ok (.iconst 0, 1) := kd_r kbX12_puts ki_20 rfl
theorem dX12_puts_118 : decode cX12_puts 118 = .ok (.istore 5, 2) := kd_r kbX12_puts ki_133 rfl
theorem dX12_puts_120 : decode cX12_puts 120 = .ok (.iinc 6 1, 3) := kd_r kbX12_puts ki_208 rfl
theorem dX12_puts_123 : decode cX12_puts 123 = .ok (.goto (-38), 3) := kd_r kbX12_puts ki_100 rfl
theorem dX12_puts_126 : decode cX12_puts 126 = .ok (.aload_n 0, 1) := kd_r kbX12_puts ki_0 rfl
theorem dX12_puts_127 : decode cX12_puts 127 = .ok (.getfield 62, 3) := kd_r kbX12_puts ki_907 rfl
theorem dX12_puts_130 : decode cX12_puts 130 = .ok (.aload_n 0, 1) := kd_r kbX12_puts ki_0 rfl
theorem dX12_puts_131 : decode cX12_puts 131 = .ok (.getfield 59, 3) := kd_r kbX12_puts ki_908 rfl
theorem dX12_puts_134 : decode cX12_puts 134 = .ok (.iload_n 3, 1) := kd_r kbX12_puts ki_55 rfl
theorem dX12_puts_135 : decode cX12_puts 135 = .ok (.iaload, 1) := kd_r kbX12_puts ki_14 rfl
theorem dX12_puts_136 : decode cX12_puts 136 = .ok (.iload 4, 2) := kd_r kbX12_puts ki_57 rfl
theorem dX12_puts_138 : decode cX12_puts 138 = .ok (.iastore, 1) := kd_r kbX12_puts ki_28 rfl
theorem dX12_puts_139 : decode cX12_puts 139 = .ok (.iconst 0, 1) := kd_r kbX12_puts ki_20 rfl
theorem dX12_puts_140 : decode cX12_puts 140 = .ok (.istore 6, 2) := kd_r kbX12_puts ki_199 rfl
theorem dX12_puts_142 : decode cX12_puts 142 = .ok (.iload 6, 2) := kd_r kbX12_puts ki_200 rfl
theorem dX12_puts_144 : decode cX12_puts 144 = .ok (.aload_n 0, 1) := kd_r kbX12_puts ki_0 rfl
theorem dX12_puts_145 : decode cX12_puts 145 = .ok (.getfield 229, 3) := kd_r kbX12_puts ki_891 rfl
theorem dX12_puts_148 : decode cX12_puts 148 = .ok (.if_icmp .ge 32, 3) := kd_r kbX12_puts ki_920 rfl
theorem dX12_puts_151 : decode cX12_puts 151 = .ok (.iload 5, 2) := kd_r kbX12_puts ki_134 rfl
theorem dX12_puts_153 : decode cX12_puts 153 = .ok (.ifCond .eq 18, 3) := kd_r kbX12_puts ki_252 rfl
theorem dX12_puts_156 : decode cX12_puts 156 = .ok (.aload_n 0, 1) := kd_r kbX12_puts ki_0 rfl
theorem dX12_puts_157 : decode cX12_puts 157 = .ok (.iload 6, 2) := kd_r kbX12_puts ki_200 rfl
theorem dX12_puts_159 : decode cX12_puts 159 = .ok (.iload_n 1, 1) := kd_r kbX12_puts ki_8 rfl
theorem dX12_puts_160 : decode cX12_puts 160 = .ok (.iload_n 2, 1) := kd_r kbX12_puts ki_11 rfl
theorem dX12_puts_161 : decode cX12_puts 161 = .ok (.invokevirtual 248, 3) := kd_r kbX12_puts ki_921 rfl
theorem dX12_puts_164 : decode cX12_puts 164 = .ok (.ifCond .eq 7, 3) := kd_r kbX12_puts ki_18 rfl
theorem dX12_puts_167 : decode cX12_puts 167 = .ok (.iconst 1, 1) := kd_r kbX12_puts ki_16 rfl
theorem dX12_puts_168 : decode cX12_puts 168 = .ok (.goto 4, 3) := kd_r kbX12_puts ki_19 rfl
theorem dX12_puts_171 : decode cX12_puts 171 = .ok (.iconst 0, 1) := kd_r kbX12_puts ki_20 rfl
theorem dX12_puts_172 : decode cX12_puts 172 = .ok (.istore 5, 2) := kd_r kbX12_puts ki_133 rfl
theorem dX12_puts_174 : decode cX12_puts 174 = .ok (.iinc 6 1, 3) := kd_r kbX12_puts ki_208 rfl
theorem dX12_puts_177 : decode cX12_puts 177 = .ok (.goto (-35), 3) := kd_r kbX12_puts ki_845 rfl
theorem dX12_puts_180 : decode cX12_puts 180 = .ok (.iload 5, 2) := kd_r kbX12_puts ki_134 rfl
theorem dX12_puts_182 : decode cX12_puts 182 = .ok (.ifCond .eq 12, 3) := kd_r kbX12_puts ki_122 rfl
theorem dX12_puts_185 : decode cX12_puts 185 = .ok (.aload_n 0, 1) := kd_r kbX12_puts ki_0 rfl
theorem dX12_puts_186 : decode cX12_puts 186 = .ok (.iload_n 1, 1) := kd_r kbX12_puts ki_8 rfl
theorem dX12_puts_187 : decode cX12_puts 187 = .ok (.iload_n 2, 1) := kd_r kbX12_puts ki_11 rfl
theorem dX12_puts_188 : decode cX12_puts 188 = .ok (.iload_n 3, 1) := kd_r kbX12_puts ki_55 rfl
theorem dX12_puts_189 : decode cX12_puts 189 = .ok (.iconst 1, 1) := kd_r kbX12_puts ki_16 rfl
theorem dX12_puts_190 : decode cX12_puts 190 = .ok (.iadd, 1) := kd_r kbX12_puts ki_30 rfl
theorem dX12_puts_191 : decode cX12_puts 191 = .ok (.invokevirtual 252, 3) := kd_r kbX12_puts ki_922 rfl
theorem dX12_puts_194 : decode cX12_puts 194 = .ok (.iinc 4 1, 3) := kd_r kbX12_puts ki_144 rfl
theorem dX12_puts_197 : decode cX12_puts 197 = .ok (.goto (-138), 3) := kd_r kbX12_puts ki_923 rfl
theorem dX12_puts_200 : decode cX12_puts 200 = .ok (.aload_n 0, 1) := kd_r kbX12_puts ki_0 rfl
theorem dX12_puts_201 : decode cX12_puts 201 = .ok (.getfield 62, 3) := kd_r kbX12_puts ki_907 rfl
theorem dX12_puts_204 : decode cX12_puts 204 = .ok (.aload_n 0, 1) := kd_r kbX12_puts ki_0 rfl
theorem dX12_puts_205 : decode cX12_puts 205 = .ok (.getfield 59, 3) := kd_r kbX12_puts ki_908 rfl
theorem dX12_puts_208 : decode cX12_puts 208 = .ok (.iload_n 3, 1) := kd_r kbX12_puts ki_55 rfl
theorem dX12_puts_209 : decode cX12_puts 209 = .ok (.iaload, 1) := kd_r kbX12_puts ki_14 rfl
theorem dX12_puts_210 : decode cX12_puts 210 = .ok (.iconst (-1), 1) := kd_r kbX12_puts ki_99 rfl
theorem dX12_puts_211 : decode cX12_puts 211 = .ok (.iastore, 1) := kd_r kbX12_puts ki_28 rfl
theorem dX12_puts_212 : decode cX12_puts 212 = .ok (.return_, 1) := kd_r kbX12_puts ki_5 rfl
set_option maxRecDepth 20000 in
theorem ggX12_all_X12_isStreet : GoodIn wsX12_all wsX12_isStreet := goodIn_r _ [11, 12, 13, 14, 10, 15, 50, 51, 52, 53, 54, 55, 56, 57, 58, 59, 60, 61, 62, 63, 64, 65, 66, 67, 68, 69, 70, 71, 72, 73, 74, 75, 76, 77, 78, 79, 80, 81, 82, 83, 84, 85, 86, 87, 88, 89, 90, 91, 92, 93, 94, 95, 96, 97, 98] rfl (by decide +kernel)
set_option maxRecDepth 20000 in
theorem gX12_all_X12_isStreet : GoodIn wsX12_all (wsV RX12 126 RX12 yX12_isStreet wsX12_isStreet) := goodIn_app (goodIn_of _ (by decide +kernel)) ggX12_all_X12_isStreet
set_option maxRecDepth 20000 in
theorem ggX12_all_X12_within : GoodIn wsX12_all wsX12_within := goodIn_r _ [15] rfl (by decide +kernel)
set_option maxRecDepth 20000 in
theorem gX12_all_X12_within : GoodIn wsX12_all (va_wsS RX12 109 yX12_within wsX12_within) := goodIn_app (goodIn_of _ (by decide +kernel)) ggX12_all_X12_within
set_option maxRecDepth 20000 in
theorem ggX12_all_X12_isName : GoodIn wsX12_all wsX12_isName := goodIn_r _ [18, 19, 13, 14, 10, 15] rfl (by decide +kernel)
set_option maxRecDepth 20000 in
theorem gX12_all_X12_isName : GoodIn wsX12_all (va_wsS RX12 232 yX12_isName wsX12_isName) := goodIn_app (goodIn_of _ (by decide +kernel)) ggX12_all_X12_isName
set_option maxRecDepth 20000 in
theorem ggX12_all_X12_findNames : GoodIn wsX12_all wsX12_findNames := goodIn_r _ [23, 2, 4, 24, 25, 26, 3, 50, 51, 52, 53, 54, 55, 56, 57, 58, 59, 60, 61, 62, 63, 64, 65, 66, 67, 68, 69, 70, 71, 72, 73, 74, 75, 76, 77, 78, 79, 80, 81, 82, 83, 84, 85, 86, 87, 88, 89, 90, 91, 92, 93, 94, 95, 96, 97, 98] rfl (by decide +kernel)
set_option maxRecDepth 20000 in
theorem gX12_all_X12_findNames : GoodIn wsX12_all (wsV RX12 256 RX12 yX12_findNames wsX12_findNames) := goodIn_app (goodIn_of _ (by decide +kernel)) ggX12_all_X12_findNames
set_option maxRecDepth 20000 in
theorem ggX12_all_X12_puts : GoodIn wsX12_all wsX12_puts := goodIn_r _ [30, 2, 5, 6, 26, 31, 32, 3, 4, 33, 34, 35, 10, 36, 24, 25, 37, 38, 39, 40, 41, 42, 43, 44, 45, 46, 47, 48, 49, 27, 28, 29, 50, 51, 52, 53, 54, 55, 56, 57, 58, 59, 60, 61, 62, 63, 64, 65, 66, 67, 68, 69, 70, 71, 72, 73, 74, 75, 76, 77, 78, 79, 80, 81, 82, 83, 84, 85, 86, 87, 88, 89, 90, 91, 92, 93, 94, 95, 96, 97, 98] rfl (by decide +kernel)
set_option maxRecDepth 20000 in
theorem gX12_all_X12_puts : GoodIn wsX12_all (wsV RX12 252 RX12 yX12_puts wsX12_puts) := goodIn_app (goodIn_of _ (by decide +kernel)) ggX12_all_X12_puts
theorem dX12_all_0 : decode cX12_all 0 = .ok (.aload_n 0, 1) := kd_r kbX12_all ki_0 rfl
theorem dX12_all_1 : decode cX12_all 1 = .ok (.iload_n 1, 1) := kd_r kbX12_all ki_8 rfl
theorem dX12_all_2 : decode cX12_all 2 = .ok (.invokevirtual 126, 3) := kd_r kbX12_all ki_764 rfl
theorem dX12_all_5 : decode cX12_all 5 = .ok (.ifCond .eq 27, 3) := kd_r kbX12_all ki_10 rfl
theorem dX12_all_8 : decode cX12_all 8 = .ok (.iload_n 2, 1) := kd_r kbX12_all ki_11 rfl
theorem dX12_all_9 : decode cX12_all 9 = .ok (.i2l, 1) := kd_r kbX12_all ki_399 rfl
theorem dX12_all_10 : decode cX12_all 10 = .ok (.lconst 0, 1) := kd_r kbX12_all ki_172 rfl
theorem dX12_all_11 : decode cX12_all 11 = .ok (.ldc2_w 124, 3) := kd_r kbX12_all ki_762 rfl
theorem dX12_all_14 : decode cX12_all 14 = .ok (.invokestatic 109, 3) := kd_r kbX12_all ki_751 rfl
theorem dX12_all_17 : decode cX12_all 17 = .ok (.ifCond .eq 15, 3) := kd_r kbX12_all ki_641 rfl
theorem dX12_all_20 : decode cX12_all 20 = .ok (.iload_n 3, 1) := kd_r kbX12_all ki_55 rfl
theorem dX12_all_21 : decode cX12_all 21 = .ok (.iconst (-1), 1) := kd_r kbX12_all ki_99 rfl
theorem dX12_all_22 : decode cX12_all 22 = .ok (.if_icmp .eq 12, 3) := kd_r kbX12_all ki_924 rfl
theorem dX12_all_25 : decode cX12_all 25 = .ok (.iload_n 3, 1) := kd_r kbX12_all ki_55 rfl
theorem dX12_all_26 : decode cX12_all 26 = .ok (.invokestatic 232, 3) := kd_r kbX12_all ki_897 rfl
theorem dX12_all_29 : decode cX12_all 29 = .ok (.ifCond .ne 5, 3) := kd_r kbX12_all ki_36 rfl
theorem dX12_all_32 : decode cX12_all 32 = .ok (.iconst (-1), 1) := kd_r kbX12_all ki_99 rfl
theorem dX12_all_33 : decode cX12_all 33 = .ok (.ireturn, 1) := kd_r kbX12_all ki_7 rfl
theorem dX12_all_34 : decode cX12_all 34 = .ok (.aload_n 0, 1) := kd_r kbX12_all ki_0 rfl
theorem dX12_all_35 : decode cX12_all 35 = .ok (.invokevirtual 256, 3) := kd_r kbX12_all ki_642 rfl
theorem dX12_all_38 : decode cX12_all 38 = .ok (.iload_n 3, 1) := kd_r kbX12_all ki_55 rfl
theorem dX12_all_39 : decode cX12_all 39 = .ok (.iconst (-1), 1) := kd_r kbX12_all ki_99 rfl
theorem dX12_all_40 : decode cX12_all 40 = .ok (.if_icmp .ne 7, 3) := kd_r kbX12_all ki_280 rfl
theorem dX12_all_43 : decode cX12_all 43 = .ok (.iconst 1, 1) := kd_r kbX12_all ki_16 rfl
theorem dX12_all_44 : decode cX12_all 44 = .ok (.goto 4, 3) := kd_r kbX12_all ki_19 rfl
theorem dX12_all_47 : decode cX12_all 47 = .ok (.iconst 0, 1) := kd_r kbX12_all ki_20 rfl
theorem dX12_all_48 : decode cX12_all 48 = .ok (.istore 4, 2) := kd_r kbX12_all ki_129 rfl
theorem dX12_all_50 : decode cX12_all 50 = .ok (.iconst 0, 1) := kd_r kbX12_all ki_20 rfl
theorem dX12_all_51 : decode cX12_all 51 = .ok (.istore 5, 2) := kd_r kbX12_all ki_133 rfl
theorem dX12_all_53 : decode cX12_all 53 = .ok (.iload 5, 2) := kd_r kbX12_all ki_134 rfl
theorem dX12_all_55 : decode cX12_all 55 = .ok (.aload_n 0, 1) := kd_r kbX12_all ki_0 rfl
theorem dX12_all_56 : decode cX12_all 56 = .ok (.getfield 241, 3) := kd_r kbX12_all ki_909 rfl
theorem dX12_all_59 : decode cX12_all 59 = .ok (.if_icmp .ge 32, 3) := kd_r kbX12_all ki_920 rfl
theorem dX12_all_62 : decode cX12_all 62 = .ok (.iload 4, 2) := kd_r kbX12_all ki_57 rfl
theorem dX12_all_64 : decode cX12_all 64 = .ok (.ifCond .ne 14, 3) := kd_r kbX12_all ki_925 rfl
theorem dX12_all_67 : decode cX12_all 67 = .ok (.aload_n 0, 1) := kd_r kbX12_all ki_0 rfl
theorem dX12_all_68 : decode cX12_all 68 = .ok (.getfield 59, 3) := kd_r kbX12_all ki_908 rfl
theorem dX12_all_71 : decode cX12_all 71 = .ok (.iload 5, 2) := kd_r kbX12_all ki_134 rfl
theorem dX12_all_73 : decode cX12_all 73 = .ok (.iaload, 1) := kd_r kbX12_all ki_14 rfl
theorem dX12_all_74 : decode cX12_all 74 = .ok (.iload_n 3, 1) := kd_r kbX12_all ki_55 rfl
theorem dX12_all_75 : decode cX12_all 75 = .ok (.if_icmp .ne 7, 3) := kd_r kbX12_all ki_280 rfl
theorem dX12_all_78 : decode cX12_all 78 = .ok (.iconst 1, 1) := kd_r kbX12_all ki_16 rfl
theorem dX12_all_79 : decode cX12_all 79 = .ok (.goto 4, 3) := kd_r kbX12_all ki_19 rfl
theorem dX12_all_82 : decode cX12_all 82 = .ok (.iconst 0, 1) := kd_r kbX12_all ki_20 rfl
theorem dX12_all_83 : decode cX12_all 83 = .ok (.istore 4, 2) := kd_r kbX12_all ki_129 rfl
theorem dX12_all_85 : decode cX12_all 85 = .ok (.iinc 5 1, 3) := kd_r kbX12_all ki_143 rfl
theorem dX12_all_88 : decode cX12_all 88 = .ok (.goto (-35), 3) := kd_r kbX12_all ki_845 rfl
theorem dX12_all_91 : decode cX12_all 91 = .ok (.iload 4, 2) := kd_r kbX12_all ki_57 rfl
theorem dX12_all_93 : decode cX12_all 93 = .ok (.ifCond .ne 5, 3) := kd_r kbX12_all ki_36 rfl
theorem dX12_all_96 : decode cX12_all 96 = .ok (.iconst (-1), 1) := kd_r kbX12_all ki_99 rfl
theorem dX12_all_97 : decode cX12_all 97 = .ok (.ireturn, 1) := kd_r kbX12_all ki_7 rfl
theorem dX12_all_98 : decode cX12_all 98 = .ok (.aload_n 0, 1) := kd_r kbX12_all ki_0 rfl
theorem dX12_all_99 : decode cX12_all 99 = .ok (.getfield 229, 3) := kd_r kbX12_all ki_891 rfl
theorem dX12_all_102 : decode cX12_all 102 = .ok (.ifCond .ne 6, 3) := kd_r kbX12_all ki_388 rfl
theorem dX12_all_105 : decode cX12_all 105 = .ok (.bipush (-5), 2) := kd_r kbX12_all ki_635 rfl
theorem dX12_all_107 : decode cX12_all 107 = .ok (.ireturn, 1) := kd_r kbX12_all ki_7 rfl
theorem dX12_all_108 : decode cX12_all 108 = .ok (.aload_n 0, 1) := kd_r kbX12_all ki_0 rfl
theorem dX12_all_109 : decode cX12_all 109 = .ok (.getfield 241, 3) := kd_r kbX12_all ki_909 rfl
theorem dX12_all_112 : decode cX12_all 112 = .ok (.iconst 5, 1) := kd_r kbX12_all ki_79 rfl
theorem dX12_all_113 : decode cX12_all 113 = .ok (.if_icmp .le 6, 3) := kd_r kbX12_all ki_425 rfl
theorem dX12_all_116 : decode cX12_all 116 = .ok (.bipush (-4), 2) := kd_r kbX12_all ki_634 rfl
theorem dX12_all_118 : decode cX12_all 118 = .ok (.ireturn, 1) := kd_r kbX12_all ki_7 rfl
theorem dX12_all_119 : decode cX12_all 119 = .ok (.aload_n 0, 1) := kd_r kbX12_all ki_0 rfl
theorem dX12_all_120 : decode cX12_all 120 = .ok (.iconst 0, 1) := kd_r kbX12_all ki_20 rfl
theorem dX12_all_121 : decode cX12_all 121 = .ok (.putfield 244, 3) := kd_r kbX12_all ki_916 rfl
theorem dX12_all_124 : decode cX12_all 124 = .ok (.aload_n 0, 1) := kd_r kbX12_all ki_0 rfl
theorem dX12_all_125 : decode cX12_all 125 = .ok (.iload_n 1, 1) := kd_r kbX12_all ki_8 rfl
theorem dX12_all_126 : decode cX12_all 126 = .ok (.iload_n 2, 1) := kd_r kbX12_all ki_11 rfl
theorem dX12_all_127 : decode cX12_all 127 = .ok (.iconst 0, 1) := kd_r kbX12_all ki_20 rfl
theorem dX12_all_128 : decode cX12_all 128 = .ok (.invokevirtual 252, 3) := kd_r kbX12_all ki_922 rfl
theorem dX12_all_131 : decode cX12_all 131 = .ok (.aload_n 0, 1) := kd_r kbX12_all ki_0 rfl
theorem dX12_all_132 : decode cX12_all 132 = .ok (.getfield 244, 3) := kd_r kbX12_all ki_914 rfl
theorem dX12_all_135 : decode cX12_all 135 = .ok (.ifCond .ne 8, 3) := kd_r kbX12_all ki_456 rfl
theorem dX12_all_138 : decode cX12_all 138 = .ok (.bipush (-2), 2) := kd_r kbX12_all ki_39 rfl
theorem dX12_all_140 : decode cX12_all 140 = .ok (.goto 21, 3) := kd_r kbX12_all ki_277 rfl
theorem dX12_all_143 : decode cX12_all 143 = .ok (.iload_n 3, 1) := kd_r kbX12_all ki_55 rfl
theorem dX12_all_144 : decode cX12_all 144 = .ok (.iconst (-1), 1) := kd_r kbX12_all ki_99 rfl
theorem dX12_all_145 : decode cX12_all 145 = .ok (.if_icmp .ne 10, 3) := kd_r kbX12_all ki_415 rfl
theorem dX12_all_148 : decode cX12_all 148 = .ok (.aload_n 0, 1) := kd_r kbX12_all ki_0 rfl
theorem dX12_all_149 : decode cX12_all 149 = .ok (.getfield 244, 3) := kd_r kbX12_all ki_914 rfl
theorem dX12_all_152 : decode cX12_all 152 = .ok (.goto 9, 3) := kd_r kbX12_all ki_797 rfl
theorem dX12_all_155 : decode cX12_all 155 = .ok (.aload_n 0, 1) := kd_r kbX12_all ki_0 rfl
theorem dX12_all_156 : decode cX12_all 156 = .ok (.getfield 65, 3) := kd_r kbX12_all ki_639 rfl
theorem dX12_all_159 : decode cX12_all 159 = .ok (.iload_n 3, 1) := kd_r kbX12_all ki_55 rfl
theorem dX12_all_160 : decode cX12_all 160 = .ok (.iaload, 1) := kd_r kbX12_all ki_14 rfl
theorem dX12_all_161 : decode cX12_all 161 = .ok (.ireturn, 1) := kd_r kbX12_all ki_7 rfl
set_option maxRecDepth 20000 in
theorem ggX12_feed_X12_within : GoodIn wsX12_feed wsX12_within := goodIn_r _ [7] rfl (by decide +kernel)
set_option maxRecDepth 20000 in
theorem gX12_feed_X12_within : GoodIn wsX12_feed (va_wsS RX12 109 yX12_within wsX12_within) := goodIn_app (goodIn_of _ (by decide +kernel)) ggX12_feed_X12_within
theorem dX12_feed_0 : decode cX12_feed 0 = .ok (.iload_n 1, 1) := kd_r kbX12_feed ki_8 rfl
theorem dX12_feed_1 : decode cX12_feed 1 = .ok (.i2l, 1) := kd_r kbX12_feed ki_399 rfl
theorem dX12_feed_2 : decode cX12_feed 2 = .ok (.lconst 1, 1) := kd_r kbX12_feed ki_124 rfl
theorem dX12_feed_3 : decode cX12_feed 3 = .ok (.ldc2_w 183, 3) := kd_r kbX12_feed ki_814 rfl
theorem dX12_feed_6 : decode cX12_feed 6 = .ok (.invokestatic 109, 3) := kd_r kbX12_feed ki_751 rfl
theorem dX12_feed_9 : decode cX12_feed 9 = .ok (.ifCond .ne 5, 3) := kd_r kbX12_feed ki_36 rfl
theorem dX12_feed_12 : decode cX12_feed 12 = .ok (.iconst (-1), 1) := kd_r kbX12_feed ki_99 rfl
theorem dX12_feed_13 : decode cX12_feed 13 = .ok (.ireturn, 1) := kd_r kbX12_feed ki_7 rfl
theorem dX12_feed_14 : decode cX12_feed 14 = .ok (.aload_n 0, 1) := kd_r kbX12_feed ki_0 rfl
theorem dX12_feed_15 : decode cX12_feed 15 = .ok (.getfield 259, 3) := kd_r kbX12_feed ki_643 rfl
theorem dX12_feed_18 : decode cX12_feed 18 = .ok (.iload_n 1, 1) := kd_r kbX12_feed ki_8 rfl
theorem dX12_feed_19 : decode cX12_feed 19 = .ok (.iadd, 1) := kd_r kbX12_feed ki_30 rfl
theorem dX12_feed_20 : decode cX12_feed 20 = .ok (.bipush 120, 2) := kd_r kbX12_feed ki_446 rfl
theorem dX12_feed_22 : decode cX12_feed 22 = .ok (.if_icmp .le 6, 3) := kd_r kbX12_feed ki_425 rfl
theorem dX12_feed_25 : decode cX12_feed 25 = .ok (.bipush (-3), 2) := kd_r kbX12_feed ki_293 rfl
theorem dX12_feed_27 : decode cX12_feed 27 = .ok (.ireturn, 1) := kd_r kbX12_feed ki_7 rfl
theorem dX12_feed_28 : decode cX12_feed 28 = .ok (.iconst 0, 1) := kd_r kbX12_feed ki_20 rfl
theorem dX12_feed_29 : decode cX12_feed 29 = .ok (.istore_n 3, 1) := kd_r kbX12_feed ki_108 rfl
theorem dX12_feed_30 : decode cX12_feed 30 = .ok (.iload_n 3, 1) := kd_r kbX12_feed ki_55 rfl
theorem dX12_feed_31 : decode cX12_feed 31 = .ok (.iload_n 1, 1) := kd_r kbX12_feed ki_8 rfl
theorem dX12_feed_32 : decode cX12_feed 32 = .ok (.if_icmp .ge 38, 3) := kd_r kbX12_feed ki_93 rfl
theorem dX12_feed_35 : decode cX12_feed 35 = .ok (.aload_n 0, 1) := kd_r kbX12_feed ki_0 rfl
theorem dX12_feed_36 : decode cX12_feed 36 = .ok (.getfield 68, 3) := kd_r kbX12_feed ki_926 rfl
theorem dX12_feed_39 : decode cX12_feed 39 = .ok (.aload_n 0, 1) := kd_r kbX12_feed ki_0 rfl
theorem dX12_feed_40 : decode cX12_feed 40 = .ok (.getfield 259, 3) := kd_r kbX12_feed ki_643 rfl
theorem dX12_feed_43 : decode cX12_feed 43 = .ok (.iload_n 2, 1) := kd_r kbX12_feed ki_11 rfl
theorem dX12_feed_44 : decode cX12_feed 44 = .ok (.bipush 8, 2) := kd_r kbX12_feed ki_74 rfl
theorem dX12_feed_46 : decode cX12_feed 46 = .ok (.iload_n 3, 1) := kd_r kbX12_feed ki_55 rfl
theorem dX12_feed_47 : decode cX12_feed 47 = .ok (.imul, 1) := kd_r kbX12_feed ki_114 rfl
theorem dX12_feed_48 : decode cX12_feed 48 = .ok (.ishr, 1) := kd_r kbX12_feed ki_876 rfl
theorem dX12_feed_49 : decode cX12_feed 49 = .ok (.sipush 255, 3) := kd_r kbX12_feed ki_449 rfl
theorem dX12_feed_52 : decode cX12_feed 52 = .ok (.iand, 1) := kd_r kbX12_feed ki_17 rfl
theorem dX12_feed_53 : decode cX12_feed 53 = .ok (.iastore, 1) := kd_r kbX12_feed ki_28 rfl
theorem dX12_feed_54 : decode cX12_feed 54 = .ok (.aload_n 0, 1) := kd_r kbX12_feed ki_0 rfl
theorem dX12_feed_55 : decode cX12_feed 55 = .ok (.dup, 1) := kd_r kbX12_feed ki_29 rfl
theorem dX12_feed_56 : decode cX12_feed 56 = .ok (.getfield 259, 3) := kd_r kbX12_feed ki_643 rfl
theorem dX12_feed_59 : decode cX12_feed 59 = .ok (.iconst 1, 1) := kd_r kbX12_feed ki_16 rfl
theorem dX12_feed_60 : decode cX12_feed 60 = .ok (.iadd, 1) := kd_r kbX12_feed ki_30 rfl
theorem dX12_feed_61 : decode cX12_feed 61 = .ok (.putfield 259, 3) := kd_r kbX12_feed ki_648 rfl
theorem dX12_feed_64 : decode cX12_feed 64 = .ok (.iinc 3 1, 3) := kd_r kbX12_feed ki_116 rfl
theorem dX12_feed_67 : decode cX12_feed 67 = .ok (.goto (-37), 3) := kd_r kbX12_feed ki_207 rfl
theorem dX12_feed_70 : decode cX12_feed 70 = .ok (.aload_n 0, 1) := kd_r kbX12_feed ki_0 rfl
theorem dX12_feed_71 : decode cX12_feed 71 = .ok (.getfield 259, 3) := kd_r kbX12_feed ki_643 rfl
theorem dX12_feed_74 : decode cX12_feed 74 = .ok (.ireturn, 1) := kd_r kbX12_feed ki_7 rfl
theorem dX12_byteAt_0 : decode cX12_byteAt 0 = .ok (.aload_n 0, 1) := kd_r kbX12_byteAt ki_0 rfl
theorem dX12_byteAt_1 : decode cX12_byteAt 1 = .ok (.getfield 262, 3) := kd_r kbX12_byteAt ki_927 rfl
theorem dX12_byteAt_4 : decode cX12_byteAt 4 = .ok (.aload_n 0, 1) := kd_r kbX12_byteAt ki_0 rfl
theorem dX12_byteAt_5 : decode cX12_byteAt 5 = .ok (.getfield 265, 3) := kd_r kbX12_byteAt ki_928 rfl
theorem dX12_byteAt_8 : decode cX12_byteAt 8 = .ok (.if_icmp .ge 39, 3) := kd_r kbX12_byteAt ki_374 rfl
theorem dX12_byteAt_11 : decode cX12_byteAt 11 = .ok (.aload_n 0, 1) := kd_r kbX12_byteAt ki_0 rfl
theorem dX12_byteAt_12 : decode cX12_byteAt 12 = .ok (.getfield 268, 3) := kd_r kbX12_byteAt ki_929 rfl
theorem dX12_byteAt_15 : decode cX12_byteAt 15 = .ok (.ifCond .ge 15, 3) := kd_r kbX12_byteAt ki_930 rfl
theorem dX12_byteAt_18 : decode cX12_byteAt 18 = .ok (.aload_n 0, 1) := kd_r kbX12_byteAt ki_0 rfl
theorem dX12_byteAt_19 : decode cX12_byteAt 19 = .ok (.getfield 68, 3) := kd_r kbX12_byteAt ki_926 rfl
theorem dX12_byteAt_22 : decode cX12_byteAt 22 = .ok (.aload_n 0, 1) := kd_r kbX12_byteAt ki_0 rfl
theorem dX12_byteAt_23 : decode cX12_byteAt 23 = .ok (.getfield 262, 3) := kd_r kbX12_byteAt ki_927 rfl
theorem dX12_byteAt_26 : decode cX12_byteAt 26 = .ok (.iaload, 1) := kd_r kbX12_byteAt ki_14 rfl
theorem dX12_byteAt_27 : decode cX12_byteAt 27 = .ok (.goto 21, 3) := kd_r kbX12_byteAt ki_277 rfl
theorem dX12_byteAt_30 : decode cX12_byteAt 30 = .ok (.aload_n 0, 1) := kd_r kbX12_byteAt ki_0 rfl
theorem dX12_byteAt_31 : decode cX12_byteAt 31 = .ok (.getfield 71, 3) := kd_r kbX12_byteAt ki_516 rfl
theorem dX12_byteAt_34 : decode cX12_byteAt 34 = .ok (.aload_n 0, 1) := kd_r kbX12_byteAt ki_0 rfl
theorem dX12_byteAt_35 : decode cX12_byteAt 35 = .ok (.getfield 268, 3) := kd_r kbX12_byteAt ki_929 rfl
theorem dX12_byteAt_38 : decode cX12_byteAt 38 = .ok (.aload_n 0, 1) := kd_r kbX12_byteAt ki_0 rfl
theorem dX12_byteAt_39 : decode cX12_byteAt 39 = .ok (.getfield 262, 3) := kd_r kbX12_byteAt ki_927 rfl
theorem dX12_byteAt_42 : decode cX12_byteAt 42 = .ok (.iadd, 1) := kd_r kbX12_byteAt ki_30 rfl
theorem dX12_byteAt_43 : decode cX12_byteAt 43 = .ok (.iaload, 1) := kd_r kbX12_byteAt ki_14 rfl
theorem dX12_byteAt_44 : decode cX12_byteAt 44 = .ok (.goto 4, 3) := kd_r kbX12_byteAt ki_19 rfl
theorem dX12_byteAt_47 : decode cX12_byteAt 47 = .ok (.iconst 0, 1) := kd_r kbX12_byteAt ki_20 rfl
theorem dX12_byteAt_48 : decode cX12_byteAt 48 = .ok (.ireturn, 1) := kd_r kbX12_byteAt ki_7 rfl
theorem dX12_wrong_0 : decode cX12_wrong 0 = .ok (.aload_n 0, 1) := kd_r kbX12_wrong ki_0 rfl
theorem dX12_wrong_1 : decode cX12_wrong 1 = .ok (.aload_n 0, 1) := kd_r kbX12_wrong ki_0 rfl
theorem dX12_wrong_2 : decode cX12_wrong 2 = .ok (.getfield 271, 3) := kd_r kbX12_wrong ki_931 rfl
theorem dX12_wrong_5 : decode cX12_wrong 5 = .ok (.ifCond .ge 10, 3) := kd_r kbX12_wrong ki_932 rfl
theorem dX12_wrong_8 : decode cX12_wrong 8 = .ok (.aload_n 0, 1) := kd_r kbX12_wrong ki_0 rfl
theorem dX12_wrong_9 : decode cX12_wrong 9 = .ok (.getfield 262, 3) := kd_r kbX12_wrong ki_927 rfl
theorem dX12_wrong_12 : decode cX12_wrong 12 = .ok (.goto 7, 3) := kd_r kbX12_wrong ki_416 rfl
theorem dX12_wrong_15 : decode cX12_wrong 15 = .ok (.aload_n 0, 1) := kd_r kbX12_wrong ki_0 rfl
theorem dX12_wrong_16 : decode cX12_wrong 16 = .ok (.getfield 271, 3) := kd_r kbX12_wrong ki_931 rfl
theorem dX12_wrong_19 : decode cX12_wrong 19 = .ok (.putfield 271, 3) := kd_r kbX12_wrong ki_933 rfl
theorem dX12_wrong_22 : decode cX12_wrong 22 = .ok (.iconst 0, 1) := kd_r kbX12_wrong ki_20 rfl
theorem dX12_wrong_23 : decode cX12_wrong 23 = .ok (.ireturn, 1) := kd_r kbX12_wrong ki_7 rfl
set_option maxRecDepth 20000 in
theorem ggX12_takes_X12_byteAt : GoodIn wsX12_takes wsX12_byteAt := goodIn_r _ [7, 2, 8, 9, 10, 11, 12, 13, 14, 15, 16, 17, 18, 19, 20, 21, 22, 23, 24, 25, 26, 27, 28, 29, 30, 31, 32, 33, 34, 35, 36, 37, 38, 39, 40, 41, 42, 43, 44, 45, 46, 47, 48, 49, 50, 51, 52, 53, 54, 55, 56, 57, 58, 59, 60] rfl (by decide +kernel)
set_option maxRecDepth 20000 in
theorem gX12_takes_X12_byteAt : GoodIn wsX12_takes (wsV RX12 274 RX12 yX12_byteAt wsX12_byteAt) := goodIn_app (goodIn_of _ (by decide +kernel)) ggX12_takes_X12_byteAt
theorem dX12_takes_0 : decode cX12_takes 0 = .ok (.aload_n 0, 1) := kd_r kbX12_takes ki_0 rfl
theorem dX12_takes_1 : decode cX12_takes 1 = .ok (.getfield 271, 3) := kd_r kbX12_takes ki_931 rfl
theorem dX12_takes_4 : decode cX12_takes 4 = .ok (.ifCond .ge 11, 3) := kd_r kbX12_takes ki_934 rfl
theorem dX12_takes_7 : decode cX12_takes 7 = .ok (.aload_n 0, 1) := kd_r kbX12_takes ki_0 rfl
theorem dX12_takes_8 : decode cX12_takes 8 = .ok (.invokevirtual 274, 3) := kd_r kbX12_takes ki_935 rfl
theorem dX12_takes_11 : decode cX12_takes 11 = .ok (.iload_n 1, 1) := kd_r kbX12_takes ki_8 rfl
theorem dX12_takes_12 : decode cX12_takes 12 = .ok (.if_icmp .eq 5, 3) := kd_r kbX12_takes ki_476 rfl
theorem dX12_takes_15 : decode cX12_takes 15 = .ok (.iconst 0, 1) := kd_r kbX12_takes ki_20 rfl
theorem dX12_takes_16 : decode cX12_takes 16 = .ok (.ireturn, 1) := kd_r kbX12_takes ki_7 rfl
theorem dX12_takes_17 : decode cX12_takes 17 = .ok (.aload_n 0, 1) := kd_r kbX12_takes ki_0 rfl
theorem dX12_takes_18 : decode cX12_takes 18 = .ok (.dup, 1) := kd_r kbX12_takes ki_29 rfl
theorem dX12_takes_19 : decode cX12_takes 19 = .ok (.getfield 262, 3) := kd_r kbX12_takes ki_927 rfl
theorem dX12_takes_22 : decode cX12_takes 22 = .ok (.iconst 1, 1) := kd_r kbX12_takes ki_16 rfl
theorem dX12_takes_23 : decode cX12_takes 23 = .ok (.iadd, 1) := kd_r kbX12_takes ki_30 rfl
theorem dX12_takes_24 : decode cX12_takes 24 = .ok (.putfield 262, 3) := kd_r kbX12_takes ki_936 rfl
theorem dX12_takes_27 : decode cX12_takes 27 = .ok (.iconst 1, 1) := kd_r kbX12_takes ki_16 rfl
theorem dX12_takes_28 : decode cX12_takes 28 = .ok (.ireturn, 1) := kd_r kbX12_takes ki_7 rfl
set_option maxRecDepth 20000 in
theorem ggX12_either_X12_both : GoodIn wsX12_either wsX12_both := goodIn_r _ [19, 20, 21, 22, 4, 5, 6, 7, 8, 9, 10, 11, 12, 13, 14, 15, 16, 17, 18, 23, 24, 25, 26, 0, 1, 2, 3, 27, 28, 29, 30, 31, 32, 33, 34, 35, 36, 37, 38, 39, 40, 41, 42, 43, 44, 45, 46, 47, 48, 49, 50, 51, 52, 53, 54, 55, 56, 57, 58, 59, 60, 61, 62, 63, 64, 65, 66, 67, 68, 69, 70, 71, 72, 73, 74, 75, 76, 77, 78, 79, 80, 81, 82, 83, 84, 85, 86, 87, 88, 89, 90, 91, 92, 93, 94, 95, 96] rfl (by decide +kernel)
set_option maxRecDepth 20000 in
theorem gX12_either_X12_both : GoodIn wsX12_either (wsV RX12 278 RX12 yX12_both wsX12_both) := goodIn_app (goodIn_of _ (by decide +kernel)) ggX12_either_X12_both
set_option maxRecDepth 20000 in
theorem ggX12_either_X12_takes : GoodIn wsX12_either wsX12_takes := goodIn_r _ [8, 9, 10, 11, 12, 13, 4, 14, 15, 16, 17, 18, 48, 49, 50, 51, 52, 53, 54, 55, 56, 57, 58, 59, 60, 61, 62, 63, 64, 65, 66, 67, 68, 69, 70, 71, 72, 73, 74, 75, 76, 77, 78, 79, 80, 81, 82, 83, 84, 85, 86, 87, 88, 89, 90, 91, 92, 93, 94, 95, 96] rfl (by decide +kernel)
set_option maxRecDepth 20000 in
theorem gX12_either_X12_takes : GoodIn wsX12_either (wsV RX12 281 RX12 yX12_takes wsX12_takes) := goodIn_app (goodIn_of _ (by decide +kernel)) ggX12_either_X12_takes
theorem dX12_either_0 : decode cX12_either 0 = .ok (.aload_n 0, 1) := kd_r kbX12_either ki_0 rfl
theorem dX12_either_1 : decode cX12_either 1 = .ok (.invokevirtual 278, 3) := kd_r kbX12_either ki_937 rfl
theorem dX12_either_4 : decode cX12_either 4 = .ok (.istore_n 1, 1) := kd_r kbX12_either ki_60 rfl
theorem dX12_either_5 : decode cX12_either 5 = .ok (.aload_n 0, 1) := kd_r kbX12_either ki_0 rfl
theorem dX12_either_6 : decode cX12_either 6 = .ok (.bipush 124, 2) := kd_r kbX12_either ki_462 rfl
theorem dX12_either_8 : decode cX12_either 8 = .ok (.invokevirtual 281, 3) := kd_r kbX12_either ki_938 rfl
theorem dX12_either_11 : decode cX12_either 11 = .ok (.ifCond .eq 25, 3) := kd_r kbX12_either ki_783 rfl
theorem dX12_either_14 : decode cX12_either 14 = .ok (.aload_n 0, 1) := kd_r kbX12_either ki_0 rfl
theorem dX12_either_15 : decode cX12_either 15 = .ok (.invokevirtual 278, 3) := kd_r kbX12_either ki_937 rfl
theorem dX12_either_18 : decode cX12_either 18 = .ok (.istore_n 2, 1) := kd_r kbX12_either ki_32 rfl
theorem dX12_either_19 : decode cX12_either 19 = .ok (.iload_n 1, 1) := kd_r kbX12_either ki_8 rfl
theorem dX12_either_20 : decode cX12_either 20 = .ok (.ifCond .ne 7, 3) := kd_r kbX12_either ki_260 rfl
theorem dX12_either_23 : decode cX12_either 23 = .ok (.iload_n 2, 1) := kd_r kbX12_either ki_11 rfl
theorem dX12_either_24 : decode cX12_either 24 = .ok (.ifCond .eq 7, 3) := kd_r kbX12_either ki_18 rfl
theorem dX12_either_27 : decode cX12_either 27 = .ok (.iconst 1, 1) := kd_r kbX12_either ki_16 rfl
theorem dX12_either_28 : decode cX12_either 28 = .ok (.goto 4, 3) := kd_r kbX12_either ki_19 rfl
theorem dX12_either_31 : decode cX12_either 31 = .ok (.iconst 0, 1) := kd_r kbX12_either ki_20 rfl
theorem dX12_either_32 : decode cX12_either 32 = .ok (.istore_n 1, 1) := kd_r kbX12_either ki_60 rfl
theorem dX12_either_33 : decode cX12_either 33 = .ok (.goto (-28), 3) := kd_r kbX12_either ki_332 rfl
theorem dX12_either_36 : decode cX12_either 36 = .ok (.iload_n 1, 1) := kd_r kbX12_either ki_8 rfl
theorem dX12_either_37 : decode cX12_either 37 = .ok (.ireturn, 1) := kd_r kbX12_either ki_7 rfl
set_option maxRecDepth 20000 in
theorem ggX12_both_X12_compared : GoodIn wsX12_both wsX12_compared := goodIn_r _ [19, 9, 10, 20, 21, 22, 4, 11, 12, 13, 14, 15, 16, 17, 18, 0, 1, 2, 3, 5, 6, 7, 8, 23, 24, 25, 26, 27, 28, 29, 30, 31, 32, 33, 34, 35, 36, 37, 38, 39, 40, 41, 42, 43, 44, 45, 46, 47, 48, 49, 50, 51, 52, 53, 54, 55, 56, 57, 58, 59, 60, 61, 62, 63, 64, 65, 66, 67, 68, 69, 70, 71, 72, 73, 74, 75, 76, 77, 78, 79, 80, 81, 82, 83, 84, 85, 86, 87, 88, 89, 90, 91, 92, 93, 94, 95, 96] rfl (by decide +kernel)
set_option maxRecDepth 20000 in
theorem gX12_both_X12_compared : GoodIn wsX12_both (wsV RX12 284 RX12 yX12_compared wsX12_compared) := goodIn_app (goodIn_of _ (by decide +kernel)) ggX12_both_X12_compared
set_option maxRecDepth 20000 in
theorem ggX12_both_X12_takes : GoodIn wsX12_both wsX12_takes := goodIn_r _ [8, 9, 10, 11, 12, 13, 4, 14, 15, 16, 17, 18, 48, 49, 50, 51, 52, 53, 54, 55, 56, 57, 58, 59, 60, 61, 62, 63, 64, 65, 66, 67, 68, 69, 70, 71, 72, 73, 74, 75, 76, 77, 78, 79, 80, 81, 82, 83, 84, 85, 86, 87, 88, 89, 90, 91, 92, 93, 94, 95, 96] rfl (by decide +kernel)
set_option maxRecDepth 20000 in
theorem gX12_both_X12_takes : GoodIn wsX12_both (wsV RX12 281 RX12 yX12_takes wsX12_takes) := goodIn_app (goodIn_of _ (by decide +kernel)) ggX12_both_X12_takes
theorem dX12_both_0 : decode cX12_both 0 = .ok (.aload_n 0, 1) := kd_r kbX12_both ki_0 rfl
theorem dX12_both_1 : decode cX12_both 1 = .ok (.invokevirtual 284, 3) := kd_r kbX12_both ki_939 rfl
theorem dX12_both_4 : decode cX12_both 4 = .ok (.istore_n 1, 1) := kd_r kbX12_both ki_60 rfl
theorem dX12_both_5 : decode cX12_both 5 = .ok (.aload_n 0, 1) := kd_r kbX12_both ki_0 rfl
theorem dX12_both_6 : decode cX12_both 6 = .ok (.bipush 38, 2) := kd_r kbX12_both ki_463 rfl
theorem dX12_both_8 : decode cX12_both 8 = .ok (.invokevirtual 281, 3) := kd_r kbX12_both ki_938 rfl
theorem dX12_both_11 : decode cX12_both 11 = .ok (.ifCond .eq 25, 3) := kd_r kbX12_both ki_783 rfl
theorem dX12_both_14 : decode cX12_both 14 = .ok (.aload_n 0, 1) := kd_r kbX12_both ki_0 rfl
theorem dX12_both_15 : decode cX12_both 15 = .ok (.invokevirtual 284, 3) := kd_r kbX12_both ki_939 rfl
theorem dX12_both_18 : decode cX12_both 18 = .ok (.istore_n 2, 1) := kd_r kbX12_both ki_32 rfl
theorem dX12_both_19 : decode cX12_both 19 = .ok (.iload_n 1, 1) := kd_r kbX12_both ki_8 rfl
theorem dX12_both_20 : decode cX12_both 20 = .ok (.ifCond .eq 11, 3) := kd_r kbX12_both ki_279 rfl
theorem dX12_both_23 : decode cX12_both 23 = .ok (.iload_n 2, 1) := kd_r kbX12_both ki_11 rfl
theorem dX12_both_24 : decode cX12_both 24 = .ok (.ifCond .eq 7, 3) := kd_r kbX12_both ki_18 rfl
theorem dX12_both_27 : decode cX12_both 27 = .ok (.iconst 1, 1) := kd_r kbX12_both ki_16 rfl
theorem dX12_both_28 : decode cX12_both 28 = .ok (.goto 4, 3) := kd_r kbX12_both ki_19 rfl
theorem dX12_both_31 : decode cX12_both 31 = .ok (.iconst 0, 1) := kd_r kbX12_both ki_20 rfl
theorem dX12_both_32 : decode cX12_both 32 = .ok (.istore_n 1, 1) := kd_r kbX12_both ki_60 rfl
theorem dX12_both_33 : decode cX12_both 33 = .ok (.goto (-28), 3) := kd_r kbX12_both ki_332 rfl
theorem dX12_both_36 : decode cX12_both 36 = .ok (.iload_n 1, 1) := kd_r kbX12_both ki_8 rfl
theorem dX12_both_37 : decode cX12_both 37 = .ok (.ireturn, 1) := kd_r kbX12_both ki_7 rfl
set_option maxRecDepth 20000 in
theorem ggX12_compared_X12_sums : GoodIn wsX12_compared wsX12_sums := goodIn_r _ [44, 1, 2, 45, 46, 47, 6, 7, 8, 9, 10, 11, 12, 13, 14, 15, 16, 17, 18, 19, 20, 21, 22, 0, 3, 4, 5, 23, 24, 25, 26, 27, 28, 29, 30, 31, 32, 33, 34, 35, 36, 37, 38, 39, 40, 41, 42, 43, 48, 49, 50, 51, 52, 53, 54, 55, 56, 57, 58, 59, 60, 61, 62, 63, 64, 65, 66, 67, 68, 69, 70, 71, 72, 73, 74, 75, 76, 77, 78, 79, 80, 81, 82, 83, 84, 85, 86, 87, 88, 89, 90, 91, 92, 93, 94, 95, 96] rfl (by decide +kernel)
set_option maxRecDepth 20000 in
theorem gX12_compared_X12_sums : GoodIn wsX12_compared (wsV RX12 287 RX12 yX12_sums wsX12_sums) := goodIn_app (goodIn_of _ (by decide +kernel)) ggX12_compared_X12_sums
set_option maxRecDepth 20000 in
theorem ggX12_compared_X12_byteAt : GoodIn wsX12_compared wsX12_byteAt := goodIn_r _ [10, 2, 11, 12, 13, 14, 48, 49, 50, 51, 52, 53, 54, 55, 56, 57, 58, 59, 60, 61, 62, 63, 64, 65, 66, 67, 68, 69, 70, 71, 72, 73, 74, 75, 76, 77, 78, 79, 80, 81, 82, 83, 84, 85, 86, 87, 88, 89, 90, 91, 92, 93, 94, 95, 96] rfl (by decide +kernel)
set_option maxRecDepth 20000 in
theorem gX12_compared_X12_byteAt : GoodIn wsX12_compared (wsV RX12 274 RX12 yX12_byteAt wsX12_byteAt) := goodIn_app (goodIn_of _ (by decide +kernel)) ggX12_compared_X12_byteAt
theorem dX12_compared_0 : decode cX12_compared 0 = .ok (.aload_n 0, 1) := kd_r kbX12_compared ki_0 rfl
theorem dX12_compared_1 : decode cX12_compared 1 = .ok (.invokevirtual 287, 3) := kd_r kbX12_compared ki_662 rfl
theorem dX12_compared_4 : decode cX12_compared 4 = .ok (.istore_n 1, 1) := kd_r kbX12_compared ki_60 rfl
theorem dX12_compared_5 : decode cX12_compared 5 = .ok (.aload_n 0, 1) := kd_r kbX12_compared ki_0 rfl
theorem dX12_compared_6 : decode cX12_compared 6 = .ok (.invokevirtual 274, 3) := kd_r kbX12_compared ki_935 rfl
theorem dX12_compared_9 : decode cX12_compared 9 = .ok (.istore_n 2, 1) := kd_r kbX12_compared ki_32 rfl
theorem dX12_compared_10 : decode cX12_compared 10 = .ok (.aload_n 0, 1) := kd_r kbX12_compared ki_0 rfl
theorem dX12_compared_11 : decode cX12_compared 11 = .ok (.getfield 271, 3) := kd_r kbX12_compared ki_931 rfl
theorem dX12_compared_14 : decode cX12_compared 14 = .ok (.ifCond .ge 21, 3) := kd_r kbX12_compared ki_940 rfl
theorem dX12_compared_17 : decode cX12_compared 17 = .ok (.iload_n 2, 1) := kd_r kbX12_compared ki_11 rfl
theorem dX12_compared_18 : decode cX12_compared 18 = .ok (.bipush 60, 2) := kd_r kbX12_compared ki_384 rfl
theorem dX12_compared_20 : decode cX12_compared 20 = .ok (.if_icmp .eq 17, 3) := kd_r kbX12_compared ki_474 rfl
theorem dX12_compared_23 : decode cX12_compared 23 = .ok (.iload_n 2, 1) := kd_r kbX12_compared ki_11 rfl
theorem dX12_compared_24 : decode cX12_compared 24 = .ok (.bipush 61, 2) := kd_r kbX12_compared ki_465 rfl
theorem dX12_compared_26 : decode cX12_compared 26 = .ok (.if_icmp .eq 11, 3) := kd_r kbX12_compared ki_475 rfl
theorem dX12_compared_29 : decode cX12_compared 29 = .ok (.iload_n 2, 1) := kd_r kbX12_compared ki_11 rfl
theorem dX12_compared_30 : decode cX12_compared 30 = .ok (.bipush 62, 2) := kd_r kbX12_compared ki_466 rfl
theorem dX12_compared_32 : decode cX12_compared 32 = .ok (.if_icmp .eq 5, 3) := kd_r kbX12_compared ki_476 rfl
theorem dX12_compared_35 : decode cX12_compared 35 = .ok (.iload_n 1, 1) := kd_r kbX12_compared ki_8 rfl
theorem dX12_compared_36 : decode cX12_compared 36 = .ok (.ireturn, 1) := kd_r kbX12_compared ki_7 rfl
theorem dX12_compared_37 : decode cX12_compared 37 = .ok (.aload_n 0, 1) := kd_r kbX12_compared ki_0 rfl
theorem dX12_compared_38 : decode cX12_compared 38 = .ok (.dup, 1) := kd_r kbX12_compared ki_29 rfl
theorem dX12_compared_39 : decode cX12_compared 39 = .ok (.getfield 262, 3) := kd_r kbX12_compared ki_927 rfl
theorem dX12_compared_42 : decode cX12_compared 42 = .ok (.iconst 1, 1) := kd_r kbX12_compared ki_16 rfl
theorem dX12_compared_43 : decode cX12_compared 43 = .ok (.iadd, 1) := kd_r kbX12_compared ki_30 rfl
theorem dX12_compared_44 : decode cX12_compared 44 = .ok (.putfield 262, 3) := kd_r kbX12_compared ki_936 rfl
theorem dX12_compared_47 : decode cX12_compared 47 = .ok (.aload_n 0, 1) := kd_r kbX12_compared ki_0 rfl
theorem dX12_compared_48 : decode cX12_compared 48 = .ok (.invokevirtual 287, 3) := kd_r kbX12_compared ki_662 rfl
theorem dX12_compared_51 : decode cX12_compared 51 = .ok (.istore_n 3, 1) := kd_r kbX12_compared ki_108 rfl
theorem dX12_compared_52 : decode cX12_compared 52 = .ok (.iload_n 2, 1) := kd_r kbX12_compared ki_11 rfl
theorem dX12_compared_53 : decode cX12_compared 53 = .ok (.bipush 60, 2) := kd_r kbX12_compared ki_384 rfl
theorem dX12_compared_55 : decode cX12_compared 55 = .ok (.if_icmp .ne 11, 3) := kd_r kbX12_compared ki_774 rfl
theorem dX12_compared_58 : decode cX12_compared 58 = .ok (.iload_n 1, 1) := kd_r kbX12_compared ki_8 rfl
theorem dX12_compared_59 : decode cX12_compared 59 = .ok (.iload_n 3, 1) := kd_r kbX12_compared ki_55 rfl
theorem dX12_compared_60 : decode cX12_compared 60 = .ok (.if_icmp .ge 29, 3) := kd_r kbX12_compared ki_136 rfl
theorem dX12_compared_63 : decode cX12_compared 63 = .ok (.goto 22, 3) := kd_r kbX12_compared ki_941 rfl
theorem dX12_compared_66 : decode cX12_compared 66 = .ok (.iload_n 2, 1) := kd_r kbX12_compared ki_11 rfl
theorem dX12_compared_67 : decode cX12_compared 67 = .ok (.bipush 61, 2) := kd_r kbX12_compared ki_465 rfl
theorem dX12_compared_69 : decode cX12_compared 69 = .ok (.if_icmp .ne 11, 3) := kd_r kbX12_compared ki_774 rfl
theorem dX12_compared_72 : decode cX12_compared 72 = .ok (.iload_n 1, 1) := kd_r kbX12_compared ki_8 rfl
theorem dX12_compared_73 : decode cX12_compared 73 = .ok (.iload_n 3, 1) := kd_r kbX12_compared ki_55 rfl
theorem dX12_compared_74 : decode cX12_compared 74 = .ok (.if_icmp .ne 15, 3) := kd_r kbX12_compared ki_275 rfl
theorem dX12_compared_77 : decode cX12_compared 77 = .ok (.goto 8, 3) := kd_r kbX12_compared ki_261 rfl
theorem dX12_compared_80 : decode cX12_compared 80 = .ok (.iload_n 1, 1) := kd_r kbX12_compared ki_8 rfl
theorem dX12_compared_81 : decode cX12_compared 81 = .ok (.iload_n 3, 1) := kd_r kbX12_compared ki_55 rfl
theorem dX12_compared_82 : decode cX12_compared 82 = .ok (.if_icmp .le 7, 3) := kd_r kbX12_compared ki_281 rfl
theorem dX12_compared_85 : decode cX12_compared 85 = .ok (.iconst 1, 1) := kd_r kbX12_compared ki_16 rfl
theorem dX12_compared_86 : decode cX12_compared 86 = .ok (.goto 4, 3) := kd_r kbX12_compared ki_19 rfl
theorem dX12_compared_89 : decode cX12_compared 89 = .ok (.iconst 0, 1) := kd_r kbX12_compared ki_20 rfl
theorem dX12_compared_90 : decode cX12_compared 90 = .ok (.ireturn, 1) := kd_r kbX12_compared ki_7 rfl
set_option maxRecDepth 20000 in
theorem ggX12_sums_X12_product : GoodIn wsX12_sums wsX12_product := goodIn_r _ [47, 1, 2, 41, 42, 43, 6, 7, 8, 9, 10, 11, 12, 13, 14, 15, 16, 17, 18, 19, 20, 21, 22, 23, 24, 25, 26, 27, 28, 29, 30, 31, 32, 33, 34, 35, 36, 37, 38, 39, 40, 44, 45, 46, 0, 3, 4, 5, 48, 49, 50, 51, 52, 53, 54, 55, 56, 57, 58, 59, 60, 61, 62, 63, 64, 65, 66, 67, 68, 69, 70, 71, 72, 73, 74, 75, 76, 77, 78, 79, 80, 81, 82, 83, 84, 85, 86, 87, 88, 89, 90, 91, 92, 93, 94, 95, 96] rfl (by decide +kernel)
set_option maxRecDepth 20000 in
theorem gX12_sums_X12_product : GoodIn wsX12_sums (wsV RX12 290 RX12 yX12_product wsX12_product) := goodIn_app (goodIn_of _ (by decide +kernel)) ggX12_sums_X12_product
set_option maxRecDepth 20000 in
theorem ggX12_sums_X12_byteAt : GoodIn wsX12_sums wsX12_byteAt := goodIn_r _ [10, 2, 11, 12, 13, 14, 48, 49, 50, 51, 52, 53, 54, 55, 56, 57, 58, 59, 60, 61, 62, 63, 64, 65, 66, 67, 68, 69, 70, 71, 72, 73, 74, 75, 76, 77, 78, 79, 80, 81, 82, 83, 84, 85, 86, 87, 88, 89, 90, 91, 92, 93, 94, 95, 96] rfl (by decide +kernel)
set_option maxRecDepth 20000 in
theorem gX12_sums_X12_byteAt : GoodIn wsX12_sums (wsV RX12 274 RX12 yX12_byteAt wsX12_byteAt) := goodIn_app (goodIn_of _ (by decide +kernel)) ggX12_sums_X12_byteAt
theorem dX12_sums_0 : decode cX12_sums 0 = .ok (.aload_n 0, 1) := kd_r kbX12_sums ki_0 rfl
theorem dX12_sums_1 : decode cX12_sums 1 = .ok (.invokevirtual 290, 3) := kd_r kbX12_sums ki_663 rfl
theorem dX12_sums_4 : decode cX12_sums 4 = .ok (.istore_n 1, 1) := kd_r kbX12_sums ki_60 rfl
theorem dX12_sums_5 : decode cX12_sums 5 = .ok (.aload_n 0, 1) := kd_r kbX12_sums ki_0 rfl
theorem dX12_sums_6 : decode cX12_sums 6 = .ok (.getfield 271, 3) := kd_r kbX12_sums ki_931 rfl
theorem dX12_sums_9 : decode cX12_sums 9 = .ok (.ifCond .ge 68, 3) := kd_r kbX12_sums ki_942 rfl
theorem dX12_sums_12 : decode cX12_sums 12 = .ok (.aload_n 0, 1) := kd_r kbX12_sums ki_0 rfl
theorem dX12_sums_13 : decode cX12_sums 13 = .ok (.invokevirtual 274, 3) := kd_r kbX12_sums ki_935 rfl
theorem dX12_sums_16 : decode cX12_sums 16 = .ok (.bipush 43, 2) := kd_r kbX12_sums ki_467 rfl
theorem dX12_sums_18 : decode cX12_sums 18 = .ok (.if_icmp .eq 12, 3) := kd_r kbX12_sums ki_924 rfl
theorem dX12_sums_21 : decode cX12_sums 21 = .ok (.aload_n 0, 1) := kd_r kbX12_sums ki_0 rfl
theorem dX12_sums_22 : decode cX12_sums 22 = .ok (.invokevirtual 274, 3) := kd_r kbX12_sums ki_935 rfl
theorem dX12_sums_25 : decode cX12_sums 25 = .ok (.bipush 45, 2) := kd_r kbX12_sums ki_468 rfl
theorem dX12_sums_27 : decode cX12_sums 27 = .ok (.if_icmp .ne 50, 3) := kd_r kbX12_sums ki_943 rfl
theorem dX12_sums_30 : decode cX12_sums 30 = .ok (.aload_n 0, 1) := kd_r kbX12_sums ki_0 rfl
theorem dX12_sums_31 : decode cX12_sums 31 = .ok (.invokevirtual 274, 3) := kd_r kbX12_sums ki_935 rfl
theorem dX12_sums_34 : decode cX12_sums 34 = .ok (.bipush 43, 2) := kd_r kbX12_sums ki_467 rfl
theorem dX12_sums_36 : decode cX12_sums 36 = .ok (.if_icmp .ne 7, 3) := kd_r kbX12_sums ki_280 rfl
theorem dX12_sums_39 : decode cX12_sums 39 = .ok (.iconst 1, 1) := kd_r kbX12_sums ki_16 rfl
theorem dX12_sums_40 : decode cX12_sums 40 = .ok (.goto 4, 3) := kd_r kbX12_sums ki_19 rfl
theorem dX12_sums_43 : decode cX12_sums 43 = .ok (.iconst 0, 1) := kd_r kbX12_sums ki_20 rfl
theorem dX12_sums_44 : decode cX12_sums 44 = .ok (.istore_n 2, 1) := kd_r kbX12_sums ki_32 rfl
theorem dX12_sums_45 : decode cX12_sums 45 = .ok (.aload_n 0, 1) := kd_r kbX12_sums ki_0 rfl
theorem dX12_sums_46 : decode cX12_sums 46 = .ok (.dup, 1) := kd_r kbX12_sums ki_29 rfl
theorem dX12_sums_47 : decode cX12_sums 47 = .ok (.getfield 262, 3) := kd_r kbX12_sums ki_927 rfl
theorem dX12_sums_50 : decode cX12_sums 50 = .ok (.iconst 1, 1) := kd_r kbX12_sums ki_16 rfl
theorem dX12_sums_51 : decode cX12_sums 51 = .ok (.iadd, 1) := kd_r kbX12_sums ki_30 rfl
theorem dX12_sums_52 : decode cX12_sums 52 = .ok (.putfield 262, 3) := kd_r kbX12_sums ki_936 rfl
theorem dX12_sums_55 : decode cX12_sums 55 = .ok (.aload_n 0, 1) := kd_r kbX12_sums ki_0 rfl
theorem dX12_sums_56 : decode cX12_sums 56 = .ok (.invokevirtual 290, 3) := kd_r kbX12_sums ki_663 rfl
theorem dX12_sums_59 : decode cX12_sums 59 = .ok (.istore_n 3, 1) := kd_r kbX12_sums ki_108 rfl
theorem dX12_sums_60 : decode cX12_sums 60 = .ok (.iload_n 2, 1) := kd_r kbX12_sums ki_11 rfl
theorem dX12_sums_61 : decode cX12_sums 61 = .ok (.ifCond .eq 9, 3) := kd_r kbX12_sums ki_472 rfl
theorem dX12_sums_64 : decode cX12_sums 64 = .ok (.iload_n 1, 1) := kd_r kbX12_sums ki_8 rfl
theorem dX12_sums_65 : decode cX12_sums 65 = .ok (.iload_n 3, 1) := kd_r kbX12_sums ki_55 rfl
theorem dX12_sums_66 : decode cX12_sums 66 = .ok (.iadd, 1) := kd_r kbX12_sums ki_30 rfl
theorem dX12_sums_67 : decode cX12_sums 67 = .ok (.goto 6, 3) := kd_r kbX12_sums ki_282 rfl
theorem dX12_sums_70 : decode cX12_sums 70 = .ok (.iload_n 1, 1) := kd_r kbX12_sums ki_8 rfl
theorem dX12_sums_71 : decode cX12_sums 71 = .ok (.iload_n 3, 1) := kd_r kbX12_sums ki_55 rfl
theorem dX12_sums_72 : decode cX12_sums 72 = .ok (.isub, 1) := kd_r kbX12_sums ki_50 rfl
theorem dX12_sums_73 : decode cX12_sums 73 = .ok (.istore_n 1, 1) := kd_r kbX12_sums ki_60 rfl
theorem dX12_sums_74 : decode cX12_sums 74 = .ok (.goto (-69), 3) := kd_r kbX12_sums ki_163 rfl
theorem dX12_sums_77 : decode cX12_sums 77 = .ok (.iload_n 1, 1) := kd_r kbX12_sums ki_8 rfl
theorem dX12_sums_78 : decode cX12_sums 78 = .ok (.ireturn, 1) := kd_r kbX12_sums ki_7 rfl
set_option maxRecDepth 20000 in
theorem ggX12_product_X12_one : GoodIn wsX12_product wsX12_one := goodIn_r _ [31, 1, 32, 2, 33, 7, 8, 9, 6, 10, 11, 12, 13, 14, 34, 35, 36, 37, 38, 39, 40, 3, 4, 5, 19, 20, 21, 22, 41, 42, 43, 15, 16, 17, 18, 23, 24, 25, 26, 27, 28, 29, 30, 0, 44, 45, 46, 47, 48, 49, 50, 51, 52, 53, 54, 55, 56, 57, 58, 59, 60, 61, 62, 63, 64, 65, 66, 67, 68, 69, 70, 71, 72, 73, 74, 75, 76, 77, 78, 79, 80, 81, 82, 83, 84, 85, 86, 87, 88, 89, 90, 91, 92, 93, 94, 95, 96] rfl (by decide +kernel)
set_option maxRecDepth 20000 in
theorem gX12_product_X12_one : GoodIn wsX12_product (wsV RX12 293 RX12 yX12_one wsX12_one) := goodIn_app (goodIn_of _ (by decide +kernel)) ggX12_product_X12_one
set_option maxRecDepth 20000 in
theorem ggX12_product_X12_byteAt : GoodIn wsX12_product wsX12_byteAt := goodIn_r _ [10, 2, 11, 12, 13, 14, 48, 49, 50, 51, 52, 53, 54, 55, 56, 57, 58, 59, 60, 61, 62, 63, 64, 65, 66, 67, 68, 69, 70, 71, 72, 73, 74, 75, 76, 77, 78, 79, 80, 81, 82, 83, 84, 85, 86, 87, 88, 89, 90, 91, 92, 93, 94, 95, 96] rfl (by decide +kernel)
set_option maxRecDepth 20000 in
theorem gX12_product_X12_byteAt : GoodIn wsX12_product (wsV RX12 274 RX12 yX12_byteAt wsX12_byteAt) := goodIn_app (goodIn_of _ (by decide +kernel)) ggX12_product_X12_byteAt
theorem dX12_product_0 : decode cX12_product 0 = .ok (.aload_n 0, 1) := kd_r kbX12_product ki_0 rfl
theorem dX12_product_1 : decode cX12_product 1 = .ok (.invokevirtual 293, 3) := kd_r kbX12_product ki_664 rfl
theorem dX12_product_4 : decode cX12_product 4 = .ok (.istore_n 1, 1) := kd_r kbX12_product ki_60 rfl
theorem dX12_product_5 : decode cX12_product 5 = .ok (.aload_n 0, 1) := kd_r kbX12_product ki_0 rfl
theorem dX12_product_6 : decode cX12_product 6 = .ok (.invokevirtual 274, 3) := kd_r kbX12_product ki_935 rfl
theorem dX12_product_9 : decode cX12_product 9 = .ok (.istore_n 2, 1) := kd_r kbX12_product ki_32 rfl
theorem dX12_product_10 : decode cX12_product 10 = .ok (.aload_n 0, 1) := kd_r kbX12_product ki_0 rfl
theorem dX12_product_11 : decode cX12_product 11 = .ok (.getfield 271, 3) := kd_r kbX12_product ki_931 rfl
theorem dX12_product_14 : decode cX12_product 14 = .ok (.ifCond .ge 80, 3) := kd_r kbX12_product ki_944 rfl
theorem dX12_product_17 : decode cX12_product 17 = .ok (.iload_n 2, 1) := kd_r kbX12_product ki_11 rfl
theorem dX12_product_18 : decode cX12_product 18 = .ok (.bipush 42, 2) := kd_r kbX12_product ki_469 rfl
theorem dX12_product_20 : decode cX12_product 20 = .ok (.if_icmp .eq 15, 3) := kd_r kbX12_product ki_464 rfl
theorem dX12_product_23 : decode cX12_product 23 = .ok (.iload_n 2, 1) := kd_r kbX12_product ki_11 rfl
theorem dX12_product_24 : decode cX12_product 24 = .ok (.bipush 47, 2) := kd_r kbX12_product ki_470 rfl
theorem dX12_product_26 : decode cX12_product 26 = .ok (.if_icmp .eq 9, 3) := kd_r kbX12_product ki_348 rfl
theorem dX12_product_29 : decode cX12_product 29 = .ok (.iload_n 2, 1) := kd_r kbX12_product ki_11 rfl
theorem dX12_product_30 : decode cX12_product 30 = .ok (.bipush 37, 2) := kd_r kbX12_product ki_471 rfl
theorem dX12_product_32 : decode cX12_product 32 = .ok (.if_icmp .ne 62, 3) := kd_r kbX12_product ki_945 rfl
theorem dX12_product_35 : decode cX12_product 35 = .ok (.aload_n 0, 1) := kd_r kbX12_product ki_0 rfl
theorem dX12_product_36 : decode cX12_product 36 = .ok (.dup, 1) := kd_r kbX12_product ki_29 rfl
theorem dX12_product_37 : decode cX12_product 37 = .ok (.getfield 262, 3) := kd_r kbX12_product ki_927 rfl
theorem dX12_product_40 : decode cX12_product 40 = .ok (.iconst 1, 1) := kd_r kbX12_product ki_16 rfl
theorem dX12_product_41 : decode cX12_product 41 = .ok (.iadd, 1) := kd_r kbX12_product ki_30 rfl
theorem dX12_product_42 : decode cX12_product 42 = .ok (.putfield 262, 3) := kd_r kbX12_product ki_936 rfl
theorem dX12_product_45 : decode cX12_product 45 = .ok (.aload_n 0, 1) := kd_r kbX12_product ki_0 rfl
theorem dX12_product_46 : decode cX12_product 46 = .ok (.invokevirtual 293, 3) := kd_r kbX12_product ki_664 rfl
theorem dX12_product_49 : decode cX12_product 49 = .ok (.istore_n 3, 1) := kd_r kbX12_product ki_108 rfl
theorem dX12_product_50 : decode cX12_product 50 = .ok (.iload_n 2, 1) := kd_r kbX12_product ki_11 rfl
theorem dX12_product_51 : decode cX12_product 51 = .ok (.bipush 42, 2) := kd_r kbX12_product ki_469 rfl
theorem dX12_product_53 : decode cX12_product 53 = .ok (.if_icmp .ne 9, 3) := kd_r kbX12_product ki_881 rfl
theorem dX12_product_56 : decode cX12_product 56 = .ok (.iload_n 1, 1) := kd_r kbX12_product ki_8 rfl
theorem dX12_product_57 : decode cX12_product 57 = .ok (.iload_n 3, 1) := kd_r kbX12_product ki_55 rfl
theorem dX12_product_58 : decode cX12_product 58 = .ok (.imul, 1) := kd_r kbX12_product ki_114 rfl
theorem dX12_product_59 : decode cX12_product 59 = .ok (.goto 26, 3) := kd_r kbX12_product ki_946 rfl
theorem dX12_product_62 : decode cX12_product 62 = .ok (.iload_n 3, 1) := kd_r kbX12_product ki_55 rfl
theorem dX12_product_63 : decode cX12_product 63 = .ok (.ifCond .ne 7, 3) := kd_r kbX12_product ki_260 rfl
theorem dX12_product_66 : decode cX12_product 66 = .ok (.iconst 0, 1) := kd_r kbX12_product ki_20 rfl
theorem dX12_product_67 : decode cX12_product 67 = .ok (.goto 18, 3) := kd_r kbX12_product ki_310 rfl
theorem dX12_product_70 : decode cX12_product 70 = .ok (.iload_n 2, 1) := kd_r kbX12_product ki_11 rfl
theorem dX12_product_71 : decode cX12_product 71 = .ok (.bipush 47, 2) := kd_r kbX12_product ki_470 rfl
theorem dX12_product_73 : decode cX12_product 73 = .ok (.if_icmp .ne 9, 3) := kd_r kbX12_product ki_881 rfl
theorem dX12_product_76 : decode cX12_product 76 = .ok (.iload_n 1, 1) := kd_r kbX12_product ki_8 rfl
theorem dX12_product_77 : decode cX12_product 77 = .ok (.iload_n 3, 1) := kd_r kbX12_product ki_55 rfl
theorem dX12_product_78 : decode cX12_product 78 = .ok (.idiv, 1) := kd_r kbX12_product ki_225 rfl
theorem dX12_product_79 : decode cX12_product 79 = .ok (.goto 6, 3) := kd_r kbX12_product ki_282 rfl
theorem dX12_product_82 : decode cX12_product 82 = .ok (.iload_n 1, 1) := kd_r kbX12_product ki_8 rfl
theorem dX12_product_83 : decode cX12_product 83 = .ok (.iload_n 3, 1) := kd_r kbX12_product ki_55 rfl
theorem dX12_product_84 : decode cX12_product 84 = .ok (.irem, 1) := kd_r kbX12_product ki_227 rfl
theorem dX12_product_85 : decode cX12_product 85 = .ok (.istore_n 1, 1) := kd_r kbX12_product ki_60 rfl
theorem dX12_product_86 : decode cX12_product 86 = .ok (.aload_n 0, 1) := kd_r kbX12_product ki_0 rfl
theorem dX12_product_87 : decode cX12_product 87 = .ok (.invokevirtual 274, 3) := kd_r kbX12_product ki_935 rfl
theorem dX12_product_90 : decode cX12_product 90 = .ok (.istore_n 2, 1) := kd_r kbX12_product ki_32 rfl
theorem dX12_product_91 : decode cX12_product 91 = .ok (.goto (-81), 3) := kd_r kbX12_product ki_117 rfl
theorem dX12_product_94 : decode cX12_product 94 = .ok (.iload_n 1, 1) := kd_r kbX12_product ki_8 rfl
theorem dX12_product_95 : decode cX12_product 95 = .ok (.ireturn, 1) := kd_r kbX12_product ki_7 rfl
theorem dX12_nameOf_0 : decode cX12_nameOf 0 = .ok (.iload_n 0, 1) := kd_r kbX12_nameOf ki_40 rfl
theorem dX12_nameOf_1 : decode cX12_nameOf 1 = .ok (.tableswitch 129 99 122 #[126, 115, 129, 121, 129, 129, 123, 129, 129, 129, 129, 113, 129, 129, 129, 129, 129, 129, 129, 129, 111, 129, 117, 119], 111) := by decide +kernel
theorem dX12_nameOf_112 : decode cX12_nameOf 112 = .ok (.iconst 0, 1) := kd_r kbX12_nameOf ki_20 rfl
theorem dX12_nameOf_113 : decode cX12_nameOf 113 = .ok (.ireturn, 1) := kd_r kbX12_nameOf ki_7 rfl
theorem dX12_nameOf_114 : decode cX12_nameOf 114 = .ok (.iconst 1, 1) := kd_r kbX12_nameOf ki_16 rfl
theorem dX12_nameOf_115 : decode cX12_nameOf 115 = .ok (.ireturn, 1) := kd_r kbX12_nameOf ki_7 rfl
theorem dX12_nameOf_116 : decode cX12_nameOf 116 = .ok (.iconst 2, 1) := kd_r kbX12_nameOf ki_244 rfl
theorem dX12_nameOf_117 : decode cX12_nameOf 117 = .ok (.ireturn, 1) := kd_r kbX12_nameOf ki_7 rfl
theorem dX12_nameOf_118 : decode cX12_nameOf 118 = .ok (.iconst 3, 1) := kd_r kbX12_nameOf ki_246 rfl
theorem dX12_nameOf_119 : decode cX12_nameOf 119 = .ok (.ireturn, 1) := kd_r kbX12_nameOf ki_7 rfl
theorem dX12_nameOf_120 : decode cX12_nameOf 120 = .ok (.iconst 4, 1) := kd_r kbX12_nameOf ki_247 rfl
theorem dX12_nameOf_121 : decode cX12_nameOf 121 = .ok (.ireturn, 1) := kd_r kbX12_nameOf ki_7 rfl
theorem dX12_nameOf_122 : decode cX12_nameOf 122 = .ok (.iconst 5, 1) := kd_r kbX12_nameOf ki_79 rfl
theorem dX12_nameOf_123 : decode cX12_nameOf 123 = .ok (.ireturn, 1) := kd_r kbX12_nameOf ki_7 rfl
theorem dX12_nameOf_124 : decode cX12_nameOf 124 = .ok (.bipush 6, 2) := kd_r kbX12_nameOf ki_2 rfl
theorem dX12_nameOf_126 : decode cX12_nameOf 126 = .ok (.ireturn, 1) := kd_r kbX12_nameOf ki_7 rfl
theorem dX12_nameOf_127 : decode cX12_nameOf 127 = .ok (.bipush 7, 2) := kd_r kbX12_nameOf ki_249 rfl
theorem dX12_nameOf_129 : decode cX12_nameOf 129 = .ok (.ireturn, 1) := kd_r kbX12_nameOf ki_7 rfl
theorem dX12_nameOf_130 : decode cX12_nameOf 130 = .ok (.iconst (-1), 1) := kd_r kbX12_nameOf ki_99 rfl
theorem dX12_nameOf_131 : decode cX12_nameOf 131 = .ok (.ireturn, 1) := kd_r kbX12_nameOf ki_7 rfl
set_option maxRecDepth 20000 in
theorem ggX12_one_X12_byteAt : GoodIn wsX12_one wsX12_byteAt := goodIn_r _ [9, 3, 10, 11, 12, 13, 48, 49, 50, 51, 52, 53, 54, 55, 56, 57, 58, 59, 60, 61, 62, 63, 64, 65, 66, 67, 68, 69, 70, 71, 72, 73, 74, 75, 76, 77, 78, 79, 80, 81, 82, 83, 84, 85, 86, 87, 88, 89, 90, 91, 92, 93, 94, 95, 96] rfl (by decide +kernel)
set_option maxRecDepth 20000 in
theorem gX12_one_X12_byteAt : GoodIn wsX12_one (wsV RX12 274 RX12 yX12_byteAt wsX12_byteAt) := goodIn_app (goodIn_of _ (by decide +kernel)) ggX12_one_X12_byteAt
set_option maxRecDepth 20000 in
theorem ggX12_one_X12_wrong : GoodIn wsX12_one wsX12_wrong := goodIn_r _ [17, 1, 3, 48, 49, 50, 51, 52, 53, 54, 55, 56, 57, 58, 59, 60, 61, 62, 63, 64, 65, 66, 67, 68, 69, 70, 71, 72, 73, 74, 75, 76, 77, 78, 79, 80, 81, 82, 83, 84, 85, 86, 87, 88, 89, 90, 91, 92, 93, 94, 95, 96] rfl (by decide +kernel)
set_option maxRecDepth 20000 in
theorem gX12_one_X12_wrong : GoodIn wsX12_one (wsV RX12 299 RX12 yX12_wrong wsX12_wrong) := goodIn_app (goodIn_of _ (by decide +kernel)) ggX12_one_X12_wrong
set_option maxRecDepth 20000 in
theorem ggX12_one_X12_either : GoodIn wsX12_one wsX12_either := goodIn_r _ [39, 40, 41, 42, 8, 24, 25, 26, 27, 1, 3, 5, 6, 7, 9, 10, 11, 12, 13, 31, 32, 33, 34, 35, 36, 37, 38, 0, 2, 4, 14, 15, 16, 17, 18, 19, 20, 21, 22, 23, 28, 29, 30, 43, 44, 45, 46, 47, 48, 49, 50, 51, 52, 53, 54, 55, 56, 57, 58, 59, 60, 61, 62, 63, 64, 65, 66, 67, 68, 69, 70, 71, 72, 73, 74, 75, 76, 77, 78, 79, 80, 81, 82, 83, 84, 85, 86, 87, 88, 89, 90, 91, 92, 93, 94, 95, 96] rfl (by decide +kernel)
set_option maxRecDepth 20000 in
theorem gX12_one_X12_either : GoodIn wsX12_one (wsV RX12 302 RX12 yX12_either wsX12_either) := goodIn_app (goodIn_of _ (by decide +kernel)) ggX12_one_X12_either
set_option maxRecDepth 20000 in
theorem ggX12_one_X12_one : GoodIn wsX12_one wsX12_one := goodIn_r _ [0, 1, 2, 3, 4, 5, 6, 7, 8, 9, 10, 11, 12, 13, 14, 15, 16, 17, 18, 19, 20, 21, 22, 23, 24, 25, 26, 27, 28, 29, 30, 31, 32, 33, 34, 35, 36, 37, 38, 39, 40, 41, 42, 43, 44, 45, 46, 47, 48, 49, 50, 51, 52, 53, 54, 55, 56, 57, 58, 59, 60, 61, 62, 63, 64, 65, 66, 67, 68, 69, 70, 71, 72, 73, 74, 75, 76, 77, 78, 79, 80, 81, 82, 83, 84, 85, 86, 87, 88, 89, 90, 91, 92, 93, 94, 95, 96] rfl (by decide +kernel)
set_option maxRecDepth 20000 in
theorem gX12_one_X12_one : GoodIn wsX12_one (wsV RX12 293 RX12 yX12_one wsX12_one) := goodIn_app (goodIn_of _ (by decide +kernel)) ggX12_one_X12_one
set_option maxRecDepth 20000 in
theorem ggX12_one_X12_takes : GoodIn wsX12_one wsX12_takes := goodIn_r _ [27, 1, 3, 5, 6, 7, 8, 9, 10, 11, 12, 13, 48, 49, 50, 51, 52, 53, 54, 55, 56, 57, 58, 59, 60, 61, 62, 63, 64, 65, 66, 67, 68, 69, 70, 71, 72, 73, 74, 75, 76, 77, 78, 79, 80, 81, 82, 83, 84, 85, 86, 87, 88, 89, 90, 91, 92, 93, 94, 95, 96] rfl (by decide +kernel)
set_option maxRecDepth 20000 in
theorem gX12_one_X12_takes : GoodIn wsX12_one (wsV RX12 281 RX12 yX12_takes wsX12_takes) := goodIn_app (goodIn_of _ (by decide +kernel)) ggX12_one_X12_takes
set_option maxRecDepth 20000 in
theorem ggX12_one_X12_nameOf : GoodIn wsX12_one wsX12_nameOf := goodIn_r _ [30] rfl (by decide +kernel)
set_option maxRecDepth 20000 in
theorem gX12_one_X12_nameOf : GoodIn wsX12_one (va_wsS RX12 305 yX12_nameOf wsX12_nameOf) := goodIn_app (goodIn_of _ (by decide +kernel)) ggX12_one_X12_nameOf
theorem dX12_one_0 : decode cX12_one 0 = .ok (.aload_n 0, 1) := kd_r kbX12_one ki_0 rfl
theorem dX12_one_1 : decode cX12_one 1 = .ok (.getfield 271, 3) := kd_r kbX12_one ki_931 rfl
theorem dX12_one_4 : decode cX12_one 4 = .ok (.ifCond .lt 5, 3) := kd_r kbX12_one ki_947 rfl
theorem dX12_one_9 : decode cX12_one 9 = .ok (.aload_n 0, 1) := kd_r kbX12_one ki_0 rfl
theorem dX12_one_10 : decode cX12_one 10 = .ok (.invokevirtual 274, 3) := kd_r kbX12_one ki_935 rfl
theorem dX12_one_13 : decode cX12_one 13 = .ok (.istore_n 1, 1) := kd_r kbX12_one ki_60 rfl
theorem dX12_one_14 : decode cX12_one 14 = .ok (.iload_n 1, 1) := kd_r kbX12_one ki_8 rfl
theorem dX12_one_15 : decode cX12_one 15 = .ok (.bipush 33, 2) := kd_r kbX12_one ki_270 rfl
theorem dX12_one_17 : decode cX12_one 17 = .ok (.if_icmp .eq 15, 3) := kd_r kbX12_one ki_464 rfl
theorem dX12_one_20 : decode cX12_one 20 = .ok (.iload_n 1, 1) := kd_r kbX12_one ki_8 rfl
theorem dX12_one_21 : decode cX12_one 21 = .ok (.bipush 45, 2) := kd_r kbX12_one ki_468 rfl
theorem dX12_one_23 : decode cX12_one 23 = .ok (.if_icmp .eq 9, 3) := kd_r kbX12_one ki_348 rfl
theorem dX12_one_26 : decode cX12_one 26 = .ok (.iload_n 1, 1) := kd_r kbX12_one ki_8 rfl
theorem dX12_one_27 : decode cX12_one 27 = .ok (.bipush 40, 2) := kd_r kbX12_one ki_44 rfl
theorem dX12_one_29 : decode cX12_one 29 = .ok (.if_icmp .ne 116, 3) := kd_r kbX12_one ki_948 rfl
theorem dX12_one_32 : decode cX12_one 32 = .ok (.aload_n 0, 1) := kd_r kbX12_one ki_0 rfl
theorem dX12_one_33 : decode cX12_one 33 = .ok (.getfield 296, 3) := kd_r kbX12_one ki_949 rfl
theorem dX12_one_36 : decode cX12_one 36 = .ok (.bipush 6, 2) := kd_r kbX12_one ki_2 rfl
theorem dX12_one_38 : decode cX12_one 38 = .ok (.if_icmp .ne 8, 3) := kd_r kbX12_one ki_256 rfl
theorem dX12_one_41 : decode cX12_one 41 = .ok (.aload_n 0, 1) := kd_r kbX12_one ki_0 rfl
theorem dX12_one_42 : decode cX12_one 42 = .ok (.invokevirtual 299, 3) := kd_r kbX12_one ki_668 rfl
theorem dX12_one_45 : decode cX12_one 45 = .ok (.ireturn, 1) := kd_r kbX12_one ki_7 rfl
theorem dX12_one_46 : decode cX12_one 46 = .ok (.aload_n 0, 1) := kd_r kbX12_one ki_0 rfl
theorem dX12_one_47 : decode cX12_one 47 = .ok (.dup, 1) := kd_r kbX12_one ki_29 rfl
theorem dX12_one_48 : decode cX12_one 48 = .ok (.getfield 296, 3) := kd_r kbX12_one ki_949 rfl
theorem dX12_one_51 : decode cX12_one 51 = .ok (.iconst 1, 1) := kd_r kbX12_one ki_16 rfl
theorem dX12_one_52 : decode cX12_one 52 = .ok (.iadd, 1) := kd_r kbX12_one ki_30 rfl
theorem dX12_one_53 : decode cX12_one 53 = .ok (.putfield 296, 3) := kd_r kbX12_one ki_950 rfl
theorem dX12_one_56 : decode cX12_one 56 = .ok (.aload_n 0, 1) := kd_r kbX12_one ki_0 rfl
theorem dX12_one_57 : decode cX12_one 57 = .ok (.dup, 1) := kd_r kbX12_one ki_29 rfl
theorem dX12_one_58 : decode cX12_one 58 = .ok (.getfield 262, 3) := kd_r kbX12_one ki_927 rfl
theorem dX12_one_61 : decode cX12_one 61 = .ok (.iconst 1, 1) := kd_r kbX12_one ki_16 rfl
theorem dX12_one_62 : decode cX12_one 62 = .ok (.iadd, 1) := kd_r kbX12_one ki_30 rfl
theorem dX12_one_63 : decode cX12_one 63 = .ok (.putfield 262, 3) := kd_r kbX12_one ki_936 rfl
theorem dX12_one_66 : decode cX12_one 66 = .ok (.iload_n 1, 1) := kd_r kbX12_one ki_8 rfl
theorem dX12_one_67 : decode cX12_one 67 = .ok (.bipush 40, 2) := kd_r kbX12_one ki_44 rfl
theorem dX12_one_69 : decode cX12_one 69 = .ok (.if_icmp .ne 10, 3) := kd_r kbX12_one ki_415 rfl
theorem dX12_one_72 : decode cX12_one 72 = .ok (.aload_n 0, 1) := kd_r kbX12_one ki_0 rfl
theorem dX12_one_73 : decode cX12_one 73 = .ok (.invokevirtual 302, 3) := kd_r kbX12_one ki_669 rfl
theorem dX12_one_76 : decode cX12_one 76 = .ok (.goto 7, 3) := kd_r kbX12_one ki_416 rfl
theorem dX12_one_79 : decode cX12_one 79 = .ok (.aload_n 0, 1) := kd_r kbX12_one ki_0 rfl
theorem dX12_one_80 : decode cX12_one 80 = .ok (.invokevirtual 293, 3) := kd_r kbX12_one ki_664 rfl
theorem dX12_one_83 : decode cX12_one 83 = .ok (.istore_n 2, 1) := kd_r kbX12_one ki_32 rfl
theorem dX12_one_84 : decode cX12_one 84 = .ok (.iload_n 1, 1) := kd_r kbX12_one ki_8 rfl
theorem dX12_one_85 : decode cX12_one 85 = .ok (.bipush 40, 2) := kd_r kbX12_one ki_44 rfl
theorem dX12_one_87 : decode cX12_one 87 = .ok (.if_icmp .ne 17, 3) := kd_r kbX12_one ki_647 rfl
theorem dX12_one_90 : decode cX12_one 90 = .ok (.aload_n 0, 1) := kd_r kbX12_one ki_0 rfl
theorem dX12_one_91 : decode cX12_one 91 = .ok (.bipush 41, 2) := kd_r kbX12_one ki_187 rfl
theorem dX12_one_93 : decode cX12_one 93 = .ok (.invokevirtual 281, 3) := kd_r kbX12_one ki_938 rfl
theorem dX12_one_96 : decode cX12_one 96 = .ok (.ifCond .ne 8, 3) := kd_r kbX12_one ki_456 rfl
theorem dX12_one_99 : decode cX12_one 99 = .ok (.aload_n 0, 1) := kd_r kbX12_one ki_0 rfl
theorem dX12_one_100 : decode cX12_one 100 = .ok (.invokevirtual 299, 3) := kd_r kbX12_one ki_668 rfl
theorem dX12_one_103 : decode cX12_one 103 = .ok (.ireturn, 1) := kd_r kbX12_one ki_7 rfl
theorem dX12_one_104 : decode cX12_one 104 = .ok (.aload_n 0, 1) := kd_r kbX12_one ki_0 rfl
theorem dX12_one_105 : decode cX12_one 105 = .ok (.dup, 1) := kd_r kbX12_one ki_29 rfl
theorem dX12_one_106 : decode cX12_one 106 = .ok (.getfield 296, 3) := kd_r kbX12_one ki_949 rfl
theorem dX12_one_109 : decode cX12_one 109 = .ok (.iconst 1, 1) := kd_r kbX12_one ki_16 rfl
theorem dX12_one_110 : decode cX12_one 110 = .ok (.isub, 1) := kd_r kbX12_one ki_50 rfl
theorem dX12_one_111 : decode cX12_one 111 = .ok (.putfield 296, 3) := kd_r kbX12_one ki_950 rfl
theorem dX12_one_114 : decode cX12_one 114 = .ok (.iload_n 1, 1) := kd_r kbX12_one ki_8 rfl
theorem dX12_one_115 : decode cX12_one 115 = .ok (.bipush 40, 2) := kd_r kbX12_one ki_44 rfl
theorem dX12_one_117 : decode cX12_one 117 = .ok (.if_icmp .ne 7, 3) := kd_r kbX12_one ki_280 rfl
theorem dX12_one_120 : decode cX12_one 120 = .ok (.iload_n 2, 1) := kd_r kbX12_one ki_11 rfl
theorem dX12_one_121 : decode cX12_one 121 = .ok (.goto 23, 3) := kd_r kbX12_one ki_557 rfl
theorem dX12_one_124 : decode cX12_one 124 = .ok (.iload_n 1, 1) := kd_r kbX12_one ki_8 rfl
theorem dX12_one_125 : decode cX12_one 125 = .ok (.bipush 45, 2) := kd_r kbX12_one ki_468 rfl
theorem dX12_one_127 : decode cX12_one 127 = .ok (.if_icmp .ne 8, 3) := kd_r kbX12_one ki_256 rfl
theorem dX12_one_130 : decode cX12_one 130 = .ok (.iload_n 2, 1) := kd_r kbX12_one ki_11 rfl
theorem dX12_one_131 : decode cX12_one 131 = .ok (.ineg, 1) := kd_r kbX12_one ki_276 rfl
theorem dX12_one_132 : decode cX12_one 132 = .ok (.goto 12, 3) := kd_r kbX12_one ki_951 rfl
theorem dX12_one_135 : decode cX12_one 135 = .ok (.iload_n 2, 1) := kd_r kbX12_one ki_11 rfl
theorem dX12_one_136 : decode cX12_one 136 = .ok (.ifCond .ne 7, 3) := kd_r kbX12_one ki_260 rfl
theorem dX12_one_139 : decode cX12_one 139 = .ok (.iconst 1, 1) := kd_r kbX12_one ki_16 rfl
theorem dX12_one_140 : decode cX12_one 140 = .ok (.goto 4, 3) := kd_r kbX12_one ki_19 rfl
theorem dX12_one_143 : decode cX12_one 143 = .ok (.iconst 0, 1) := kd_r kbX12_one ki_20 rfl
theorem dX12_one_144 : decode cX12_one 144 = .ok (.ireturn, 1) := kd_r kbX12_one ki_7 rfl
theorem dX12_one_145 : decode cX12_one 145 = .ok (.iload_n 1, 1) := kd_r kbX12_one ki_8 rfl
theorem dX12_one_146 : decode cX12_one 146 = .ok (.invokestatic 305, 3) := kd_r kbX12_one ki_952 rfl
theorem dX12_one_149 : decode cX12_one 149 = .ok (.istore_n 2, 1) := kd_r kbX12_one ki_32 rfl
theorem dX12_one_150 : decode cX12_one 150 = .ok (.iload_n 2, 1) := kd_r kbX12_one ki_11 rfl
theorem dX12_one_151 : decode cX12_one 151 = .ok (.ifCond .lt 20, 3) := kd_r kbX12_one ki_545 rfl
theorem dX12_one_154 : decode cX12_one 154 = .ok (.aload_n 0, 1) := kd_r kbX12_one ki_0 rfl
theorem dX12_one_155 : decode cX12_one 155 = .ok (.dup, 1) := kd_r kbX12_one ki_29 rfl
theorem dX12_one_156 : decode cX12_one 156 = .ok (.getfield 262, 3) := kd_r kbX12_one ki_927 rfl
theorem dX12_one_159 : decode cX12_one 159 = .ok (.iconst 1, 1) := kd_r kbX12_one ki_16 rfl
theorem dX12_one_160 : decode cX12_one 160 = .ok (.iadd, 1) := kd_r kbX12_one ki_30 rfl
theorem dX12_one_161 : decode cX12_one 161 = .ok (.putfield 262, 3) := kd_r kbX12_one ki_936 rfl
theorem dX12_one_164 : decode cX12_one 164 = .ok (.aload_n 0, 1) := kd_r kbX12_one ki_0 rfl
theorem dX12_one_165 : decode cX12_one 165 = .ok (.getfield 77, 3) := kd_r kbX12_one ki_953 rfl
theorem dX12_one_168 : decode cX12_one 168 = .ok (.iload_n 2, 1) := kd_r kbX12_one ki_11 rfl
theorem dX12_one_169 : decode cX12_one 169 = .ok (.iaload, 1) := kd_r kbX12_one ki_14 rfl
theorem dX12_one_170 : decode cX12_one 170 = .ok (.ireturn, 1) := kd_r kbX12_one ki_7 rfl
theorem dX12_one_171 : decode cX12_one 171 = .ok (.iconst 0, 1) := kd_r kbX12_one ki_20 rfl
theorem dX12_one_172 : decode cX12_one 172 = .ok (.istore_n 3, 1) := kd_r kbX12_one ki_108 rfl
theorem dX12_one_173 : decode cX12_one 173 = .ok (.iconst 0, 1) := kd_r kbX12_one ki_20 rfl
theorem dX12_one_174 : decode cX12_one 174 = .ok (.istore 4, 2) := kd_r kbX12_one ki_129 rfl
theorem dX12_one_176 : decode cX12_one 176 = .ok (.iload 4, 2) := kd_r kbX12_one ki_57 rfl
theorem dX12_one_178 : decode cX12_one 178 = .ok (.iconst 4, 1) := kd_r kbX12_one ki_247 rfl
theorem dX12_one_179 : decode cX12_one 179 = .ok (.if_icmp .ge 50, 3) := kd_r kbX12_one ki_954 rfl
theorem dX12_one_182 : decode cX12_one 182 = .ok (.aload_n 0, 1) := kd_r kbX12_one ki_0 rfl
theorem dX12_one_183 : decode cX12_one 183 = .ok (.invokevirtual 274, 3) := kd_r kbX12_one ki_935 rfl
theorem dX12_one_186 : decode cX12_one 186 = .ok (.bipush 48, 2) := kd_r kbX12_one ki_482 rfl
theorem dX12_one_188 : decode cX12_one 188 = .ok (.if_icmp .lt 41, 3) := kd_r kbX12_one ki_955 rfl
theorem dX12_one_191 : decode cX12_one 191 = .ok (.aload_n 0, 1) := kd_r kbX12_one ki_0 rfl
theorem dX12_one_192 : decode cX12_one 192 = .ok (.invokevirtual 274, 3) := kd_r kbX12_one ki_935 rfl
theorem dX12_one_195 : decode cX12_one 195 = .ok (.bipush 57, 2) := kd_r kbX12_one ki_483 rfl
theorem dX12_one_197 : decode cX12_one 197 = .ok (.if_icmp .gt 32, 3) := kd_r kbX12_one ki_956 rfl
theorem dX12_one_200 : decode cX12_one 200 = .ok (.bipush 10, 2) := kd_r kbX12_one ki_71 rfl
theorem dX12_one_202 : decode cX12_one 202 = .ok (.iload_n 3, 1) := kd_r kbX12_one ki_55 rfl
theorem dX12_one_203 : decode cX12_one 203 = .ok (.imul, 1) := kd_r kbX12_one ki_114 rfl
theorem dX12_one_204 : decode cX12_one 204 = .ok (.aload_n 0, 1) := kd_r kbX12_one ki_0 rfl
theorem dX12_one_205 : decode cX12_one 205 = .ok (.invokevirtual 274, 3) := kd_r kbX12_one ki_935 rfl
theorem dX12_one_208 : decode cX12_one 208 = .ok (.iadd, 1) := kd_r kbX12_one ki_30 rfl
theorem dX12_one_209 : decode cX12_one 209 = .ok (.bipush 48, 2) := kd_r kbX12_one ki_482 rfl
theorem dX12_one_211 : decode cX12_one 211 = .ok (.isub, 1) := kd_r kbX12_one ki_50 rfl
theorem dX12_one_212 : decode cX12_one 212 = .ok (.istore_n 3, 1) := kd_r kbX12_one ki_108 rfl
theorem dX12_one_213 : decode cX12_one 213 = .ok (.iinc 4 1, 3) := kd_r kbX12_one ki_144 rfl
theorem dX12_one_216 : decode cX12_one 216 = .ok (.aload_n 0, 1) := kd_r kbX12_one ki_0 rfl
theorem dX12_one_217 : decode cX12_one 217 = .ok (.dup, 1) := kd_r kbX12_one ki_29 rfl
theorem dX12_one_218 : decode cX12_one 218 = .ok (.getfield 262, 3) := kd_r kbX12_one ki_927 rfl
theorem dX12_one_221 : decode cX12_one 221 = .ok (.iconst 1, 1) := kd_r kbX12_one ki_16 rfl
theorem dX12_one_222 : decode cX12_one 222 = .ok (.iadd, 1) := kd_r kbX12_one ki_30 rfl
theorem dX12_one_223 : decode cX12_one 223 = .ok (.putfield 262, 3) := kd_r kbX12_one ki_936 rfl
theorem dX12_one_226 : decode cX12_one 226 = .ok (.goto (-50), 3) := kd_r kbX12_one ki_957 rfl
theorem dX12_one_229 : decode cX12_one 229 = .ok (.iload 4, 2) := kd_r kbX12_one ki_57 rfl
theorem dX12_one_231 : decode cX12_one 231 = .ok (.ifCond .ne 10, 3) := kd_r kbX12_one ki_414 rfl
theorem dX12_one_234 : decode cX12_one 234 = .ok (.aload_n 0, 1) := kd_r kbX12_one ki_0 rfl
theorem dX12_one_235 : decode cX12_one 235 = .ok (.invokevirtual 299, 3) := kd_r kbX12_one ki_668 rfl
theorem dX12_one_238 : decode cX12_one 238 = .ok (.goto 4, 3) := kd_r kbX12_one ki_19 rfl
theorem dX12_one_241 : decode cX12_one 241 = .ok (.iload_n 3, 1) := kd_r kbX12_one ki_55 rfl
theorem dX12_one_242 : decode cX12_one 242 = .ok (.ireturn, 1) := kd_r kbX12_one ki_7 rfl
set_option maxRecDepth 20000 in
theorem ggX12_workOut_X12_either : GoodIn wsX12_workOut wsX12_either := goodIn_r _ [10, 11, 12, 13, 9, 14, 15, 16, 17, 4, 2, 18, 19, 20, 21, 3, 1, 22, 23, 24, 25, 26, 27, 28, 29, 30, 31, 32, 5, 33, 34, 35, 36, 37, 6, 7, 8, 38, 39, 40, 41, 42, 43, 44, 45, 46, 47, 48, 49, 50, 51, 52, 53, 54, 55, 56, 57, 58, 59, 60, 61, 62, 63, 64, 65, 66, 67, 68, 69, 70, 71, 72, 73, 74, 75, 76, 77, 78, 79, 80, 81, 82, 83, 84, 85, 86, 87, 88, 89, 90, 91, 92, 93, 94, 95, 96, 97] rfl (by decide +kernel)
set_option maxRecDepth 20000 in
theorem gX12_workOut_X12_either : GoodIn wsX12_workOut (wsV RX12 302 RX12 yX12_either wsX12_either) := goodIn_app (goodIn_of _ (by decide +kernel)) ggX12_workOut_X12_either
set_option maxRecDepth 20000 in
theorem ggX12_workOut_X12_takes : GoodIn wsX12_workOut wsX12_takes := goodIn_r _ [17, 4, 2, 18, 19, 20, 9, 21, 3, 1, 22, 23, 49, 50, 51, 52, 53, 54, 55, 56, 57, 58, 59, 60, 61, 62, 63, 64, 65, 66, 67, 68, 69, 70, 71, 72, 73, 74, 75, 76, 77, 78, 79, 80, 81, 82, 83, 84, 85, 86, 87, 88, 89, 90, 91, 92, 93, 94, 95, 96, 97] rfl (by decide +kernel)
set_option maxRecDepth 20000 in
theorem gX12_workOut_X12_takes : GoodIn wsX12_workOut (wsV RX12 281 RX12 yX12_takes wsX12_takes) := goodIn_app (goodIn_of _ (by decide +kernel)) ggX12_workOut_X12_takes
set_option maxRecDepth 20000 in
theorem ggX12_workOut_X12_wrong : GoodIn wsX12_workOut wsX12_wrong := goodIn_r _ [37, 4, 2, 49, 50, 51, 52, 53, 54, 55, 56, 57, 58, 59, 60, 61, 62, 63, 64, 65, 66, 67, 68, 69, 70, 71, 72, 73, 74, 75, 76, 77, 78, 79, 80, 81, 82, 83, 84, 85, 86, 87, 88, 89, 90, 91, 92, 93, 94, 95, 96, 97] rfl (by decide +kernel)
set_option maxRecDepth 20000 in
theorem gX12_workOut_X12_wrong : GoodIn wsX12_workOut (wsV RX12 299 RX12 yX12_wrong wsX12_wrong) := goodIn_app (goodIn_of _ (by decide +kernel)) ggX12_workOut_X12_wrong
theorem dX12_workOut_0 : decode cX12_workOut 0 = .ok (.aload_n 0, 1) := kd_r kbX12_workOut ki_0 rfl
theorem dX12_workOut_1 : decode cX12_workOut 1 = .ok (.iload_n 1, 1) := kd_r kbX12_workOut ki_8 rfl
theorem dX12_workOut_2 : decode cX12_workOut 2 = .ok (.putfield 268, 3) := kd_r kbX12_workOut ki_958 rfl
theorem dX12_workOut_5 : decode cX12_workOut 5 = .ok (.aload_n 0, 1) := kd_r kbX12_workOut ki_0 rfl
theorem dX12_workOut_6 : decode cX12_workOut 6 = .ok (.iconst 0, 1) := kd_r kbX12_workOut ki_20 rfl
theorem dX12_workOut_7 : decode cX12_workOut 7 = .ok (.putfield 262, 3) := kd_r kbX12_workOut ki_936 rfl
theorem dX12_workOut_10 : decode cX12_workOut 10 = .ok (.aload_n 0, 1) := kd_r kbX12_workOut ki_0 rfl
theorem dX12_workOut_11 : decode cX12_workOut 11 = .ok (.iload_n 2, 1) := kd_r kbX12_workOut ki_11 rfl
theorem dX12_workOut_12 : decode cX12_workOut 12 = .ok (.putfield 265, 3) := kd_r kbX12_workOut ki_959 rfl
theorem dX12_workOut_15 : decode cX12_workOut 15 = .ok (.aload_n 0, 1) := kd_r kbX12_workOut ki_0 rfl
theorem dX12_workOut_16 : decode cX12_workOut 16 = .ok (.iconst (-1), 1) := kd_r kbX12_workOut ki_99 rfl
theorem dX12_workOut_17 : decode cX12_workOut 17 = .ok (.putfield 271, 3) := kd_r kbX12_workOut ki_933 rfl
theorem dX12_workOut_20 : decode cX12_workOut 20 = .ok (.aload_n 0, 1) := kd_r kbX12_workOut ki_0 rfl
theorem dX12_workOut_21 : decode cX12_workOut 21 = .ok (.iconst 0, 1) := kd_r kbX12_workOut ki_20 rfl
theorem dX12_workOut_22 : decode cX12_workOut 22 = .ok (.putfield 296, 3) := kd_r kbX12_workOut ki_950 rfl
theorem dX12_workOut_25 : decode cX12_workOut 25 = .ok (.iconst 0, 1) := kd_r kbX12_workOut ki_20 rfl
theorem dX12_workOut_26 : decode cX12_workOut 26 = .ok (.istore_n 3, 1) := kd_r kbX12_workOut ki_108 rfl
theorem dX12_workOut_27 : decode cX12_workOut 27 = .ok (.iconst 0, 1) := kd_r kbX12_workOut ki_20 rfl
theorem dX12_workOut_28 : decode cX12_workOut 28 = .ok (.istore 4, 2) := kd_r kbX12_workOut ki_129 rfl
theorem dX12_workOut_30 : decode cX12_workOut 30 = .ok (.iconst 1, 1) := kd_r kbX12_workOut ki_16 rfl
theorem dX12_workOut_31 : decode cX12_workOut 31 = .ok (.istore 5, 2) := kd_r kbX12_workOut ki_133 rfl
theorem dX12_workOut_33 : decode cX12_workOut 33 = .ok (.iload 5, 2) := kd_r kbX12_workOut ki_134 rfl
theorem dX12_workOut_35 : decode cX12_workOut 35 = .ok (.ifCond .eq 72, 3) := kd_r kbX12_workOut ki_960 rfl
theorem dX12_workOut_38 : decode cX12_workOut 38 = .ok (.aload_n 0, 1) := kd_r kbX12_workOut ki_0 rfl
theorem dX12_workOut_39 : decode cX12_workOut 39 = .ok (.invokevirtual 302, 3) := kd_r kbX12_workOut ki_669 rfl
theorem dX12_workOut_42 : decode cX12_workOut 42 = .ok (.istore 6, 2) := kd_r kbX12_workOut ki_199 rfl
theorem dX12_workOut_44 : decode cX12_workOut 44 = .ok (.iconst 1, 1) := kd_r kbX12_workOut ki_16 rfl
theorem dX12_workOut_45 : decode cX12_workOut 45 = .ok (.istore 7, 2) := kd_r kbX12_workOut ki_152 rfl
theorem dX12_workOut_47 : decode cX12_workOut 47 = .ok (.aload_n 0, 1) := kd_r kbX12_workOut ki_0 rfl
theorem dX12_workOut_48 : decode cX12_workOut 48 = .ok (.bipush 63, 2) := kd_r kbX12_workOut ki_258 rfl
theorem dX12_workOut_50 : decode cX12_workOut 50 = .ok (.invokevirtual 281, 3) := kd_r kbX12_workOut ki_938 rfl
theorem dX12_workOut_53 : decode cX12_workOut 53 = .ok (.ifCond .eq 21, 3) := kd_r kbX12_workOut ki_422 rfl
theorem dX12_workOut_56 : decode cX12_workOut 56 = .ok (.iload 6, 2) := kd_r kbX12_workOut ki_200 rfl
theorem dX12_workOut_58 : decode cX12_workOut 58 = .ok (.ifCond .eq 7, 3) := kd_r kbX12_workOut ki_18 rfl
theorem dX12_workOut_61 : decode cX12_workOut 61 = .ok (.iconst 1, 1) := kd_r kbX12_workOut ki_16 rfl
theorem dX12_workOut_62 : decode cX12_workOut 62 = .ok (.goto 4, 3) := kd_r kbX12_workOut ki_19 rfl
theorem dX12_workOut_65 : decode cX12_workOut 65 = .ok (.iconst 0, 1) := kd_r kbX12_workOut ki_20 rfl
theorem dX12_workOut_66 : decode cX12_workOut 66 = .ok (.istore 7, 2) := kd_r kbX12_workOut ki_152 rfl
theorem dX12_workOut_68 : decode cX12_workOut 68 = .ok (.aload_n 0, 1) := kd_r kbX12_workOut ki_0 rfl
theorem dX12_workOut_69 : decode cX12_workOut 69 = .ok (.invokevirtual 302, 3) := kd_r kbX12_workOut ki_669 rfl
theorem dX12_workOut_72 : decode cX12_workOut 72 = .ok (.istore 6, 2) := kd_r kbX12_workOut ki_199 rfl
theorem dX12_workOut_74 : decode cX12_workOut 74 = .ok (.aload_n 0, 1) := kd_r kbX12_workOut ki_0 rfl
theorem dX12_workOut_75 : decode cX12_workOut 75 = .ok (.getfield 271, 3) := kd_r kbX12_workOut ki_931 rfl
theorem dX12_workOut_78 : decode cX12_workOut 78 = .ok (.ifCond .ge 18, 3) := kd_r kbX12_workOut ki_602 rfl
theorem dX12_workOut_81 : decode cX12_workOut 81 = .ok (.iload 7, 2) := kd_r kbX12_workOut ki_153 rfl
theorem dX12_workOut_83 : decode cX12_workOut 83 = .ok (.ifCond .eq 13, 3) := kd_r kbX12_workOut ki_413 rfl
theorem dX12_workOut_86 : decode cX12_workOut 86 = .ok (.iload_n 3, 1) := kd_r kbX12_workOut ki_55 rfl
theorem dX12_workOut_87 : decode cX12_workOut 87 = .ok (.ifCond .ne 9, 3) := kd_r kbX12_workOut ki_879 rfl
theorem dX12_workOut_90 : decode cX12_workOut 90 = .ok (.iconst 1, 1) := kd_r kbX12_workOut ki_16 rfl
theorem dX12_workOut_91 : decode cX12_workOut 91 = .ok (.istore_n 3, 1) := kd_r kbX12_workOut ki_108 rfl
theorem dX12_workOut_92 : decode cX12_workOut 92 = .ok (.iload 6, 2) := kd_r kbX12_workOut ki_200 rfl
theorem dX12_workOut_94 : decode cX12_workOut 94 = .ok (.istore 4, 2) := kd_r kbX12_workOut ki_129 rfl
theorem dX12_workOut_96 : decode cX12_workOut 96 = .ok (.aload_n 0, 1) := kd_r kbX12_workOut ki_0 rfl
theorem dX12_workOut_97 : decode cX12_workOut 97 = .ok (.bipush 59, 2) := kd_r kbX12_workOut ki_253 rfl
theorem dX12_workOut_99 : decode cX12_workOut 99 = .ok (.invokevirtual 281, 3) := kd_r kbX12_workOut ki_938 rfl
theorem dX12_workOut_102 : decode cX12_workOut 102 = .ok (.istore 5, 2) := kd_r kbX12_workOut ki_133 rfl
theorem dX12_workOut_104 : decode cX12_workOut 104 = .ok (.goto (-71), 3) := kd_r kbX12_workOut ki_961 rfl
theorem dX12_workOut_107 : decode cX12_workOut 107 = .ok (.aload_n 0, 1) := kd_r kbX12_workOut ki_0 rfl
theorem dX12_workOut_108 : decode cX12_workOut 108 = .ok (.getfield 271, 3) := kd_r kbX12_workOut ki_931 rfl
theorem dX12_workOut_111 : decode cX12_workOut 111 = .ok (.ifCond .ge 19, 3) := kd_r kbX12_workOut ki_962 rfl
theorem dX12_workOut_114 : decode cX12_workOut 114 = .ok (.aload_n 0, 1) := kd_r kbX12_workOut ki_0 rfl
theorem dX12_workOut_115 : decode cX12_workOut 115 = .ok (.getfield 262, 3) := kd_r kbX12_workOut ki_927 rfl
theorem dX12_workOut_118 : decode cX12_workOut 118 = .ok (.aload_n 0, 1) := kd_r kbX12_workOut ki_0 rfl
theorem dX12_workOut_119 : decode cX12_workOut 119 = .ok (.getfield 265, 3) := kd_r kbX12_workOut ki_928 rfl
theorem dX12_workOut_122 : decode cX12_workOut 122 = .ok (.if_icmp .ge 8, 3) := kd_r kbX12_workOut ki_323 rfl
theorem dX12_workOut_125 : decode cX12_workOut 125 = .ok (.aload_n 0, 1) := kd_r kbX12_workOut ki_0 rfl
