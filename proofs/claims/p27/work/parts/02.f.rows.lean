theorem dL_track_0 : decode cL_track 0 = .ok (.aload_n 0, 1) := by decide +kernel
theorem dL_track_1 : decode cL_track 1 = .ok (.iconst 3, 1) := by decide +kernel
theorem dL_track_2 : decode cL_track 2 = .ok (.invokevirtual 11, 3) := by decide +kernel
theorem dL_track_5 : decode cL_track 5 = .ok (.istore_n 1, 1) := by decide +kernel
theorem dL_track_6 : decode cL_track 6 = .ok (.iconst 0, 1) := by decide +kernel
theorem dL_track_7 : decode cL_track 7 = .ok (.istore_n 2, 1) := by decide +kernel
theorem dL_track_8 : decode cL_track 8 = .ok (.iconst 0, 1) := by decide +kernel
theorem dL_track_9 : decode cL_track 9 = .ok (.istore_n 3, 1) := by decide +kernel
theorem dL_track_10 : decode cL_track 10 = .ok (.iconst 0, 1) := by decide +kernel
theorem dL_track_11 : decode cL_track 11 = .ok (.istore 4, 2) := by decide +kernel
theorem dL_track_13 : decode cL_track 13 = .ok (.iload 4, 2) := by decide +kernel
theorem dL_track_15 : decode cL_track 15 = .ok (.iload_n 1, 1) := by decide +kernel
theorem dL_track_16 : decode cL_track 16 = .ok (.if_icmp .ge 204, 3) := by decide +kernel
theorem dL_track_19 : decode cL_track 19 = .ok (.aload_n 0, 1) := by decide +kernel
theorem dL_track_20 : decode cL_track 20 = .ok (.iload 4, 2) := by decide +kernel
theorem dL_track_22 : decode cL_track 22 = .ok (.iconst 2, 1) := by decide +kernel
theorem dL_track_23 : decode cL_track 23 = .ok (.invokevirtual 63, 3) := by decide +kernel
theorem dL_track_26 : decode cL_track 26 = .ok (.istore 5, 2) := by decide +kernel
theorem dL_track_28 : decode cL_track 28 = .ok (.aload_n 0, 1) := by decide +kernel
theorem dL_track_29 : decode cL_track 29 = .ok (.iload 4, 2) := by decide +kernel
theorem dL_track_31 : decode cL_track 31 = .ok (.iconst 0, 1) := by decide +kernel
theorem dL_track_32 : decode cL_track 32 = .ok (.invokevirtual 63, 3) := by decide +kernel
theorem dL_track_35 : decode cL_track 35 = .ok (.istore 6, 2) := by decide +kernel
theorem dL_track_37 : decode cL_track 37 = .ok (.aload_n 0, 1) := by decide +kernel
theorem dL_track_38 : decode cL_track 38 = .ok (.iload 4, 2) := by decide +kernel
theorem dL_track_40 : decode cL_track 40 = .ok (.iconst 1, 1) := by decide +kernel
theorem dL_track_41 : decode cL_track 41 = .ok (.invokevirtual 63, 3) := by decide +kernel
theorem dL_track_44 : decode cL_track 44 = .ok (.istore 7, 2) := by decide +kernel
theorem dL_track_46 : decode cL_track 46 = .ok (.aload_n 0, 1) := by decide +kernel
theorem dL_track_47 : decode cL_track 47 = .ok (.iload 4, 2) := by decide +kernel
theorem dL_track_49 : decode cL_track 49 = .ok (.iconst 3, 1) := by decide +kernel
theorem dL_track_50 : decode cL_track 50 = .ok (.invokevirtual 63, 3) := by decide +kernel
theorem dL_track_53 : decode cL_track 53 = .ok (.istore 8, 2) := by decide +kernel
theorem dL_track_55 : decode cL_track 55 = .ok (.iload_n 3, 1) := by decide +kernel
theorem dL_track_56 : decode cL_track 56 = .ok (.aload_n 0, 1) := by decide +kernel
theorem dL_track_57 : decode cL_track 57 = .ok (.iconst 0, 1) := by decide +kernel
theorem dL_track_58 : decode cL_track 58 = .ok (.invokevirtual 11, 3) := by decide +kernel
theorem dL_track_61 : decode cL_track 61 = .ok (.if_icmp .ge 20, 3) := by decide +kernel
theorem dL_track_64 : decode cL_track 64 = .ok (.aload_n 0, 1) := by decide +kernel
theorem dL_track_65 : decode cL_track 65 = .ok (.iload_n 3, 1) := by decide +kernel
theorem dL_track_66 : decode cL_track 66 = .ok (.bipush 6, 2) := by decide +kernel
theorem dL_track_68 : decode cL_track 68 = .ok (.invokevirtual 19, 3) := by decide +kernel
theorem dL_track_71 : decode cL_track 71 = .ok (.iconst 1, 1) := by decide +kernel
theorem dL_track_72 : decode cL_track 72 = .ok (.if_icmp .ne 9, 3) := by decide +kernel
theorem dL_track_75 : decode cL_track 75 = .ok (.iinc 3 1, 3) := by decide +kernel
theorem dL_track_78 : decode cL_track 78 = .ok (.goto (-23), 3) := by decide +kernel
theorem dL_track_81 : decode cL_track 81 = .ok (.iload 6, 2) := by decide +kernel
theorem dL_track_83 : decode cL_track 83 = .ok (.iload_n 3, 1) := by decide +kernel
theorem dL_track_84 : decode cL_track 84 = .ok (.if_icmp .ne 83, 3) := by decide +kernel
theorem dL_track_87 : decode cL_track 87 = .ok (.iload 5, 2) := by decide +kernel
theorem dL_track_89 : decode cL_track 89 = .ok (.iload 6, 2) := by decide +kernel
theorem dL_track_91 : decode cL_track 91 = .ok (.ishr, 1) := by decide +kernel
theorem dL_track_92 : decode cL_track 92 = .ok (.iconst 1, 1) := by decide +kernel
theorem dL_track_93 : decode cL_track 93 = .ok (.iand, 1) := by decide +kernel
theorem dL_track_94 : decode cL_track 94 = .ok (.iconst 1, 1) := by decide +kernel
theorem dL_track_95 : decode cL_track 95 = .ok (.if_icmp .ne 72, 3) := by decide +kernel
theorem dL_track_98 : decode cL_track 98 = .ok (.iload 5, 2) := by decide +kernel
theorem dL_track_100 : decode cL_track 100 = .ok (.iload 7, 2) := by decide +kernel
theorem dL_track_102 : decode cL_track 102 = .ok (.ishr, 1) := by decide +kernel
theorem dL_track_103 : decode cL_track 103 = .ok (.iconst 1, 1) := by decide +kernel
theorem dL_track_104 : decode cL_track 104 = .ok (.iand, 1) := by decide +kernel
theorem dL_track_105 : decode cL_track 105 = .ok (.iconst 1, 1) := by decide +kernel
theorem dL_track_106 : decode cL_track 106 = .ok (.if_icmp .ne 61, 3) := by decide +kernel
theorem dL_track_109 : decode cL_track 109 = .ok (.iload 5, 2) := by decide +kernel
theorem dL_track_111 : decode cL_track 111 = .ok (.iload 7, 2) := by decide +kernel
theorem dL_track_113 : decode cL_track 113 = .ok (.iconst 1, 1) := by decide +kernel
theorem dL_track_114 : decode cL_track 114 = .ok (.iadd, 1) := by decide +kernel
theorem dL_track_115 : decode cL_track 115 = .ok (.ishr, 1) := by decide +kernel
theorem dL_track_116 : decode cL_track 116 = .ok (.ifCond .ne 51, 3) := by decide +kernel
theorem dL_track_119 : decode cL_track 119 = .ok (.iload 5, 2) := by decide +kernel
theorem dL_track_121 : decode cL_track 121 = .ok (.iload_n 2, 1) := by decide +kernel
theorem dL_track_122 : decode cL_track 122 = .ok (.iand, 1) := by decide +kernel
theorem dL_track_123 : decode cL_track 123 = .ok (.ifCond .ne 44, 3) := by decide +kernel
theorem dL_track_126 : decode cL_track 126 = .ok (.aload_n 0, 1) := by decide +kernel
theorem dL_track_127 : decode cL_track 127 = .ok (.iload 6, 2) := by decide +kernel
theorem dL_track_129 : decode cL_track 129 = .ok (.invokevirtual 25, 3) := by decide +kernel
theorem dL_track_132 : decode cL_track 132 = .ok (.iload 5, 2) := by decide +kernel
theorem dL_track_134 : decode cL_track 134 = .ok (.invokestatic 46, 3) := by decide +kernel
theorem dL_track_137 : decode cL_track 137 = .ok (.if_icmp .lt 30, 3) := by decide +kernel
theorem dL_track_140 : decode cL_track 140 = .ok (.iload 8, 2) := by decide +kernel
theorem dL_track_142 : decode cL_track 142 = .ok (.ifCond .ge 7, 3) := by decide +kernel
theorem dL_track_145 : decode cL_track 145 = .ok (.iconst 1, 1) := by decide +kernel
theorem dL_track_146 : decode cL_track 146 = .ok (.goto 4, 3) := by decide +kernel
theorem dL_track_149 : decode cL_track 149 = .ok (.iconst 0, 1) := by decide +kernel
theorem dL_track_150 : decode cL_track 150 = .ok (.iload 5, 2) := by decide +kernel
theorem dL_track_152 : decode cL_track 152 = .ok (.invokestatic 46, 3) := by decide +kernel
theorem dL_track_155 : decode cL_track 155 = .ok (.iconst 3, 1) := by decide +kernel
theorem dL_track_156 : decode cL_track 156 = .ok (.if_icmp .ge 7, 3) := by decide +kernel
theorem dL_track_159 : decode cL_track 159 = .ok (.iconst 1, 1) := by decide +kernel
theorem dL_track_160 : decode cL_track 160 = .ok (.goto 4, 3) := by decide +kernel
theorem dL_track_163 : decode cL_track 163 = .ok (.iconst 0, 1) := by decide +kernel
theorem dL_track_164 : decode cL_track 164 = .ok (.if_icmp .eq 5, 3) := by decide +kernel
theorem dL_track_167 : decode cL_track 167 = .ok (.iconst 0, 1) := by decide +kernel
theorem dL_track_168 : decode cL_track 168 = .ok (.ireturn, 1) := by decide +kernel
theorem dL_track_169 : decode cL_track 169 = .ok (.iload 8, 2) := by decide +kernel
theorem dL_track_171 : decode cL_track 171 = .ok (.ifCond .lt 33, 3) := by decide +kernel
theorem dL_track_174 : decode cL_track 174 = .ok (.iload 5, 2) := by decide +kernel
theorem dL_track_176 : decode cL_track 176 = .ok (.aload_n 0, 1) := by decide +kernel
theorem dL_track_177 : decode cL_track 177 = .ok (.iload 8, 2) := by decide +kernel
theorem dL_track_179 : decode cL_track 179 = .ok (.aload_n 0, 1) := by decide +kernel
theorem dL_track_180 : decode cL_track 180 = .ok (.iload 4, 2) := by decide +kernel
theorem dL_track_182 : decode cL_track 182 = .ok (.iconst 4, 1) := by decide +kernel
theorem dL_track_183 : decode cL_track 183 = .ok (.invokevirtual 63, 3) := by decide +kernel
theorem dL_track_186 : decode cL_track 186 = .ok (.aload_n 0, 1) := by decide +kernel
theorem dL_track_187 : decode cL_track 187 = .ok (.iload 4, 2) := by decide +kernel
theorem dL_track_189 : decode cL_track 189 = .ok (.iconst 5, 1) := by decide +kernel
theorem dL_track_190 : decode cL_track 190 = .ok (.invokevirtual 63, 3) := by decide +kernel
theorem dL_track_193 : decode cL_track 193 = .ok (.invokevirtual 28, 3) := by decide +kernel
theorem dL_track_196 : decode cL_track 196 = .ok (.iconst (-1), 1) := by decide +kernel
theorem dL_track_197 : decode cL_track 197 = .ok (.ixor, 1) := by decide +kernel
theorem dL_track_198 : decode cL_track 198 = .ok (.iand, 1) := by decide +kernel
theorem dL_track_199 : decode cL_track 199 = .ok (.ifCond .eq 5, 3) := by decide +kernel
theorem dL_track_202 : decode cL_track 202 = .ok (.iconst 0, 1) := by decide +kernel
theorem dL_track_203 : decode cL_track 203 = .ok (.ireturn, 1) := by decide +kernel
theorem dL_track_204 : decode cL_track 204 = .ok (.iload_n 2, 1) := by decide +kernel
theorem dL_track_205 : decode cL_track 205 = .ok (.iload 5, 2) := by decide +kernel
theorem dL_track_207 : decode cL_track 207 = .ok (.ior, 1) := by decide +kernel
theorem dL_track_208 : decode cL_track 208 = .ok (.istore_n 2, 1) := by decide +kernel
theorem dL_track_209 : decode cL_track 209 = .ok (.iload 7, 2) := by decide +kernel
theorem dL_track_211 : decode cL_track 211 = .ok (.iconst 1, 1) := by decide +kernel
theorem dL_track_212 : decode cL_track 212 = .ok (.iadd, 1) := by decide +kernel
theorem dL_track_213 : decode cL_track 213 = .ok (.istore_n 3, 1) := by decide +kernel
theorem dL_track_214 : decode cL_track 214 = .ok (.iinc 4 1, 3) := by decide +kernel
theorem dL_track_217 : decode cL_track 217 = .ok (.goto (-204), 3) := by decide +kernel
theorem dL_track_220 : decode cL_track 220 = .ok (.iload_n 2, 1) := by decide +kernel
theorem dL_track_221 : decode cL_track 221 = .ok (.aload_n 0, 1) := by decide +kernel
theorem dL_track_222 : decode cL_track 222 = .ok (.iconst 1, 1) := by decide +kernel
theorem dL_track_223 : decode cL_track 223 = .ok (.invokevirtual 11, 3) := by decide +kernel
theorem dL_track_226 : decode cL_track 226 = .ok (.if_icmp .ne 41, 3) := by decide +kernel
theorem dL_track_229 : decode cL_track 229 = .ok (.aload_n 0, 1) := by decide +kernel
theorem dL_track_230 : decode cL_track 230 = .ok (.iload_n 1, 1) := by decide +kernel
theorem dL_track_231 : decode cL_track 231 = .ok (.iconst 0, 1) := by decide +kernel
theorem dL_track_232 : decode cL_track 232 = .ok (.invokevirtual 63, 3) := by decide +kernel
theorem dL_track_235 : decode cL_track 235 = .ok (.bipush (-5), 2) := by decide +kernel
theorem dL_track_237 : decode cL_track 237 = .ok (.if_icmp .ne 30, 3) := by decide +kernel
theorem dL_track_240 : decode cL_track 240 = .ok (.aload_n 0, 1) := by decide +kernel
theorem dL_track_241 : decode cL_track 241 = .ok (.iconst (-1), 1) := by decide +kernel
theorem dL_track_242 : decode cL_track 242 = .ok (.iconst 0, 1) := by decide +kernel
theorem dL_track_243 : decode cL_track 243 = .ok (.invokevirtual 63, 3) := by decide +kernel
theorem dL_track_246 : decode cL_track 246 = .ok (.bipush (-2), 2) := by decide +kernel
theorem dL_track_248 : decode cL_track 248 = .ok (.if_icmp .ne 19, 3) := by decide +kernel
theorem dL_track_251 : decode cL_track 251 = .ok (.iload_n 1, 1) := by decide +kernel
theorem dL_track_252 : decode cL_track 252 = .ok (.iload_n 2, 1) := by decide +kernel
theorem dL_track_253 : decode cL_track 253 = .ok (.invokestatic 46, 3) := by decide +kernel
theorem dL_track_256 : decode cL_track 256 = .ok (.iconst 1, 1) := by decide +kernel
theorem dL_track_257 : decode cL_track 257 = .ok (.iadd, 1) := by decide +kernel
theorem dL_track_258 : decode cL_track 258 = .ok (.iconst 2, 1) := by decide +kernel
theorem dL_track_259 : decode cL_track 259 = .ok (.idiv, 1) := by decide +kernel
theorem dL_track_260 : decode cL_track 260 = .ok (.if_icmp .gt 7, 3) := by decide +kernel
theorem dL_track_263 : decode cL_track 263 = .ok (.iconst 1, 1) := by decide +kernel
theorem dL_track_264 : decode cL_track 264 = .ok (.goto 4, 3) := by decide +kernel
theorem dL_track_267 : decode cL_track 267 = .ok (.iconst 0, 1) := by decide +kernel
theorem dL_track_268 : decode cL_track 268 = .ok (.ireturn, 1) := by decide +kernel
set_option maxRecDepth 20000 in
theorem ggL_spins_X6_count : GoodIn wsL_spins wsX6_count := goodIn_r _ [5, 6, 7, 8, 9, 10, 11, 12, 13, 14, 15, 16, 17, 18, 19, 20, 21, 22, 23, 24, 25, 26, 27, 28, 29, 30, 31, 32, 33, 34, 35, 36, 37, 38, 39, 40, 41, 42, 43, 44, 45, 46, 47, 48, 49, 50, 51, 52, 53, 54, 55, 56, 57, 58, 59, 60, 61, 62, 63, 64, 65, 66, 67, 68, 69, 70, 71, 72, 73, 74, 75, 76, 77, 78, 79, 80, 81, 82, 83, 84, 85, 86, 87, 4, 88, 89, 90, 91, 92, 93, 94, 95, 96, 97, 98, 99, 100, 101, 102, 103, 104, 190, 191, 192, 193, 194, 195, 196, 197, 198, 199, 200, 201, 202, 203, 204, 205, 206, 207, 208, 209, 210, 211, 212, 213, 214] (by decide +kernel) (by decide +kernel)
set_option maxRecDepth 20000 in
theorem gL_spins_X6_count : GoodIn wsL_spins (wsV RL 11 RX6 yX6_count wsX6_count) := goodIn_app (goodIn_of _ (by decide +kernel)) ggL_spins_X6_count
set_option maxRecDepth 20000 in
theorem ggL_spins_L_low : GoodIn wsL_spins wsL_low := goodIn_r _ [108, 109] (by decide +kernel) (by decide +kernel)
set_option maxRecDepth 20000 in
theorem gL_spins_L_low : GoodIn wsL_spins (va_wsS RL 66 yL_low wsL_low) := goodIn_app (goodIn_of _ (by decide +kernel)) ggL_spins_L_low
set_option maxRecDepth 20000 in
theorem ggL_spins_X6_fits : GoodIn wsL_spins wsX6_fits := goodIn_r _ [113, 114, 115, 116, 4, 117, 118, 119, 120, 121, 122, 123, 124, 125, 29, 30, 16, 31, 19, 20, 21, 22, 23, 32, 33, 34, 35, 126, 127, 128, 129, 130, 131, 132, 81, 133, 134, 135, 136, 137, 138, 139, 140, 141, 142, 143, 144, 94, 95, 96, 97, 98, 99, 190, 191, 192, 193, 194, 195, 196, 197, 198, 215, 216, 217, 218, 199, 200] (by decide +kernel) (by decide +kernel)
set_option maxRecDepth 20000 in
theorem gL_spins_X6_fits : GoodIn wsL_spins (wsV RL 69 RX6 yX6_fits wsX6_fits) := goodIn_app (goodIn_of _ (by decide +kernel)) ggL_spins_X6_fits
set_option maxRecDepth 20000 in
theorem ggL_spins_X6_photo : GoodIn wsL_spins wsX6_photo := goodIn_r _ [148, 6, 149, 114, 150, 151, 152, 153, 16, 154, 18, 115, 116, 4, 117, 155, 33, 34, 35, 23, 156, 29, 30, 31, 19, 20, 21, 22, 32, 157, 158, 159, 121, 160, 161, 162, 163, 123, 164, 25, 26, 27, 28, 165, 166, 167, 168, 124, 130, 169, 170, 171, 172, 173, 119, 120, 122, 125, 126, 127, 128, 129, 131, 132, 81, 133, 134, 135, 136, 137, 138, 139, 140, 141, 142, 143, 174, 94, 95, 96, 97, 98, 99, 175, 87, 88, 190, 191, 192, 193, 194, 195, 196, 197, 198, 199, 200, 215, 216, 217, 218] (by decide +kernel) (by decide +kernel)
set_option maxRecDepth 20000 in
theorem gL_spins_X6_photo : GoodIn wsL_spins (wsV RL 19 RX6 yX6_photo wsX6_photo) := goodIn_app (goodIn_of _ (by decide +kernel)) ggL_spins_X6_photo
set_option maxRecDepth 20000 in
theorem ggL_spins_X6_spin : GoodIn wsL_spins wsX6_spin := goodIn_r _ [179, 114, 180, 181, 150, 115, 116, 4, 117, 157, 158, 159, 121, 160, 161, 162, 163, 123, 164, 25, 26, 16, 27, 18, 28, 29, 30, 31, 19, 20, 21, 22, 23, 32, 33, 34, 35, 165, 166, 167, 168, 124, 130, 169, 170, 171, 172, 173, 119, 120, 122, 125, 126, 127, 128, 129, 131, 132, 81, 133, 134, 135, 136, 137, 138, 139, 140, 141, 142, 143, 174, 94, 95, 96, 97, 98, 99, 144, 190, 191, 192, 193, 194, 195, 196, 197, 198, 215, 216, 217, 218, 199, 200] (by decide +kernel) (by decide +kernel)
set_option maxRecDepth 20000 in
theorem gL_spins_X6_spin : GoodIn wsL_spins (wsV RL 72 RX6 yX6_spin wsX6_spin) := goodIn_app (goodIn_of _ (by decide +kernel)) ggL_spins_X6_spin
set_option maxRecDepth 20000 in
theorem ggL_spins_X6_angleAt : GoodIn wsL_spins wsX6_angleAt := goodIn_r _ [185, 114, 180, 181, 115, 116, 4, 117, 157, 158, 159, 121, 160, 161, 162, 163, 123, 164, 25, 26, 16, 27, 18, 28, 29, 30, 31, 19, 20, 21, 22, 23, 32, 33, 34, 35, 165, 166, 167, 168, 124, 130, 169, 170, 171, 172, 173, 119, 120, 122, 125, 126, 127, 128, 129, 131, 132, 81, 133, 134, 135, 136, 137, 138, 139, 140, 141, 142, 143, 174, 94, 95, 96, 97, 98, 99, 186, 190, 191, 192, 193, 194, 195, 196, 197, 198, 215, 216, 217, 218, 199, 200] (by decide +kernel) (by decide +kernel)
set_option maxRecDepth 20000 in
theorem gL_spins_X6_angleAt : GoodIn wsL_spins (wsV RL 75 RX6 yX6_angleAt wsX6_angleAt) := goodIn_app (goodIn_of _ (by decide +kernel)) ggL_spins_X6_angleAt
set_option maxRecDepth 20000 in
theorem ggL_spins_L_bits : GoodIn wsL_spins wsL_bits := goodIn_r _ [189] (by decide +kernel) (by decide +kernel)
set_option maxRecDepth 20000 in
theorem gL_spins_L_bits : GoodIn wsL_spins (va_wsS RL 46 yL_bits wsL_bits) := goodIn_app (goodIn_of _ (by decide +kernel)) ggL_spins_L_bits
theorem dL_spins_0 : decode cL_spins 0 = .ok (.aload_n 0, 1) := by decide +kernel
theorem dL_spins_1 : decode cL_spins 1 = .ok (.iconst 2, 1) := by decide +kernel
theorem dL_spins_2 : decode cL_spins 2 = .ok (.invokevirtual 11, 3) := by decide +kernel
theorem dL_spins_5 : decode cL_spins 5 = .ok (.istore_n 2, 1) := by decide +kernel
theorem dL_spins_6 : decode cL_spins 6 = .ok (.iload_n 1, 1) := by decide +kernel
theorem dL_spins_7 : decode cL_spins 7 = .ok (.sipush 360, 3) := by decide +kernel
theorem dL_spins_10 : decode cL_spins 10 = .ok (.invokestatic 66, 3) := by decide +kernel
theorem dL_spins_13 : decode cL_spins 13 = .ok (.sipush 179, 3) := by decide +kernel
theorem dL_spins_16 : decode cL_spins 16 = .ok (.isub, 1) := by decide +kernel
theorem dL_spins_17 : decode cL_spins 17 = .ok (.istore_n 3, 1) := by decide +kernel
theorem dL_spins_18 : decode cL_spins 18 = .ok (.iload_n 1, 1) := by decide +kernel
theorem dL_spins_19 : decode cL_spins 19 = .ok (.bipush 9, 2) := by decide +kernel
theorem dL_spins_21 : decode cL_spins 21 = .ok (.ishr, 1) := by decide +kernel
theorem dL_spins_22 : decode cL_spins 22 = .ok (.sipush 360, 3) := by decide +kernel
theorem dL_spins_25 : decode cL_spins 25 = .ok (.invokestatic 66, 3) := by decide +kernel
theorem dL_spins_28 : decode cL_spins 28 = .ok (.istore 4, 2) := by decide +kernel
theorem dL_spins_30 : decode cL_spins 30 = .ok (.aload_n 0, 1) := by decide +kernel
theorem dL_spins_31 : decode cL_spins 31 = .ok (.iload_n 3, 1) := by decide +kernel
theorem dL_spins_32 : decode cL_spins 32 = .ok (.iload 4, 2) := by decide +kernel
theorem dL_spins_34 : decode cL_spins 34 = .ok (.invokevirtual 69, 3) := by decide +kernel
theorem dL_spins_37 : decode cL_spins 37 = .ok (.istore 5, 2) := by decide +kernel
theorem dL_spins_39 : decode cL_spins 39 = .ok (.iconst 0, 1) := by decide +kernel
theorem dL_spins_40 : decode cL_spins 40 = .ok (.istore 6, 2) := by decide +kernel
theorem dL_spins_42 : decode cL_spins 42 = .ok (.iconst 0, 1) := by decide +kernel
theorem dL_spins_43 : decode cL_spins 43 = .ok (.istore 7, 2) := by decide +kernel
theorem dL_spins_45 : decode cL_spins 45 = .ok (.iload 7, 2) := by decide +kernel
theorem dL_spins_47 : decode cL_spins 47 = .ok (.aload_n 0, 1) := by decide +kernel
theorem dL_spins_48 : decode cL_spins 48 = .ok (.iconst 0, 1) := by decide +kernel
theorem dL_spins_49 : decode cL_spins 49 = .ok (.invokevirtual 11, 3) := by decide +kernel
theorem dL_spins_52 : decode cL_spins 52 = .ok (.if_icmp .ge 102, 3) := by decide +kernel
theorem dL_spins_55 : decode cL_spins 55 = .ok (.iload_n 2, 1) := by decide +kernel
theorem dL_spins_56 : decode cL_spins 56 = .ok (.iload 7, 2) := by decide +kernel
theorem dL_spins_58 : decode cL_spins 58 = .ok (.ishr, 1) := by decide +kernel
theorem dL_spins_59 : decode cL_spins 59 = .ok (.iconst 1, 1) := by decide +kernel
theorem dL_spins_60 : decode cL_spins 60 = .ok (.iand, 1) := by decide +kernel
theorem dL_spins_61 : decode cL_spins 61 = .ok (.iconst 1, 1) := by decide +kernel
theorem dL_spins_62 : decode cL_spins 62 = .ok (.if_icmp .ne 86, 3) := by decide +kernel
theorem dL_spins_65 : decode cL_spins 65 = .ok (.iload 4, 2) := by decide +kernel
theorem dL_spins_67 : decode cL_spins 67 = .ok (.iload_n 3, 1) := by decide +kernel
theorem dL_spins_68 : decode cL_spins 68 = .ok (.aload_n 0, 1) := by decide +kernel
theorem dL_spins_69 : decode cL_spins 69 = .ok (.iload 7, 2) := by decide +kernel
theorem dL_spins_71 : decode cL_spins 71 = .ok (.iconst 0, 1) := by decide +kernel
theorem dL_spins_72 : decode cL_spins 72 = .ok (.invokevirtual 19, 3) := by decide +kernel
theorem dL_spins_75 : decode cL_spins 75 = .ok (.imul, 1) := by decide +kernel
theorem dL_spins_76 : decode cL_spins 76 = .ok (.iadd, 1) := by decide +kernel
theorem dL_spins_77 : decode cL_spins 77 = .ok (.aload_n 0, 1) := by decide +kernel
theorem dL_spins_78 : decode cL_spins 78 = .ok (.iload 7, 2) := by decide +kernel
theorem dL_spins_80 : decode cL_spins 80 = .ok (.iconst 4, 1) := by decide +kernel
theorem dL_spins_81 : decode cL_spins 81 = .ok (.invokevirtual 19, 3) := by decide +kernel
theorem dL_spins_84 : decode cL_spins 84 = .ok (.isub, 1) := by decide +kernel
theorem dL_spins_85 : decode cL_spins 85 = .ok (.sipush 360, 3) := by decide +kernel
theorem dL_spins_88 : decode cL_spins 88 = .ok (.irem, 1) := by decide +kernel
theorem dL_spins_89 : decode cL_spins 89 = .ok (.istore 8, 2) := by decide +kernel
theorem dL_spins_91 : decode cL_spins 91 = .ok (.iload 8, 2) := by decide +kernel
theorem dL_spins_93 : decode cL_spins 93 = .ok (.ifCond .ge 12, 3) := by decide +kernel
theorem dL_spins_96 : decode cL_spins 96 = .ok (.iload 8, 2) := by decide +kernel
theorem dL_spins_98 : decode cL_spins 98 = .ok (.sipush 360, 3) := by decide +kernel
theorem dL_spins_101 : decode cL_spins 101 = .ok (.iadd, 1) := by decide +kernel
theorem dL_spins_102 : decode cL_spins 102 = .ok (.goto 5, 3) := by decide +kernel
theorem dL_spins_105 : decode cL_spins 105 = .ok (.iload 8, 2) := by decide +kernel
theorem dL_spins_107 : decode cL_spins 107 = .ok (.istore 8, 2) := by decide +kernel
theorem dL_spins_109 : decode cL_spins 109 = .ok (.iload 6, 2) := by decide +kernel
theorem dL_spins_111 : decode cL_spins 111 = .ok (.iload 8, 2) := by decide +kernel
theorem dL_spins_113 : decode cL_spins 113 = .ok (.sipush 180, 3) := by decide +kernel
theorem dL_spins_116 : decode cL_spins 116 = .ok (.if_icmp .le 12, 3) := by decide +kernel
theorem dL_spins_119 : decode cL_spins 119 = .ok (.sipush 360, 3) := by decide +kernel
theorem dL_spins_122 : decode cL_spins 122 = .ok (.iload 8, 2) := by decide +kernel
theorem dL_spins_124 : decode cL_spins 124 = .ok (.isub, 1) := by decide +kernel
theorem dL_spins_125 : decode cL_spins 125 = .ok (.goto 5, 3) := by decide +kernel
theorem dL_spins_128 : decode cL_spins 128 = .ok (.iload 8, 2) := by decide +kernel
theorem dL_spins_130 : decode cL_spins 130 = .ok (.aload_n 0, 1) := by decide +kernel
theorem dL_spins_131 : decode cL_spins 131 = .ok (.iload 7, 2) := by decide +kernel
theorem dL_spins_133 : decode cL_spins 133 = .ok (.iconst 5, 1) := by decide +kernel
theorem dL_spins_134 : decode cL_spins 134 = .ok (.invokevirtual 19, 3) := by decide +kernel
theorem dL_spins_137 : decode cL_spins 137 = .ok (.if_icmp .gt 7, 3) := by decide +kernel
theorem dL_spins_140 : decode cL_spins 140 = .ok (.iconst 1, 1) := by decide +kernel
theorem dL_spins_141 : decode cL_spins 141 = .ok (.goto 4, 3) := by decide +kernel
theorem dL_spins_144 : decode cL_spins 144 = .ok (.iconst 0, 1) := by decide +kernel
theorem dL_spins_145 : decode cL_spins 145 = .ok (.iadd, 1) := by decide +kernel
theorem dL_spins_146 : decode cL_spins 146 = .ok (.istore 6, 2) := by decide +kernel
theorem dL_spins_148 : decode cL_spins 148 = .ok (.iinc 7 1, 3) := by decide +kernel
theorem dL_spins_151 : decode cL_spins 151 = .ok (.goto (-106), 3) := by decide +kernel
theorem dL_spins_154 : decode cL_spins 154 = .ok (.iload 5, 2) := by decide +kernel
theorem dL_spins_156 : decode cL_spins 156 = .ok (.iload 6, 2) := by decide +kernel
theorem dL_spins_158 : decode cL_spins 158 = .ok (.if_icmp .ne 29, 3) := by decide +kernel
theorem dL_spins_161 : decode cL_spins 161 = .ok (.aload_n 0, 1) := by decide +kernel
theorem dL_spins_162 : decode cL_spins 162 = .ok (.sipush 181, 3) := by decide +kernel
theorem dL_spins_165 : decode cL_spins 165 = .ok (.iconst 0, 1) := by decide +kernel
theorem dL_spins_166 : decode cL_spins 166 = .ok (.invokevirtual 69, 3) := by decide +kernel
theorem dL_spins_169 : decode cL_spins 169 = .ok (.bipush (-2), 2) := by decide +kernel
theorem dL_spins_171 : decode cL_spins 171 = .ok (.if_icmp .ne 16, 3) := by decide +kernel
theorem dL_spins_174 : decode cL_spins 174 = .ok (.aload_n 0, 1) := by decide +kernel
theorem dL_spins_175 : decode cL_spins 175 = .ok (.iconst 0, 1) := by decide +kernel
theorem dL_spins_176 : decode cL_spins 176 = .ok (.sipush 360, 3) := by decide +kernel
theorem dL_spins_179 : decode cL_spins 179 = .ok (.invokevirtual 69, 3) := by decide +kernel
theorem dL_spins_182 : decode cL_spins 182 = .ok (.bipush (-2), 2) := by decide +kernel
theorem dL_spins_184 : decode cL_spins 184 = .ok (.if_icmp .eq 5, 3) := by decide +kernel
theorem dL_spins_187 : decode cL_spins 187 = .ok (.iconst 0, 1) := by decide +kernel
theorem dL_spins_188 : decode cL_spins 188 = .ok (.ireturn, 1) := by decide +kernel
theorem dL_spins_189 : decode cL_spins 189 = .ok (.iload_n 2, 1) := by decide +kernel
theorem dL_spins_190 : decode cL_spins 190 = .ok (.ifCond .ne 34, 3) := by decide +kernel
theorem dL_spins_193 : decode cL_spins 193 = .ok (.aload_n 0, 1) := by decide +kernel
theorem dL_spins_194 : decode cL_spins 194 = .ok (.iconst 0, 1) := by decide +kernel
theorem dL_spins_195 : decode cL_spins 195 = .ok (.invokevirtual 72, 3) := by decide +kernel
theorem dL_spins_198 : decode cL_spins 198 = .ok (.bipush (-4), 2) := by decide +kernel
theorem dL_spins_200 : decode cL_spins 200 = .ok (.if_icmp .ne 22, 3) := by decide +kernel
theorem dL_spins_203 : decode cL_spins 203 = .ok (.aload_n 0, 1) := by decide +kernel
theorem dL_spins_204 : decode cL_spins 204 = .ok (.iconst 0, 1) := by decide +kernel
theorem dL_spins_205 : decode cL_spins 205 = .ok (.invokevirtual 75, 3) := by decide +kernel
theorem dL_spins_208 : decode cL_spins 208 = .ok (.bipush (-4), 2) := by decide +kernel
theorem dL_spins_210 : decode cL_spins 210 = .ok (.if_icmp .ne 12, 3) := by decide +kernel
theorem dL_spins_213 : decode cL_spins 213 = .ok (.iload 5, 2) := by decide +kernel
theorem dL_spins_215 : decode cL_spins 215 = .ok (.ifCond .ne 7, 3) := by decide +kernel
theorem dL_spins_218 : decode cL_spins 218 = .ok (.iconst 1, 1) := by decide +kernel
theorem dL_spins_219 : decode cL_spins 219 = .ok (.goto 4, 3) := by decide +kernel
theorem dL_spins_222 : decode cL_spins 222 = .ok (.iconst 0, 1) := by decide +kernel
theorem dL_spins_223 : decode cL_spins 223 = .ok (.ireturn, 1) := by decide +kernel
theorem dL_spins_224 : decode cL_spins 224 = .ok (.aload_n 0, 1) := by decide +kernel
theorem dL_spins_225 : decode cL_spins 225 = .ok (.iconst 0, 1) := by decide +kernel
theorem dL_spins_226 : decode cL_spins 226 = .ok (.invokevirtual 72, 3) := by decide +kernel
theorem dL_spins_229 : decode cL_spins 229 = .ok (.sipush 200, 3) := by decide +kernel
theorem dL_spins_232 : decode cL_spins 232 = .ok (.isub, 1) := by decide +kernel
theorem dL_spins_233 : decode cL_spins 233 = .ok (.istore 7, 2) := by decide +kernel
theorem dL_spins_235 : decode cL_spins 235 = .ok (.aload_n 0, 1) := by decide +kernel
theorem dL_spins_236 : decode cL_spins 236 = .ok (.iconst 1, 1) := by decide +kernel
theorem dL_spins_237 : decode cL_spins 237 = .ok (.invokevirtual 72, 3) := by decide +kernel
theorem dL_spins_240 : decode cL_spins 240 = .ok (.istore 8, 2) := by decide +kernel
theorem dL_spins_242 : decode cL_spins 242 = .ok (.aload_n 0, 1) := by decide +kernel
theorem dL_spins_243 : decode cL_spins 243 = .ok (.iconst 3, 1) := by decide +kernel
theorem dL_spins_244 : decode cL_spins 244 = .ok (.invokevirtual 72, 3) := by decide +kernel
theorem dL_spins_247 : decode cL_spins 247 = .ok (.istore 9, 2) := by decide +kernel
theorem dL_spins_249 : decode cL_spins 249 = .ok (.iload 8, 2) := by decide +kernel
theorem dL_spins_251 : decode cL_spins 251 = .ok (.iload 7, 2) := by decide +kernel
theorem dL_spins_253 : decode cL_spins 253 = .ok (.bipush 40, 2) := by decide +kernel
theorem dL_spins_255 : decode cL_spins 255 = .ok (.imul, 1) := by decide +kernel
theorem dL_spins_256 : decode cL_spins 256 = .ok (.iadd, 1) := by decide +kernel
theorem dL_spins_257 : decode cL_spins 257 = .ok (.sipush 360, 3) := by decide +kernel
theorem dL_spins_260 : decode cL_spins 260 = .ok (.irem, 1) := by decide +kernel
theorem dL_spins_261 : decode cL_spins 261 = .ok (.istore 10, 2) := by decide +kernel
theorem dL_spins_263 : decode cL_spins 263 = .ok (.aload_n 0, 1) := by decide +kernel
theorem dL_spins_264 : decode cL_spins 264 = .ok (.iconst 2, 1) := by decide +kernel
theorem dL_spins_265 : decode cL_spins 265 = .ok (.invokevirtual 72, 3) := by decide +kernel
theorem dL_spins_268 : decode cL_spins 268 = .ok (.iload 9, 2) := by decide +kernel
theorem dL_spins_270 : decode cL_spins 270 = .ok (.invokestatic 46, 3) := by decide +kernel
theorem dL_spins_273 : decode cL_spins 273 = .ok (.if_icmp .ne 75, 3) := by decide +kernel
theorem dL_spins_276 : decode cL_spins 276 = .ok (.aload_n 0, 1) := by decide +kernel
theorem dL_spins_277 : decode cL_spins 277 = .ok (.iload 7, 2) := by decide +kernel
theorem dL_spins_279 : decode cL_spins 279 = .ok (.iload 8, 2) := by decide +kernel
theorem dL_spins_281 : decode cL_spins 281 = .ok (.invokevirtual 69, 3) := by decide +kernel
theorem dL_spins_284 : decode cL_spins 284 = .ok (.iload 9, 2) := by decide +kernel
theorem dL_spins_286 : decode cL_spins 286 = .ok (.invokestatic 46, 3) := by decide +kernel
theorem dL_spins_289 : decode cL_spins 289 = .ok (.if_icmp .ne 59, 3) := by decide +kernel
theorem dL_spins_292 : decode cL_spins 292 = .ok (.iload 9, 2) := by decide +kernel
theorem dL_spins_294 : decode cL_spins 294 = .ok (.invokestatic 46, 3) := by decide +kernel
theorem dL_spins_297 : decode cL_spins 297 = .ok (.iload 5, 2) := by decide +kernel
theorem dL_spins_299 : decode cL_spins 299 = .ok (.if_icmp .lt 49, 3) := by decide +kernel
theorem dL_spins_302 : decode cL_spins 302 = .ok (.iload 9, 2) := by decide +kernel
theorem dL_spins_304 : decode cL_spins 304 = .ok (.invokestatic 46, 3) := by decide +kernel
theorem dL_spins_307 : decode cL_spins 307 = .ok (.ifCond .le 41, 3) := by decide +kernel
theorem dL_spins_310 : decode cL_spins 310 = .ok (.iload 9, 2) := by decide +kernel
theorem dL_spins_312 : decode cL_spins 312 = .ok (.iload_n 2, 1) := by decide +kernel
theorem dL_spins_313 : decode cL_spins 313 = .ok (.iconst (-1), 1) := by decide +kernel
theorem dL_spins_314 : decode cL_spins 314 = .ok (.ixor, 1) := by decide +kernel
theorem dL_spins_315 : decode cL_spins 315 = .ok (.iand, 1) := by decide +kernel
theorem dL_spins_316 : decode cL_spins 316 = .ok (.ifCond .ne 32, 3) := by decide +kernel
theorem dL_spins_319 : decode cL_spins 319 = .ok (.aload_n 0, 1) := by decide +kernel
theorem dL_spins_320 : decode cL_spins 320 = .ok (.bipush 40, 2) := by decide +kernel
theorem dL_spins_322 : decode cL_spins 322 = .ok (.invokevirtual 75, 3) := by decide +kernel
theorem dL_spins_325 : decode cL_spins 325 = .ok (.iload 10, 2) := by decide +kernel
theorem dL_spins_327 : decode cL_spins 327 = .ok (.ifCond .ge 12, 3) := by decide +kernel
theorem dL_spins_330 : decode cL_spins 330 = .ok (.iload 10, 2) := by decide +kernel
theorem dL_spins_332 : decode cL_spins 332 = .ok (.sipush 360, 3) := by decide +kernel
theorem dL_spins_335 : decode cL_spins 335 = .ok (.iadd, 1) := by decide +kernel
theorem dL_spins_336 : decode cL_spins 336 = .ok (.goto 5, 3) := by decide +kernel
theorem dL_spins_339 : decode cL_spins 339 = .ok (.iload 10, 2) := by decide +kernel
theorem dL_spins_341 : decode cL_spins 341 = .ok (.if_icmp .ne 7, 3) := by decide +kernel
theorem dL_spins_344 : decode cL_spins 344 = .ok (.iconst 1, 1) := by decide +kernel
theorem dL_spins_345 : decode cL_spins 345 = .ok (.goto 4, 3) := by decide +kernel
theorem dL_spins_348 : decode cL_spins 348 = .ok (.iconst 0, 1) := by decide +kernel
theorem dL_spins_349 : decode cL_spins 349 = .ok (.ireturn, 1) := by decide +kernel
set_option maxRecDepth 20000 in
theorem ggL_acts_X6_count : GoodIn wsL_acts wsX6_count := goodIn_r _ [5, 6, 7, 8, 9, 10, 11, 12, 13, 14, 15, 16, 17, 18, 19, 20, 21, 22, 23, 24, 25, 26, 27, 28, 29, 30, 31, 32, 33, 34, 35, 36, 37, 38, 39, 40, 41, 42, 43, 44, 45, 46, 47, 48, 49, 50, 51, 52, 53, 54, 55, 56, 57, 58, 59, 60, 61, 62, 63, 64, 65, 66, 67, 68, 69, 70, 71, 72, 73, 74, 75, 76, 77, 78, 79, 80, 81, 82, 83, 84, 85, 86, 87, 4, 88, 89, 90, 91, 92, 93, 94, 95, 96, 97, 98, 99, 100, 101, 102, 103, 104, 255, 256, 257, 258, 259, 260, 261, 262, 263, 264, 265, 266, 267, 268, 269, 270, 271, 272, 273, 274, 275, 276, 277, 278, 279] (by decide +kernel) (by decide +kernel)
set_option maxRecDepth 20000 in
theorem gL_acts_X6_count : GoodIn wsL_acts (wsV RL 11 RX6 yX6_count wsX6_count) := goodIn_app (goodIn_of _ (by decide +kernel)) ggL_acts_X6_count
set_option maxRecDepth 20000 in
theorem ggL_acts_L_low : GoodIn wsL_acts wsL_low := goodIn_r _ [108, 109] (by decide +kernel) (by decide +kernel)
set_option maxRecDepth 20000 in
theorem gL_acts_L_low : GoodIn wsL_acts (va_wsS RL 66 yL_low wsL_low) := goodIn_app (goodIn_of _ (by decide +kernel)) ggL_acts_L_low
set_option maxRecDepth 20000 in
theorem ggL_acts_X6_photo : GoodIn wsL_acts wsX6_photo := goodIn_r _ [113, 6, 114, 115, 116, 117, 118, 119, 16, 120, 18, 121, 122, 4, 123, 124, 33, 34, 35, 23, 125, 29, 30, 31, 19, 20, 21, 22, 32, 126, 127, 128, 129, 130, 131, 132, 133, 134, 135, 25, 26, 27, 28, 136, 137, 138, 139, 140, 141, 142, 143, 144, 145, 146, 147, 148, 149, 150, 151, 152, 153, 154, 155, 156, 81, 157, 158, 159, 160, 161, 162, 163, 164, 165, 166, 167, 168, 94, 95, 96, 97, 98, 99, 169, 87, 88, 255, 256, 257, 258, 259, 260, 261, 262, 263, 264, 265, 280, 281, 282, 283] (by decide +kernel) (by decide +kernel)
set_option maxRecDepth 20000 in
theorem gL_acts_X6_photo : GoodIn wsL_acts (wsV RL 19 RX6 yX6_photo wsX6_photo) := goodIn_app (goodIn_of _ (by decide +kernel)) ggL_acts_X6_photo
set_option maxRecDepth 20000 in
theorem ggL_acts_X6_addPhoto : GoodIn wsL_acts wsX6_addPhoto := goodIn_r _ [173, 174, 175, 176, 177, 4, 178, 121, 122, 123, 179, 180, 181, 182, 6, 7, 114, 9, 183, 184, 185, 16, 186, 18, 23, 187, 188, 189, 190, 191, 192, 193, 194, 195, 196, 197, 198, 199, 200, 201, 202, 203, 204, 205, 206, 207, 208, 209, 255, 256, 257, 258, 259, 260, 261, 262, 263, 264, 265, 266, 267] (by decide +kernel) (by decide +kernel)
set_option maxRecDepth 20000 in
theorem gL_acts_X6_addPhoto : GoodIn wsL_acts (wsV RL 78 RX6 yX6_addPhoto wsX6_addPhoto) := goodIn_app (goodIn_of _ (by decide +kernel)) ggL_acts_X6_addPhoto
set_option maxRecDepth 20000 in
theorem ggL_acts_X6_move : GoodIn wsL_acts wsX6_move := goodIn_r _ [213, 6, 114, 9, 117, 118, 119, 16, 120, 18, 121, 122, 4, 123, 187, 188, 189, 190, 191, 192, 193, 194, 195, 196, 197, 198, 199, 200, 201, 23, 202, 203, 204, 205, 214, 215, 216, 217, 218, 13, 14, 15, 17, 19, 20, 21, 22, 219, 61, 62, 63, 64, 65, 66, 67, 68, 69, 70, 71, 72, 73, 74, 75, 76, 77, 78, 79, 80, 81, 82, 83, 84, 85, 86, 87, 88, 89, 90, 91, 92, 93, 94, 95, 96, 97, 98, 99, 100, 101, 102, 103, 220, 221, 255, 256, 257, 258, 259, 260, 261, 262, 263, 264, 265, 266, 267, 276, 277, 278, 279] (by decide +kernel) (by decide +kernel)
set_option maxRecDepth 20000 in
theorem gL_acts_X6_move : GoodIn wsL_acts (wsV RL 82 RX6 yX6_move wsX6_move) := goodIn_app (goodIn_of _ (by decide +kernel)) ggL_acts_X6_move
set_option maxRecDepth 20000 in
theorem ggL_acts_X6_remove : GoodIn wsL_acts wsX6_remove := goodIn_r _ [225, 6, 9, 7, 117, 118, 119, 16, 120, 18, 187, 188, 189, 190, 191, 192, 193, 194, 195, 196, 197, 198, 199, 200, 201, 23, 202, 203, 204, 205, 226, 227, 228, 229, 230, 255, 256, 257, 258, 259, 260, 261, 262, 263, 264, 265, 266, 267] (by decide +kernel) (by decide +kernel)
set_option maxRecDepth 20000 in
theorem gL_acts_X6_remove : GoodIn wsL_acts (wsV RL 85 RX6 yX6_remove wsX6_remove) := goodIn_app (goodIn_of _ (by decide +kernel)) ggL_acts_X6_remove
set_option maxRecDepth 20000 in
theorem ggL_acts_X6_setAngle : GoodIn wsL_acts wsX6_setAngle := goodIn_r _ [234, 6, 114, 9, 117, 118, 119, 16, 120, 18, 121, 122, 4, 123, 187, 188, 189, 190, 191, 192, 193, 194, 195, 196, 197, 198, 199, 200, 201, 23, 202, 203, 204, 205, 255, 256, 257, 258, 259, 260, 261, 262, 263, 264, 265, 266, 267] (by decide +kernel) (by decide +kernel)
set_option maxRecDepth 20000 in
theorem gL_acts_X6_setAngle : GoodIn wsL_acts (wsV RL 88 RX6 yX6_setAngle wsX6_setAngle) := goodIn_app (goodIn_of _ (by decide +kernel)) ggL_acts_X6_setAngle
set_option maxRecDepth 20000 in
theorem ggL_acts_X6_setAside : GoodIn wsL_acts wsX6_setAside := goodIn_r _ [238, 6, 9, 114, 117, 118, 119, 16, 120, 18, 239, 20, 21, 22, 23, 187, 188, 189, 190, 191, 192, 193, 194, 195, 196, 197, 198, 199, 200, 201, 202, 203, 204, 205, 13, 14, 15, 17, 19, 221, 94, 95, 96, 97, 98, 99, 255, 256, 257, 258, 259, 260, 261, 262, 263, 264, 265, 266, 267] (by decide +kernel) (by decide +kernel)
set_option maxRecDepth 20000 in
theorem gL_acts_X6_setAside : GoodIn wsL_acts (wsV RL 91 RX6 yX6_setAside wsX6_setAside) := goodIn_app (goodIn_of _ (by decide +kernel)) ggL_acts_X6_setAside
set_option maxRecDepth 20000 in
theorem ggL_acts_X6_best : GoodIn wsL_acts wsX6_best := goodIn_r _ [243, 6, 218, 121, 122, 4, 123, 13, 14, 15, 16, 17, 18, 19, 20, 21, 22, 23, 219, 61, 62, 63, 64, 65, 66, 67, 68, 69, 70, 71, 72, 73, 74, 75, 76, 77, 78, 79, 80, 81, 82, 83, 84, 85, 86, 87, 88, 89, 90, 91, 92, 93, 94, 95, 96, 97, 98, 99, 100, 101, 102, 103, 220, 221, 244, 245, 246, 247, 255, 256, 257, 258, 259, 260, 261, 262, 263, 264, 265, 276, 277, 278, 279] (by decide +kernel) (by decide +kernel)
set_option maxRecDepth 20000 in
theorem gL_acts_X6_best : GoodIn wsL_acts (wsV RL 49 RX6 yX6_best wsX6_best) := goodIn_app (goodIn_of _ (by decide +kernel)) ggL_acts_X6_best
set_option maxRecDepth 20000 in
theorem ggL_acts_L_bits : GoodIn wsL_acts wsL_bits := goodIn_r _ [250] (by decide +kernel) (by decide +kernel)
set_option maxRecDepth 20000 in
theorem gL_acts_L_bits : GoodIn wsL_acts (va_wsS RL 46 yL_bits wsL_bits) := goodIn_app (goodIn_of _ (by decide +kernel)) ggL_acts_L_bits
set_option maxRecDepth 20000 in
theorem ggL_acts_X6_dropMissed : GoodIn wsL_acts wsX6_dropMissed := goodIn_r _ [254, 6, 218, 9, 7, 114, 13, 14, 15, 16, 17, 18, 19, 20, 21, 22, 23, 219, 61, 62, 63, 64, 65, 66, 67, 68, 69, 70, 71, 72, 73, 74, 75, 76, 77, 78, 79, 80, 81, 82, 83, 84, 85, 86, 87, 4, 88, 89, 90, 91, 92, 93, 94, 95, 96, 97, 98, 99, 100, 101, 102, 103, 220, 187, 188, 189, 190, 191, 192, 193, 194, 195, 196, 197, 198, 199, 200, 201, 202, 203, 204, 205, 169, 221, 255, 256, 257, 258, 259, 260, 261, 262, 263, 264, 265, 276, 277, 278, 279, 266, 267] (by decide +kernel) (by decide +kernel)
set_option maxRecDepth 20000 in
theorem gL_acts_X6_dropMissed : GoodIn wsL_acts (wsV RL 60 RX6 yX6_dropMissed wsX6_dropMissed) := goodIn_app (goodIn_of _ (by decide +kernel)) ggL_acts_X6_dropMissed
