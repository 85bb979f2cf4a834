theorem dX7_isPhoto_0 : decode cX7_isPhoto 0 = .ok (.iload_n 0, 1) := by decide +kernel
theorem dX7_isPhoto_1 : decode cX7_isPhoto 1 = .ok (.iconst 0, 1) := by decide +kernel
theorem dX7_isPhoto_2 : decode cX7_isPhoto 2 = .ok (.bipush 99, 2) := by decide +kernel
theorem dX7_isPhoto_4 : decode cX7_isPhoto 4 = .ok (.invokestatic 38, 3) := by decide +kernel
theorem dX7_isPhoto_7 : decode cX7_isPhoto 7 = .ok (.ifCond .eq 43, 3) := by decide +kernel
theorem dX7_isPhoto_10 : decode cX7_isPhoto 10 = .ok (.iload_n 1, 1) := by decide +kernel
theorem dX7_isPhoto_11 : decode cX7_isPhoto 11 = .ok (.sipush (-400), 3) := by decide +kernel
theorem dX7_isPhoto_14 : decode cX7_isPhoto 14 = .ok (.sipush 400, 3) := by decide +kernel
theorem dX7_isPhoto_17 : decode cX7_isPhoto 17 = .ok (.invokestatic 38, 3) := by decide +kernel
theorem dX7_isPhoto_20 : decode cX7_isPhoto 20 = .ok (.ifCond .eq 30, 3) := by decide +kernel
theorem dX7_isPhoto_23 : decode cX7_isPhoto 23 = .ok (.iload_n 2, 1) := by decide +kernel
theorem dX7_isPhoto_24 : decode cX7_isPhoto 24 = .ok (.sipush (-400), 3) := by decide +kernel
theorem dX7_isPhoto_27 : decode cX7_isPhoto 27 = .ok (.sipush 400, 3) := by decide +kernel
theorem dX7_isPhoto_30 : decode cX7_isPhoto 30 = .ok (.invokestatic 38, 3) := by decide +kernel
theorem dX7_isPhoto_33 : decode cX7_isPhoto 33 = .ok (.ifCond .eq 17, 3) := by decide +kernel
theorem dX7_isPhoto_36 : decode cX7_isPhoto 36 = .ok (.iload_n 3, 1) := by decide +kernel
theorem dX7_isPhoto_37 : decode cX7_isPhoto 37 = .ok (.iconst 0, 1) := by decide +kernel
theorem dX7_isPhoto_38 : decode cX7_isPhoto 38 = .ok (.bipush 40, 2) := by decide +kernel
theorem dX7_isPhoto_40 : decode cX7_isPhoto 40 = .ok (.invokestatic 38, 3) := by decide +kernel
theorem dX7_isPhoto_43 : decode cX7_isPhoto 43 = .ok (.ifCond .eq 7, 3) := by decide +kernel
theorem dX7_isPhoto_46 : decode cX7_isPhoto 46 = .ok (.iconst 1, 1) := by decide +kernel
theorem dX7_isPhoto_47 : decode cX7_isPhoto 47 = .ok (.goto 4, 3) := by decide +kernel
theorem dX7_isPhoto_50 : decode cX7_isPhoto 50 = .ok (.iconst 0, 1) := by decide +kernel
theorem dX7_isPhoto_51 : decode cX7_isPhoto 51 = .ok (.ireturn, 1) := by decide +kernel
set_option maxRecDepth 20000 in
theorem ggX7_isThere_X7_of : GoodIn wsX7_isThere wsX7_of := goodIn_r _ [6, 1, 7, 8, 9, 10, 11, 12, 13, 14, 15, 16, 17, 18, 19, 20, 21, 22, 23, 24, 25] (by decide +kernel) (by decide +kernel)
set_option maxRecDepth 20000 in
theorem gX7_isThere_X7_of : GoodIn wsX7_isThere (wsV RX7 42 RX7 yX7_of wsX7_of) := goodIn_app (goodIn_of _ (by decide +kernel)) ggX7_isThere_X7_of
theorem dX7_isThere_0 : decode cX7_isThere 0 = .ok (.iconst 0, 1) := by decide +kernel
theorem dX7_isThere_1 : decode cX7_isThere 1 = .ok (.istore_n 2, 1) := by decide +kernel
theorem dX7_isThere_2 : decode cX7_isThere 2 = .ok (.iconst 0, 1) := by decide +kernel
theorem dX7_isThere_3 : decode cX7_isThere 3 = .ok (.istore_n 3, 1) := by decide +kernel
theorem dX7_isThere_4 : decode cX7_isThere 4 = .ok (.iload_n 3, 1) := by decide +kernel
theorem dX7_isThere_5 : decode cX7_isThere 5 = .ok (.aload_n 0, 1) := by decide +kernel
theorem dX7_isThere_6 : decode cX7_isThere 6 = .ok (.getfield 7, 3) := by decide +kernel
theorem dX7_isThere_9 : decode cX7_isThere 9 = .ok (.bipush 70, 2) := by decide +kernel
theorem dX7_isThere_11 : decode cX7_isThere 11 = .ok (.iaload, 1) := by decide +kernel
theorem dX7_isThere_12 : decode cX7_isThere 12 = .ok (.if_icmp .ge 27, 3) := by decide +kernel
theorem dX7_isThere_15 : decode cX7_isThere 15 = .ok (.iload_n 2, 1) := by decide +kernel
theorem dX7_isThere_16 : decode cX7_isThere 16 = .ok (.aload_n 0, 1) := by decide +kernel
theorem dX7_isThere_17 : decode cX7_isThere 17 = .ok (.iload_n 3, 1) := by decide +kernel
theorem dX7_isThere_18 : decode cX7_isThere 18 = .ok (.iconst 0, 1) := by decide +kernel
theorem dX7_isThere_19 : decode cX7_isThere 19 = .ok (.invokevirtual 42, 3) := by decide +kernel
theorem dX7_isThere_22 : decode cX7_isThere 22 = .ok (.iload_n 1, 1) := by decide +kernel
theorem dX7_isThere_23 : decode cX7_isThere 23 = .ok (.if_icmp .ne 7, 3) := by decide +kernel
theorem dX7_isThere_26 : decode cX7_isThere 26 = .ok (.iconst 1, 1) := by decide +kernel
theorem dX7_isThere_27 : decode cX7_isThere 27 = .ok (.goto 4, 3) := by decide +kernel
theorem dX7_isThere_30 : decode cX7_isThere 30 = .ok (.iconst 0, 1) := by decide +kernel
theorem dX7_isThere_31 : decode cX7_isThere 31 = .ok (.ior, 1) := by decide +kernel
theorem dX7_isThere_32 : decode cX7_isThere 32 = .ok (.istore_n 2, 1) := by decide +kernel
theorem dX7_isThere_33 : decode cX7_isThere 33 = .ok (.iinc 3 1, 3) := by decide +kernel
theorem dX7_isThere_36 : decode cX7_isThere 36 = .ok (.goto (-32), 3) := by decide +kernel
theorem dX7_isThere_39 : decode cX7_isThere 39 = .ok (.iload_n 2, 1) := by decide +kernel
theorem dX7_isThere_40 : decode cX7_isThere 40 = .ok (.ireturn, 1) := by decide +kernel
set_option maxRecDepth 20000 in
theorem ggX7_comes_X7_isThere : GoodIn wsX7_comes wsX7_isThere := goodIn_r _ [6, 1, 7, 8, 9, 5, 10, 17, 18, 19, 20, 21, 22, 23, 24, 25, 26, 27, 28, 29, 30, 31, 32, 33, 34, 35] (by decide +kernel) (by decide +kernel)
set_option maxRecDepth 20000 in
theorem gX7_comes_X7_isThere : GoodIn wsX7_comes (wsV RX7 130 RX7 yX7_isThere wsX7_isThere) := goodIn_app (goodIn_of _ (by decide +kernel)) ggX7_comes_X7_isThere
set_option maxRecDepth 20000 in
theorem ggX7_comes_X7_record : GoodIn wsX7_comes wsX7_record := goodIn_r _ [14, 15, 16, 1, 17, 18, 19, 20, 21, 22, 23, 24, 25, 26, 27, 28, 29, 30, 31, 32, 33, 34, 35] (by decide +kernel) (by decide +kernel)
set_option maxRecDepth 20000 in
theorem gX7_comes_X7_record : GoodIn wsX7_comes (wsV RX7 133 RX7 yX7_record wsX7_record) := goodIn_app (goodIn_of _ (by decide +kernel)) ggX7_comes_X7_record
set_option maxRecDepth 20000 in
theorem ggX7_comes_X7_of : GoodIn wsX7_comes wsX7_of := goodIn_r _ [10, 1, 17, 18, 19, 20, 21, 22, 23, 24, 25, 26, 27, 28, 29, 30, 31, 32, 33, 34, 35] (by decide +kernel) (by decide +kernel)
set_option maxRecDepth 20000 in
theorem gX7_comes_X7_of : GoodIn wsX7_comes (wsV RX7 42 RX7 yX7_of wsX7_of) := goodIn_app (goodIn_of _ (by decide +kernel)) ggX7_comes_X7_of
theorem dX7_comes_0 : decode cX7_comes 0 = .ok (.aload_n 0, 1) := by decide +kernel
theorem dX7_comes_1 : decode cX7_comes 1 = .ok (.iload_n 1, 1) := by decide +kernel
theorem dX7_comes_2 : decode cX7_comes 2 = .ok (.invokevirtual 130, 3) := by decide +kernel
theorem dX7_comes_5 : decode cX7_comes 5 = .ok (.ifCond .eq 6, 3) := by decide +kernel
theorem dX7_comes_8 : decode cX7_comes 8 = .ok (.bipush (-4), 2) := by decide +kernel
theorem dX7_comes_10 : decode cX7_comes 10 = .ok (.ireturn, 1) := by decide +kernel
theorem dX7_comes_11 : decode cX7_comes 11 = .ok (.aload_n 0, 1) := by decide +kernel
theorem dX7_comes_12 : decode cX7_comes 12 = .ok (.getfield 7, 3) := by decide +kernel
theorem dX7_comes_15 : decode cX7_comes 15 = .ok (.bipush 70, 2) := by decide +kernel
theorem dX7_comes_17 : decode cX7_comes 17 = .ok (.iaload, 1) := by decide +kernel
theorem dX7_comes_18 : decode cX7_comes 18 = .ok (.bipush 10, 2) := by decide +kernel
theorem dX7_comes_20 : decode cX7_comes 20 = .ok (.if_icmp .ne 6, 3) := by decide +kernel
theorem dX7_comes_23 : decode cX7_comes 23 = .ok (.bipush (-3), 2) := by decide +kernel
theorem dX7_comes_25 : decode cX7_comes 25 = .ok (.ireturn, 1) := by decide +kernel
theorem dX7_comes_26 : decode cX7_comes 26 = .ok (.aload_n 0, 1) := by decide +kernel
theorem dX7_comes_27 : decode cX7_comes 27 = .ok (.invokevirtual 133, 3) := by decide +kernel
theorem dX7_comes_30 : decode cX7_comes 30 = .ok (.aload_n 0, 1) := by decide +kernel
theorem dX7_comes_31 : decode cX7_comes 31 = .ok (.getfield 7, 3) := by decide +kernel
theorem dX7_comes_34 : decode cX7_comes 34 = .ok (.bipush 70, 2) := by decide +kernel
theorem dX7_comes_36 : decode cX7_comes 36 = .ok (.iaload, 1) := by decide +kernel
theorem dX7_comes_37 : decode cX7_comes 37 = .ok (.istore 7, 2) := by decide +kernel
theorem dX7_comes_39 : decode cX7_comes 39 = .ok (.iload 7, 2) := by decide +kernel
theorem dX7_comes_41 : decode cX7_comes 41 = .ok (.ifCond .le 61, 3) := by decide +kernel
theorem dX7_comes_44 : decode cX7_comes 44 = .ok (.aload_n 0, 1) := by decide +kernel
theorem dX7_comes_45 : decode cX7_comes 45 = .ok (.iload 7, 2) := by decide +kernel
theorem dX7_comes_47 : decode cX7_comes 47 = .ok (.iconst 1, 1) := by decide +kernel
theorem dX7_comes_48 : decode cX7_comes 48 = .ok (.isub, 1) := by decide +kernel
theorem dX7_comes_49 : decode cX7_comes 49 = .ok (.iconst 0, 1) := by decide +kernel
theorem dX7_comes_50 : decode cX7_comes 50 = .ok (.invokevirtual 42, 3) := by decide +kernel
theorem dX7_comes_53 : decode cX7_comes 53 = .ok (.iload_n 1, 1) := by decide +kernel
theorem dX7_comes_54 : decode cX7_comes 54 = .ok (.if_icmp .le 48, 3) := by decide +kernel
theorem dX7_comes_57 : decode cX7_comes 57 = .ok (.iconst 0, 1) := by decide +kernel
theorem dX7_comes_58 : decode cX7_comes 58 = .ok (.istore 8, 2) := by decide +kernel
theorem dX7_comes_60 : decode cX7_comes 60 = .ok (.iload 8, 2) := by decide +kernel
theorem dX7_comes_62 : decode cX7_comes 62 = .ok (.bipush 7, 2) := by decide +kernel
theorem dX7_comes_64 : decode cX7_comes 64 = .ok (.if_icmp .ge 32, 3) := by decide +kernel
theorem dX7_comes_67 : decode cX7_comes 67 = .ok (.aload_n 0, 1) := by decide +kernel
theorem dX7_comes_68 : decode cX7_comes 68 = .ok (.getfield 7, 3) := by decide +kernel
theorem dX7_comes_71 : decode cX7_comes 71 = .ok (.bipush 7, 2) := by decide +kernel
theorem dX7_comes_73 : decode cX7_comes 73 = .ok (.iload 7, 2) := by decide +kernel
theorem dX7_comes_75 : decode cX7_comes 75 = .ok (.imul, 1) := by decide +kernel
theorem dX7_comes_76 : decode cX7_comes 76 = .ok (.iload 8, 2) := by decide +kernel
theorem dX7_comes_78 : decode cX7_comes 78 = .ok (.iadd, 1) := by decide +kernel
theorem dX7_comes_79 : decode cX7_comes 79 = .ok (.aload_n 0, 1) := by decide +kernel
theorem dX7_comes_80 : decode cX7_comes 80 = .ok (.iload 7, 2) := by decide +kernel
theorem dX7_comes_82 : decode cX7_comes 82 = .ok (.iconst 1, 1) := by decide +kernel
theorem dX7_comes_83 : decode cX7_comes 83 = .ok (.isub, 1) := by decide +kernel
theorem dX7_comes_84 : decode cX7_comes 84 = .ok (.iload 8, 2) := by decide +kernel
theorem dX7_comes_86 : decode cX7_comes 86 = .ok (.invokevirtual 42, 3) := by decide +kernel
theorem dX7_comes_89 : decode cX7_comes 89 = .ok (.iastore, 1) := by decide +kernel
theorem dX7_comes_90 : decode cX7_comes 90 = .ok (.iinc 8 1, 3) := by decide +kernel
theorem dX7_comes_93 : decode cX7_comes 93 = .ok (.goto (-33), 3) := by decide +kernel
theorem dX7_comes_96 : decode cX7_comes 96 = .ok (.iinc 7 (-1), 3) := by decide +kernel
theorem dX7_comes_99 : decode cX7_comes 99 = .ok (.goto (-60), 3) := by decide +kernel
theorem dX7_comes_102 : decode cX7_comes 102 = .ok (.bipush 7, 2) := by decide +kernel
theorem dX7_comes_104 : decode cX7_comes 104 = .ok (.iload 7, 2) := by decide +kernel
theorem dX7_comes_106 : decode cX7_comes 106 = .ok (.imul, 1) := by decide +kernel
theorem dX7_comes_107 : decode cX7_comes 107 = .ok (.istore 8, 2) := by decide +kernel
theorem dX7_comes_109 : decode cX7_comes 109 = .ok (.aload_n 0, 1) := by decide +kernel
theorem dX7_comes_110 : decode cX7_comes 110 = .ok (.getfield 7, 3) := by decide +kernel
theorem dX7_comes_113 : decode cX7_comes 113 = .ok (.iload 8, 2) := by decide +kernel
theorem dX7_comes_115 : decode cX7_comes 115 = .ok (.iload_n 1, 1) := by decide +kernel
theorem dX7_comes_116 : decode cX7_comes 116 = .ok (.iastore, 1) := by decide +kernel
theorem dX7_comes_117 : decode cX7_comes 117 = .ok (.aload_n 0, 1) := by decide +kernel
theorem dX7_comes_118 : decode cX7_comes 118 = .ok (.getfield 7, 3) := by decide +kernel
theorem dX7_comes_121 : decode cX7_comes 121 = .ok (.iload 8, 2) := by decide +kernel
theorem dX7_comes_123 : decode cX7_comes 123 = .ok (.iconst 1, 1) := by decide +kernel
theorem dX7_comes_124 : decode cX7_comes 124 = .ok (.iadd, 1) := by decide +kernel
theorem dX7_comes_125 : decode cX7_comes 125 = .ok (.iload_n 2, 1) := by decide +kernel
theorem dX7_comes_126 : decode cX7_comes 126 = .ok (.iastore, 1) := by decide +kernel
theorem dX7_comes_127 : decode cX7_comes 127 = .ok (.aload_n 0, 1) := by decide +kernel
theorem dX7_comes_128 : decode cX7_comes 128 = .ok (.getfield 7, 3) := by decide +kernel
theorem dX7_comes_131 : decode cX7_comes 131 = .ok (.iload 8, 2) := by decide +kernel
theorem dX7_comes_133 : decode cX7_comes 133 = .ok (.iconst 2, 1) := by decide +kernel
theorem dX7_comes_134 : decode cX7_comes 134 = .ok (.iadd, 1) := by decide +kernel
theorem dX7_comes_135 : decode cX7_comes 135 = .ok (.iload_n 3, 1) := by decide +kernel
theorem dX7_comes_136 : decode cX7_comes 136 = .ok (.iastore, 1) := by decide +kernel
theorem dX7_comes_137 : decode cX7_comes 137 = .ok (.aload_n 0, 1) := by decide +kernel
theorem dX7_comes_138 : decode cX7_comes 138 = .ok (.getfield 7, 3) := by decide +kernel
theorem dX7_comes_141 : decode cX7_comes 141 = .ok (.iload 8, 2) := by decide +kernel
theorem dX7_comes_143 : decode cX7_comes 143 = .ok (.iconst 3, 1) := by decide +kernel
theorem dX7_comes_144 : decode cX7_comes 144 = .ok (.iadd, 1) := by decide +kernel
theorem dX7_comes_145 : decode cX7_comes 145 = .ok (.iload 4, 2) := by decide +kernel
theorem dX7_comes_147 : decode cX7_comes 147 = .ok (.iastore, 1) := by decide +kernel
theorem dX7_comes_148 : decode cX7_comes 148 = .ok (.aload_n 0, 1) := by decide +kernel
theorem dX7_comes_149 : decode cX7_comes 149 = .ok (.getfield 7, 3) := by decide +kernel
theorem dX7_comes_152 : decode cX7_comes 152 = .ok (.iload 8, 2) := by decide +kernel
theorem dX7_comes_154 : decode cX7_comes 154 = .ok (.iconst 4, 1) := by decide +kernel
theorem dX7_comes_155 : decode cX7_comes 155 = .ok (.iadd, 1) := by decide +kernel
theorem dX7_comes_156 : decode cX7_comes 156 = .ok (.iload 5, 2) := by decide +kernel
theorem dX7_comes_158 : decode cX7_comes 158 = .ok (.iastore, 1) := by decide +kernel
theorem dX7_comes_159 : decode cX7_comes 159 = .ok (.aload_n 0, 1) := by decide +kernel
theorem dX7_comes_160 : decode cX7_comes 160 = .ok (.getfield 7, 3) := by decide +kernel
theorem dX7_comes_163 : decode cX7_comes 163 = .ok (.iload 8, 2) := by decide +kernel
theorem dX7_comes_165 : decode cX7_comes 165 = .ok (.iconst 5, 1) := by decide +kernel
theorem dX7_comes_166 : decode cX7_comes 166 = .ok (.iadd, 1) := by decide +kernel
theorem dX7_comes_167 : decode cX7_comes 167 = .ok (.iload 6, 2) := by decide +kernel
theorem dX7_comes_169 : decode cX7_comes 169 = .ok (.iastore, 1) := by decide +kernel
theorem dX7_comes_170 : decode cX7_comes 170 = .ok (.aload_n 0, 1) := by decide +kernel
theorem dX7_comes_171 : decode cX7_comes 171 = .ok (.getfield 7, 3) := by decide +kernel
theorem dX7_comes_174 : decode cX7_comes 174 = .ok (.iload 8, 2) := by decide +kernel
theorem dX7_comes_176 : decode cX7_comes 176 = .ok (.bipush 6, 2) := by decide +kernel
theorem dX7_comes_178 : decode cX7_comes 178 = .ok (.iadd, 1) := by decide +kernel
theorem dX7_comes_179 : decode cX7_comes 179 = .ok (.iconst 0, 1) := by decide +kernel
theorem dX7_comes_180 : decode cX7_comes 180 = .ok (.iastore, 1) := by decide +kernel
theorem dX7_comes_181 : decode cX7_comes 181 = .ok (.aload_n 0, 1) := by decide +kernel
theorem dX7_comes_182 : decode cX7_comes 182 = .ok (.getfield 7, 3) := by decide +kernel
theorem dX7_comes_185 : decode cX7_comes 185 = .ok (.bipush 70, 2) := by decide +kernel
theorem dX7_comes_187 : decode cX7_comes 187 = .ok (.dup2, 1) := by decide +kernel
theorem dX7_comes_188 : decode cX7_comes 188 = .ok (.iaload, 1) := by decide +kernel
theorem dX7_comes_189 : decode cX7_comes 189 = .ok (.iconst 1, 1) := by decide +kernel
theorem dX7_comes_190 : decode cX7_comes 190 = .ok (.iadd, 1) := by decide +kernel
theorem dX7_comes_191 : decode cX7_comes 191 = .ok (.iastore, 1) := by decide +kernel
theorem dX7_comes_192 : decode cX7_comes 192 = .ok (.iload 7, 2) := by decide +kernel
theorem dX7_comes_194 : decode cX7_comes 194 = .ok (.ireturn, 1) := by decide +kernel
set_option maxRecDepth 20000 in
theorem ggX7_addPhoto_X7_isPhoto : GoodIn wsX7_addPhoto wsX7_isPhoto := goodIn_r _ [4, 5, 6, 3, 7] (by decide +kernel) (by decide +kernel)
set_option maxRecDepth 20000 in
theorem gX7_addPhoto_X7_isPhoto : GoodIn wsX7_addPhoto (va_wsS RX7 136 yX7_isPhoto wsX7_isPhoto) := goodIn_app (goodIn_of _ (by decide +kernel)) ggX7_addPhoto_X7_isPhoto
set_option maxRecDepth 20000 in
theorem ggX7_addPhoto_X7_comes : GoodIn wsX7_addPhoto wsX7_comes := goodIn_r _ [11, 12, 13, 14, 15, 3, 16, 17, 18, 19, 20, 21, 22, 23, 24, 25, 26, 27, 28, 29, 30, 31, 32, 33, 34, 35, 36, 37, 38, 39, 40, 41, 42, 43, 44, 45] (by decide +kernel) (by decide +kernel)
set_option maxRecDepth 20000 in
theorem gX7_addPhoto_X7_comes : GoodIn wsX7_addPhoto (wsV RX7 139 RX7 yX7_comes wsX7_comes) := goodIn_app (goodIn_of _ (by decide +kernel)) ggX7_addPhoto_X7_comes
theorem dX7_addPhoto_0 : decode cX7_addPhoto 0 = .ok (.iload_n 1, 1) := by decide +kernel
theorem dX7_addPhoto_1 : decode cX7_addPhoto 1 = .ok (.iload_n 2, 1) := by decide +kernel
theorem dX7_addPhoto_2 : decode cX7_addPhoto 2 = .ok (.iload_n 3, 1) := by decide +kernel
theorem dX7_addPhoto_3 : decode cX7_addPhoto 3 = .ok (.iload 4, 2) := by decide +kernel
theorem dX7_addPhoto_5 : decode cX7_addPhoto 5 = .ok (.invokestatic 136, 3) := by decide +kernel
theorem dX7_addPhoto_8 : decode cX7_addPhoto 8 = .ok (.ifCond .eq 19, 3) := by decide +kernel
theorem dX7_addPhoto_11 : decode cX7_addPhoto 11 = .ok (.aload_n 0, 1) := by decide +kernel
theorem dX7_addPhoto_12 : decode cX7_addPhoto 12 = .ok (.iload_n 1, 1) := by decide +kernel
theorem dX7_addPhoto_13 : decode cX7_addPhoto 13 = .ok (.iload_n 2, 1) := by decide +kernel
theorem dX7_addPhoto_14 : decode cX7_addPhoto 14 = .ok (.iload_n 3, 1) := by decide +kernel
theorem dX7_addPhoto_15 : decode cX7_addPhoto 15 = .ok (.iload 4, 2) := by decide +kernel
theorem dX7_addPhoto_17 : decode cX7_addPhoto 17 = .ok (.sipush 360, 3) := by decide +kernel
theorem dX7_addPhoto_20 : decode cX7_addPhoto 20 = .ok (.iconst 0, 1) := by decide +kernel
theorem dX7_addPhoto_21 : decode cX7_addPhoto 21 = .ok (.invokevirtual 139, 3) := by decide +kernel
theorem dX7_addPhoto_24 : decode cX7_addPhoto 24 = .ok (.goto 5, 3) := by decide +kernel
theorem dX7_addPhoto_27 : decode cX7_addPhoto 27 = .ok (.bipush (-2), 2) := by decide +kernel
theorem dX7_addPhoto_29 : decode cX7_addPhoto 29 = .ok (.ireturn, 1) := by decide +kernel
set_option maxRecDepth 20000 in
theorem ggX7_setAngle_X7_no : GoodIn wsX7_setAngle wsX7_no := goodIn_r _ [6, 1, 7, 8, 5, 9, 20, 21, 22, 23, 24, 25, 26, 27, 28, 29, 30, 31, 32, 33, 34, 35, 36, 37, 38] (by decide +kernel) (by decide +kernel)
set_option maxRecDepth 20000 in
theorem gX7_setAngle_X7_no : GoodIn wsX7_setAngle (wsV RX7 143 RX7 yX7_no wsX7_no) := goodIn_app (goodIn_of _ (by decide +kernel)) ggX7_setAngle_X7_no
set_option maxRecDepth 20000 in
theorem ggX7_setAngle_X7_in : GoodIn wsX7_setAngle wsX7_in := goodIn_r _ [9] (by decide +kernel) (by decide +kernel)
set_option maxRecDepth 20000 in
theorem gX7_setAngle_X7_in : GoodIn wsX7_setAngle (va_wsS RX7 38 yX7_in wsX7_in) := goodIn_app (goodIn_of _ (by decide +kernel)) ggX7_setAngle_X7_in
set_option maxRecDepth 20000 in
theorem ggX7_setAngle_X7_of : GoodIn wsX7_setAngle wsX7_of := goodIn_r _ [13, 1, 20, 21, 22, 23, 24, 25, 26, 27, 28, 29, 30, 31, 32, 33, 34, 35, 36, 37, 38] (by decide +kernel) (by decide +kernel)
set_option maxRecDepth 20000 in
theorem gX7_setAngle_X7_of : GoodIn wsX7_setAngle (wsV RX7 42 RX7 yX7_of wsX7_of) := goodIn_app (goodIn_of _ (by decide +kernel)) ggX7_setAngle_X7_of
set_option maxRecDepth 20000 in
theorem ggX7_setAngle_X7_record : GoodIn wsX7_setAngle wsX7_record := goodIn_r _ [17, 18, 19, 1, 20, 21, 22, 23, 24, 25, 26, 27, 28, 29, 30, 31, 32, 33, 34, 35, 36, 37, 38] (by decide +kernel) (by decide +kernel)
set_option maxRecDepth 20000 in
theorem gX7_setAngle_X7_record : GoodIn wsX7_setAngle (wsV RX7 133 RX7 yX7_record wsX7_record) := goodIn_app (goodIn_of _ (by decide +kernel)) ggX7_setAngle_X7_record
theorem dX7_setAngle_0 : decode cX7_setAngle 0 = .ok (.aload_n 0, 1) := by decide +kernel
theorem dX7_setAngle_1 : decode cX7_setAngle 1 = .ok (.iload_n 1, 1) := by decide +kernel
theorem dX7_setAngle_2 : decode cX7_setAngle 2 = .ok (.invokevirtual 143, 3) := by decide +kernel
theorem dX7_setAngle_5 : decode cX7_setAngle 5 = .ok (.ifCond .eq 5, 3) := by decide +kernel
theorem dX7_setAngle_8 : decode cX7_setAngle 8 = .ok (.iconst (-1), 1) := by decide +kernel
theorem dX7_setAngle_9 : decode cX7_setAngle 9 = .ok (.ireturn, 1) := by decide +kernel
theorem dX7_setAngle_10 : decode cX7_setAngle 10 = .ok (.iload_n 2, 1) := by decide +kernel
theorem dX7_setAngle_11 : decode cX7_setAngle 11 = .ok (.iconst 0, 1) := by decide +kernel
theorem dX7_setAngle_12 : decode cX7_setAngle 12 = .ok (.sipush 360, 3) := by decide +kernel
theorem dX7_setAngle_15 : decode cX7_setAngle 15 = .ok (.invokestatic 38, 3) := by decide +kernel
theorem dX7_setAngle_18 : decode cX7_setAngle 18 = .ok (.ifCond .eq 24, 3) := by decide +kernel
theorem dX7_setAngle_21 : decode cX7_setAngle 21 = .ok (.iload_n 3, 1) := by decide +kernel
theorem dX7_setAngle_22 : decode cX7_setAngle 22 = .ok (.iconst 0, 1) := by decide +kernel
theorem dX7_setAngle_23 : decode cX7_setAngle 23 = .ok (.iload_n 2, 1) := by decide +kernel
theorem dX7_setAngle_24 : decode cX7_setAngle 24 = .ok (.sipush 360, 3) := by decide +kernel
theorem dX7_setAngle_27 : decode cX7_setAngle 27 = .ok (.if_icmp .ne 7, 3) := by decide +kernel
theorem dX7_setAngle_30 : decode cX7_setAngle 30 = .ok (.iconst 0, 1) := by decide +kernel
theorem dX7_setAngle_31 : decode cX7_setAngle 31 = .ok (.goto 5, 3) := by decide +kernel
theorem dX7_setAngle_34 : decode cX7_setAngle 34 = .ok (.bipush 60, 2) := by decide +kernel
theorem dX7_setAngle_36 : decode cX7_setAngle 36 = .ok (.invokestatic 38, 3) := by decide +kernel
theorem dX7_setAngle_39 : decode cX7_setAngle 39 = .ok (.ifCond .ne 6, 3) := by decide +kernel
theorem dX7_setAngle_42 : decode cX7_setAngle 42 = .ok (.bipush (-2), 2) := by decide +kernel
theorem dX7_setAngle_44 : decode cX7_setAngle 44 = .ok (.ireturn, 1) := by decide +kernel
theorem dX7_setAngle_45 : decode cX7_setAngle 45 = .ok (.aload_n 0, 1) := by decide +kernel
theorem dX7_setAngle_46 : decode cX7_setAngle 46 = .ok (.iload_n 1, 1) := by decide +kernel
theorem dX7_setAngle_47 : decode cX7_setAngle 47 = .ok (.iconst 4, 1) := by decide +kernel
theorem dX7_setAngle_48 : decode cX7_setAngle 48 = .ok (.invokevirtual 42, 3) := by decide +kernel
theorem dX7_setAngle_51 : decode cX7_setAngle 51 = .ok (.istore 4, 2) := by decide +kernel
theorem dX7_setAngle_53 : decode cX7_setAngle 53 = .ok (.iload 4, 2) := by decide +kernel
theorem dX7_setAngle_55 : decode cX7_setAngle 55 = .ok (.iload_n 2, 1) := by decide +kernel
theorem dX7_setAngle_56 : decode cX7_setAngle 56 = .ok (.if_icmp .ne 16, 3) := by decide +kernel
theorem dX7_setAngle_59 : decode cX7_setAngle 59 = .ok (.aload_n 0, 1) := by decide +kernel
theorem dX7_setAngle_60 : decode cX7_setAngle 60 = .ok (.iload_n 1, 1) := by decide +kernel
theorem dX7_setAngle_61 : decode cX7_setAngle 61 = .ok (.iconst 5, 1) := by decide +kernel
theorem dX7_setAngle_62 : decode cX7_setAngle 62 = .ok (.invokevirtual 42, 3) := by decide +kernel
theorem dX7_setAngle_65 : decode cX7_setAngle 65 = .ok (.iload_n 3, 1) := by decide +kernel
theorem dX7_setAngle_66 : decode cX7_setAngle 66 = .ok (.if_icmp .ne 6, 3) := by decide +kernel
theorem dX7_setAngle_69 : decode cX7_setAngle 69 = .ok (.bipush (-5), 2) := by decide +kernel
theorem dX7_setAngle_71 : decode cX7_setAngle 71 = .ok (.ireturn, 1) := by decide +kernel
theorem dX7_setAngle_72 : decode cX7_setAngle 72 = .ok (.aload_n 0, 1) := by decide +kernel
theorem dX7_setAngle_73 : decode cX7_setAngle 73 = .ok (.invokevirtual 133, 3) := by decide +kernel
theorem dX7_setAngle_76 : decode cX7_setAngle 76 = .ok (.aload_n 0, 1) := by decide +kernel
theorem dX7_setAngle_77 : decode cX7_setAngle 77 = .ok (.getfield 7, 3) := by decide +kernel
theorem dX7_setAngle_80 : decode cX7_setAngle 80 = .ok (.bipush 7, 2) := by decide +kernel
theorem dX7_setAngle_82 : decode cX7_setAngle 82 = .ok (.iload_n 1, 1) := by decide +kernel
theorem dX7_setAngle_83 : decode cX7_setAngle 83 = .ok (.imul, 1) := by decide +kernel
theorem dX7_setAngle_84 : decode cX7_setAngle 84 = .ok (.iconst 4, 1) := by decide +kernel
theorem dX7_setAngle_85 : decode cX7_setAngle 85 = .ok (.iadd, 1) := by decide +kernel
theorem dX7_setAngle_86 : decode cX7_setAngle 86 = .ok (.iload_n 2, 1) := by decide +kernel
theorem dX7_setAngle_87 : decode cX7_setAngle 87 = .ok (.iastore, 1) := by decide +kernel
theorem dX7_setAngle_88 : decode cX7_setAngle 88 = .ok (.aload_n 0, 1) := by decide +kernel
theorem dX7_setAngle_89 : decode cX7_setAngle 89 = .ok (.getfield 7, 3) := by decide +kernel
theorem dX7_setAngle_92 : decode cX7_setAngle 92 = .ok (.bipush 7, 2) := by decide +kernel
theorem dX7_setAngle_94 : decode cX7_setAngle 94 = .ok (.iload_n 1, 1) := by decide +kernel
theorem dX7_setAngle_95 : decode cX7_setAngle 95 = .ok (.imul, 1) := by decide +kernel
theorem dX7_setAngle_96 : decode cX7_setAngle 96 = .ok (.iconst 5, 1) := by decide +kernel
theorem dX7_setAngle_97 : decode cX7_setAngle 97 = .ok (.iadd, 1) := by decide +kernel
theorem dX7_setAngle_98 : decode cX7_setAngle 98 = .ok (.iload_n 3, 1) := by decide +kernel
theorem dX7_setAngle_99 : decode cX7_setAngle 99 = .ok (.iastore, 1) := by decide +kernel
theorem dX7_setAngle_100 : decode cX7_setAngle 100 = .ok (.iload 4, 2) := by decide +kernel
theorem dX7_setAngle_102 : decode cX7_setAngle 102 = .ok (.ireturn, 1) := by decide +kernel
set_option maxRecDepth 20000 in
theorem ggX7_move_X7_no : GoodIn wsX7_move wsX7_no := goodIn_r _ [6, 1, 7, 8, 5, 9, 64, 65, 66, 67, 68, 69, 70, 71, 72, 73, 74, 75, 76, 77, 78, 79, 80, 81, 82] (by decide +kernel) (by decide +kernel)
set_option maxRecDepth 20000 in
theorem gX7_move_X7_no : GoodIn wsX7_move (wsV RX7 143 RX7 yX7_no wsX7_no) := goodIn_app (goodIn_of _ (by decide +kernel)) ggX7_move_X7_no
set_option maxRecDepth 20000 in
theorem ggX7_move_X7_in : GoodIn wsX7_move wsX7_in := goodIn_r _ [9] (by decide +kernel) (by decide +kernel)
set_option maxRecDepth 20000 in
theorem gX7_move_X7_in : GoodIn wsX7_move (va_wsS RX7 38 yX7_in wsX7_in) := goodIn_app (goodIn_of _ (by decide +kernel)) ggX7_move_X7_in
set_option maxRecDepth 20000 in
theorem ggX7_move_X7_of : GoodIn wsX7_move wsX7_of := goodIn_r _ [13, 1, 64, 65, 66, 67, 68, 69, 70, 71, 72, 73, 74, 75, 76, 77, 78, 79, 80, 81, 82] (by decide +kernel) (by decide +kernel)
set_option maxRecDepth 20000 in
theorem gX7_move_X7_of : GoodIn wsX7_move (wsV RX7 42 RX7 yX7_of wsX7_of) := goodIn_app (goodIn_of _ (by decide +kernel)) ggX7_move_X7_of
set_option maxRecDepth 20000 in
theorem ggX7_move_X7_record : GoodIn wsX7_move wsX7_record := goodIn_r _ [17, 18, 19, 1, 64, 65, 66, 67, 68, 69, 70, 71, 72, 73, 74, 75, 76, 77, 78, 79, 80, 81, 82] (by decide +kernel) (by decide +kernel)
set_option maxRecDepth 20000 in
theorem gX7_move_X7_record : GoodIn wsX7_move (wsV RX7 133 RX7 yX7_record wsX7_record) := goodIn_app (goodIn_of _ (by decide +kernel)) ggX7_move_X7_record
set_option maxRecDepth 20000 in
theorem ggX7_move_X7_missed : GoodIn wsX7_move wsX7_missed := goodIn_r _ [23, 24, 25, 26, 27, 5, 28, 29, 30, 31, 32, 1, 33, 34, 35, 36, 10, 11, 12, 13, 37, 38, 39, 40, 41, 42, 43, 44, 45, 46, 47, 48, 49, 50, 51, 52, 53, 54, 55, 56, 57, 58, 59, 60, 61, 62, 63, 64, 65, 66, 67, 68, 69, 70, 71, 72, 73, 74, 75, 76, 77, 78, 79, 80, 81, 82] (by decide +kernel) (by decide +kernel)
set_option maxRecDepth 20000 in
theorem gX7_move_X7_missed : GoodIn wsX7_move (wsV RX7 146 RX7 yX7_missed wsX7_missed) := goodIn_app (goodIn_of _ (by decide +kernel)) ggX7_move_X7_missed
set_option maxRecDepth 20000 in
theorem ggX7_move_X7_bits : GoodIn wsX7_move wsX7_bits := goodIn_r _ [63] (by decide +kernel) (by decide +kernel)
set_option maxRecDepth 20000 in
theorem gX7_move_X7_bits : GoodIn wsX7_move (va_wsS RX7 78 yX7_bits wsX7_bits) := goodIn_app (goodIn_of _ (by decide +kernel)) ggX7_move_X7_bits
theorem dX7_move_0 : decode cX7_move 0 = .ok (.aload_n 0, 1) := by decide +kernel
theorem dX7_move_1 : decode cX7_move 1 = .ok (.iload_n 1, 1) := by decide +kernel
theorem dX7_move_2 : decode cX7_move 2 = .ok (.invokevirtual 143, 3) := by decide +kernel
theorem dX7_move_5 : decode cX7_move 5 = .ok (.ifCond .eq 5, 3) := by decide +kernel
theorem dX7_move_8 : decode cX7_move 8 = .ok (.iconst (-1), 1) := by decide +kernel
theorem dX7_move_9 : decode cX7_move 9 = .ok (.ireturn, 1) := by decide +kernel
theorem dX7_move_10 : decode cX7_move 10 = .ok (.iload_n 2, 1) := by decide +kernel
theorem dX7_move_11 : decode cX7_move 11 = .ok (.sipush (-400), 3) := by decide +kernel
theorem dX7_move_14 : decode cX7_move 14 = .ok (.sipush 400, 3) := by decide +kernel
theorem dX7_move_17 : decode cX7_move 17 = .ok (.invokestatic 38, 3) := by decide +kernel
theorem dX7_move_20 : decode cX7_move 20 = .ok (.ifCond .eq 16, 3) := by decide +kernel
theorem dX7_move_23 : decode cX7_move 23 = .ok (.iload_n 3, 1) := by decide +kernel
theorem dX7_move_24 : decode cX7_move 24 = .ok (.sipush (-400), 3) := by decide +kernel
theorem dX7_move_27 : decode cX7_move 27 = .ok (.sipush 400, 3) := by decide +kernel
theorem dX7_move_30 : decode cX7_move 30 = .ok (.invokestatic 38, 3) := by decide +kernel
theorem dX7_move_33 : decode cX7_move 33 = .ok (.ifCond .ne 6, 3) := by decide +kernel
theorem dX7_move_36 : decode cX7_move 36 = .ok (.bipush (-2), 2) := by decide +kernel
theorem dX7_move_38 : decode cX7_move 38 = .ok (.ireturn, 1) := by decide +kernel
theorem dX7_move_39 : decode cX7_move 39 = .ok (.aload_n 0, 1) := by decide +kernel
theorem dX7_move_40 : decode cX7_move 40 = .ok (.iload_n 1, 1) := by decide +kernel
theorem dX7_move_41 : decode cX7_move 41 = .ok (.iconst 1, 1) := by decide +kernel
theorem dX7_move_42 : decode cX7_move 42 = .ok (.invokevirtual 42, 3) := by decide +kernel
theorem dX7_move_45 : decode cX7_move 45 = .ok (.iload_n 2, 1) := by decide +kernel
theorem dX7_move_46 : decode cX7_move 46 = .ok (.if_icmp .ne 16, 3) := by decide +kernel
theorem dX7_move_49 : decode cX7_move 49 = .ok (.aload_n 0, 1) := by decide +kernel
theorem dX7_move_50 : decode cX7_move 50 = .ok (.iload_n 1, 1) := by decide +kernel
theorem dX7_move_51 : decode cX7_move 51 = .ok (.iconst 2, 1) := by decide +kernel
theorem dX7_move_52 : decode cX7_move 52 = .ok (.invokevirtual 42, 3) := by decide +kernel
theorem dX7_move_55 : decode cX7_move 55 = .ok (.iload_n 3, 1) := by decide +kernel
theorem dX7_move_56 : decode cX7_move 56 = .ok (.if_icmp .ne 6, 3) := by decide +kernel
theorem dX7_move_59 : decode cX7_move 59 = .ok (.bipush (-5), 2) := by decide +kernel
theorem dX7_move_61 : decode cX7_move 61 = .ok (.ireturn, 1) := by decide +kernel
theorem dX7_move_62 : decode cX7_move 62 = .ok (.aload_n 0, 1) := by decide +kernel
theorem dX7_move_63 : decode cX7_move 63 = .ok (.invokevirtual 133, 3) := by decide +kernel
theorem dX7_move_66 : decode cX7_move 66 = .ok (.aload_n 0, 1) := by decide +kernel
theorem dX7_move_67 : decode cX7_move 67 = .ok (.getfield 7, 3) := by decide +kernel
theorem dX7_move_70 : decode cX7_move 70 = .ok (.bipush 7, 2) := by decide +kernel
theorem dX7_move_72 : decode cX7_move 72 = .ok (.iload_n 1, 1) := by decide +kernel
theorem dX7_move_73 : decode cX7_move 73 = .ok (.imul, 1) := by decide +kernel
theorem dX7_move_74 : decode cX7_move 74 = .ok (.iconst 1, 1) := by decide +kernel
theorem dX7_move_75 : decode cX7_move 75 = .ok (.iadd, 1) := by decide +kernel
theorem dX7_move_76 : decode cX7_move 76 = .ok (.iload_n 2, 1) := by decide +kernel
theorem dX7_move_77 : decode cX7_move 77 = .ok (.iastore, 1) := by decide +kernel
theorem dX7_move_78 : decode cX7_move 78 = .ok (.aload_n 0, 1) := by decide +kernel
theorem dX7_move_79 : decode cX7_move 79 = .ok (.getfield 7, 3) := by decide +kernel
theorem dX7_move_82 : decode cX7_move 82 = .ok (.bipush 7, 2) := by decide +kernel
theorem dX7_move_84 : decode cX7_move 84 = .ok (.iload_n 1, 1) := by decide +kernel
theorem dX7_move_85 : decode cX7_move 85 = .ok (.imul, 1) := by decide +kernel
theorem dX7_move_86 : decode cX7_move 86 = .ok (.iconst 1, 1) := by decide +kernel
theorem dX7_move_87 : decode cX7_move 87 = .ok (.iadd, 1) := by decide +kernel
theorem dX7_move_88 : decode cX7_move 88 = .ok (.iconst 1, 1) := by decide +kernel
theorem dX7_move_89 : decode cX7_move 89 = .ok (.iadd, 1) := by decide +kernel
theorem dX7_move_90 : decode cX7_move 90 = .ok (.iload_n 3, 1) := by decide +kernel
theorem dX7_move_91 : decode cX7_move 91 = .ok (.iastore, 1) := by decide +kernel
theorem dX7_move_92 : decode cX7_move 92 = .ok (.aload_n 0, 1) := by decide +kernel
theorem dX7_move_93 : decode cX7_move 93 = .ok (.invokevirtual 146, 3) := by decide +kernel
theorem dX7_move_96 : decode cX7_move 96 = .ok (.invokestatic 78, 3) := by decide +kernel
theorem dX7_move_99 : decode cX7_move 99 = .ok (.ireturn, 1) := by decide +kernel
set_option maxRecDepth 20000 in
theorem ggX7_setAside_X7_no : GoodIn wsX7_setAside wsX7_no := goodIn_r _ [6, 1, 7, 8, 5, 9, 31, 32, 33, 34, 35, 36, 37, 38, 39, 40, 41, 42, 43, 44, 45, 46, 47, 48, 49] (by decide +kernel) (by decide +kernel)
set_option maxRecDepth 20000 in
theorem gX7_setAside_X7_no : GoodIn wsX7_setAside (wsV RX7 143 RX7 yX7_no wsX7_no) := goodIn_app (goodIn_of _ (by decide +kernel)) ggX7_setAside_X7_no
set_option maxRecDepth 20000 in
theorem ggX7_setAside_X7_isUsable : GoodIn wsX7_setAside wsX7_isUsable := goodIn_r _ [13, 14, 15, 16, 5, 17, 1, 31, 32, 33, 34, 35, 36, 37, 38, 39, 40, 41, 42, 43, 44, 45, 46, 47, 48, 49] (by decide +kernel) (by decide +kernel)
set_option maxRecDepth 20000 in
theorem gX7_setAside_X7_isUsable : GoodIn wsX7_setAside (wsV RX7 46 RX7 yX7_isUsable wsX7_isUsable) := goodIn_app (goodIn_of _ (by decide +kernel)) ggX7_setAside_X7_isUsable
set_option maxRecDepth 20000 in
theorem ggX7_setAside_X7_record : GoodIn wsX7_setAside wsX7_record := goodIn_r _ [21, 22, 23, 1, 31, 32, 33, 34, 35, 36, 37, 38, 39, 40, 41, 42, 43, 44, 45, 46, 47, 48, 49] (by decide +kernel) (by decide +kernel)
set_option maxRecDepth 20000 in
theorem gX7_setAside_X7_record : GoodIn wsX7_setAside (wsV RX7 133 RX7 yX7_record wsX7_record) := goodIn_app (goodIn_of _ (by decide +kernel)) ggX7_setAside_X7_record
set_option maxRecDepth 20000 in
theorem ggX7_setAside_X7_usable : GoodIn wsX7_setAside wsX7_usable := goodIn_r _ [27, 1, 10, 11, 12, 5, 13, 14, 15, 16, 17, 31, 32, 33, 34, 35, 36, 37, 38, 39, 40, 41, 42, 43, 44, 45, 46, 47, 48, 49] (by decide +kernel) (by decide +kernel)
set_option maxRecDepth 20000 in
theorem gX7_setAside_X7_usable : GoodIn wsX7_setAside (wsV RX7 85 RX7 yX7_usable wsX7_usable) := goodIn_app (goodIn_of _ (by decide +kernel)) ggX7_setAside_X7_usable
set_option maxRecDepth 20000 in
theorem ggX7_setAside_X7_bits : GoodIn wsX7_setAside wsX7_bits := goodIn_r _ [30] (by decide +kernel) (by decide +kernel)
set_option maxRecDepth 20000 in
theorem gX7_setAside_X7_bits : GoodIn wsX7_setAside (va_wsS RX7 78 yX7_bits wsX7_bits) := goodIn_app (goodIn_of _ (by decide +kernel)) ggX7_setAside_X7_bits
theorem dX7_setAside_0 : decode cX7_setAside 0 = .ok (.aload_n 0, 1) := by decide +kernel
theorem dX7_setAside_1 : decode cX7_setAside 1 = .ok (.iload_n 1, 1) := by decide +kernel
theorem dX7_setAside_2 : decode cX7_setAside 2 = .ok (.invokevirtual 143, 3) := by decide +kernel
theorem dX7_setAside_5 : decode cX7_setAside 5 = .ok (.ifCond .eq 5, 3) := by decide +kernel
theorem dX7_setAside_8 : decode cX7_setAside 8 = .ok (.iconst (-1), 1) := by decide +kernel
theorem dX7_setAside_9 : decode cX7_setAside 9 = .ok (.ireturn, 1) := by decide +kernel
theorem dX7_setAside_10 : decode cX7_setAside 10 = .ok (.aload_n 0, 1) := by decide +kernel
theorem dX7_setAside_11 : decode cX7_setAside 11 = .ok (.iload_n 1, 1) := by decide +kernel
theorem dX7_setAside_12 : decode cX7_setAside 12 = .ok (.invokevirtual 46, 3) := by decide +kernel
theorem dX7_setAside_15 : decode cX7_setAside 15 = .ok (.iload_n 2, 1) := by decide +kernel
theorem dX7_setAside_16 : decode cX7_setAside 16 = .ok (.if_icmp .eq 6, 3) := by decide +kernel
theorem dX7_setAside_19 : decode cX7_setAside 19 = .ok (.bipush (-5), 2) := by decide +kernel
theorem dX7_setAside_21 : decode cX7_setAside 21 = .ok (.ireturn, 1) := by decide +kernel
theorem dX7_setAside_22 : decode cX7_setAside 22 = .ok (.aload_n 0, 1) := by decide +kernel
theorem dX7_setAside_23 : decode cX7_setAside 23 = .ok (.invokevirtual 133, 3) := by decide +kernel
theorem dX7_setAside_26 : decode cX7_setAside 26 = .ok (.aload_n 0, 1) := by decide +kernel
theorem dX7_setAside_27 : decode cX7_setAside 27 = .ok (.getfield 7, 3) := by decide +kernel
theorem dX7_setAside_30 : decode cX7_setAside 30 = .ok (.bipush 7, 2) := by decide +kernel
theorem dX7_setAside_32 : decode cX7_setAside 32 = .ok (.iload_n 1, 1) := by decide +kernel
theorem dX7_setAside_33 : decode cX7_setAside 33 = .ok (.imul, 1) := by decide +kernel
theorem dX7_setAside_34 : decode cX7_setAside 34 = .ok (.bipush 6, 2) := by decide +kernel
theorem dX7_setAside_36 : decode cX7_setAside 36 = .ok (.iadd, 1) := by decide +kernel
theorem dX7_setAside_37 : decode cX7_setAside 37 = .ok (.iload_n 2, 1) := by decide +kernel
theorem dX7_setAside_38 : decode cX7_setAside 38 = .ok (.ifCond .eq 7, 3) := by decide +kernel
theorem dX7_setAside_41 : decode cX7_setAside 41 = .ok (.iconst 1, 1) := by decide +kernel
theorem dX7_setAside_42 : decode cX7_setAside 42 = .ok (.goto 4, 3) := by decide +kernel
theorem dX7_setAside_45 : decode cX7_setAside 45 = .ok (.iconst 0, 1) := by decide +kernel
theorem dX7_setAside_46 : decode cX7_setAside 46 = .ok (.iastore, 1) := by decide +kernel
theorem dX7_setAside_47 : decode cX7_setAside 47 = .ok (.aload_n 0, 1) := by decide +kernel
theorem dX7_setAside_48 : decode cX7_setAside 48 = .ok (.invokevirtual 85, 3) := by decide +kernel
theorem dX7_setAside_51 : decode cX7_setAside 51 = .ok (.invokestatic 78, 3) := by decide +kernel
theorem dX7_setAside_54 : decode cX7_setAside 54 = .ok (.ireturn, 1) := by decide +kernel
set_option maxRecDepth 20000 in
theorem ggX7_dropMissed_X7_hasBest : GoodIn wsX7_dropMissed wsX7_hasBest := goodIn_r _ [6, 7, 8, 9, 5, 10, 1, 11, 12, 13, 14, 15, 16, 17, 18, 19, 20, 21, 22, 23, 24, 25, 26, 27, 28, 29, 30, 31, 32, 33, 34, 35, 36, 37, 38, 39, 40, 41, 42, 43, 44, 45, 46, 57, 58, 59, 60, 61, 62, 63, 64, 65, 66, 67, 68, 69, 70, 71, 72, 73, 74, 75] (by decide +kernel) (by decide +kernel)
set_option maxRecDepth 20000 in
theorem gX7_dropMissed_X7_hasBest : GoodIn wsX7_dropMissed (wsV RX7 92 RX7 yX7_hasBest wsX7_hasBest) := goodIn_app (goodIn_of _ (by decide +kernel)) ggX7_dropMissed_X7_hasBest
set_option maxRecDepth 20000 in
theorem ggX7_dropMissed_X7_missed : GoodIn wsX7_dropMissed wsX7_missed := goodIn_r _ [50, 24, 2, 3, 4, 5, 6, 7, 8, 9, 10, 1, 11, 12, 13, 14, 15, 16, 17, 18, 19, 20, 21, 22, 23, 25, 26, 27, 28, 29, 30, 31, 32, 33, 34, 35, 36, 37, 38, 39, 40, 41, 42, 43, 44, 45, 46, 57, 58, 59, 60, 61, 62, 63, 64, 65, 66, 67, 68, 69, 70, 71, 72, 73, 74, 75] (by decide +kernel) (by decide +kernel)
set_option maxRecDepth 20000 in
theorem gX7_dropMissed_X7_missed : GoodIn wsX7_dropMissed (wsV RX7 146 RX7 yX7_missed wsX7_missed) := goodIn_app (goodIn_of _ (by decide +kernel)) ggX7_dropMissed_X7_missed
set_option maxRecDepth 20000 in
theorem ggX7_dropMissed_X7_record : GoodIn wsX7_dropMissed wsX7_record := goodIn_r _ [54, 55, 56, 1, 57, 58, 59, 60, 61, 62, 63, 64, 65, 66, 67, 68, 69, 70, 71, 72, 73, 74, 75] (by decide +kernel) (by decide +kernel)
set_option maxRecDepth 20000 in
theorem gX7_dropMissed_X7_record : GoodIn wsX7_dropMissed (wsV RX7 133 RX7 yX7_record wsX7_record) := goodIn_app (goodIn_of _ (by decide +kernel)) ggX7_dropMissed_X7_record
set_option maxRecDepth 20000 in
theorem ggX7_dropMissed_X7_bits : GoodIn wsX7_dropMissed wsX7_bits := goodIn_r _ [46] (by decide +kernel) (by decide +kernel)
set_option maxRecDepth 20000 in
theorem gX7_dropMissed_X7_bits : GoodIn wsX7_dropMissed (va_wsS RX7 78 yX7_bits wsX7_bits) := goodIn_app (goodIn_of _ (by decide +kernel)) ggX7_dropMissed_X7_bits
theorem dX7_dropMissed_0 : decode cX7_dropMissed 0 = .ok (.aload_n 0, 1) := by decide +kernel
theorem dX7_dropMissed_1 : decode cX7_dropMissed 1 = .ok (.invokevirtual 92, 3) := by decide +kernel
theorem dX7_dropMissed_4 : decode cX7_dropMissed 4 = .ok (.ifCond .ne 6, 3) := by decide +kernel
theorem dX7_dropMissed_7 : decode cX7_dropMissed 7 = .ok (.bipush (-4), 2) := by decide +kernel
theorem dX7_dropMissed_9 : decode cX7_dropMissed 9 = .ok (.ireturn, 1) := by decide +kernel
theorem dX7_dropMissed_10 : decode cX7_dropMissed 10 = .ok (.aload_n 0, 1) := by decide +kernel
theorem dX7_dropMissed_11 : decode cX7_dropMissed 11 = .ok (.invokevirtual 146, 3) := by decide +kernel
theorem dX7_dropMissed_14 : decode cX7_dropMissed 14 = .ok (.istore_n 1, 1) := by decide +kernel
theorem dX7_dropMissed_15 : decode cX7_dropMissed 15 = .ok (.iload_n 1, 1) := by decide +kernel
theorem dX7_dropMissed_16 : decode cX7_dropMissed 16 = .ok (.ifCond .ne 6, 3) := by decide +kernel
theorem dX7_dropMissed_19 : decode cX7_dropMissed 19 = .ok (.bipush (-5), 2) := by decide +kernel
theorem dX7_dropMissed_21 : decode cX7_dropMissed 21 = .ok (.ireturn, 1) := by decide +kernel
theorem dX7_dropMissed_22 : decode cX7_dropMissed 22 = .ok (.aload_n 0, 1) := by decide +kernel
theorem dX7_dropMissed_23 : decode cX7_dropMissed 23 = .ok (.invokevirtual 133, 3) := by decide +kernel
theorem dX7_dropMissed_26 : decode cX7_dropMissed 26 = .ok (.iconst 0, 1) := by decide +kernel
theorem dX7_dropMissed_27 : decode cX7_dropMissed 27 = .ok (.istore_n 2, 1) := by decide +kernel
theorem dX7_dropMissed_28 : decode cX7_dropMissed 28 = .ok (.iload_n 2, 1) := by decide +kernel
theorem dX7_dropMissed_29 : decode cX7_dropMissed 29 = .ok (.aload_n 0, 1) := by decide +kernel
theorem dX7_dropMissed_30 : decode cX7_dropMissed 30 = .ok (.getfield 7, 3) := by decide +kernel
theorem dX7_dropMissed_33 : decode cX7_dropMissed 33 = .ok (.bipush 70, 2) := by decide +kernel
theorem dX7_dropMissed_35 : decode cX7_dropMissed 35 = .ok (.iaload, 1) := by decide +kernel
theorem dX7_dropMissed_36 : decode cX7_dropMissed 36 = .ok (.if_icmp .ge 29, 3) := by decide +kernel
theorem dX7_dropMissed_39 : decode cX7_dropMissed 39 = .ok (.aload_n 0, 1) := by decide +kernel
theorem dX7_dropMissed_40 : decode cX7_dropMissed 40 = .ok (.getfield 7, 3) := by decide +kernel
theorem dX7_dropMissed_43 : decode cX7_dropMissed 43 = .ok (.bipush 7, 2) := by decide +kernel
theorem dX7_dropMissed_45 : decode cX7_dropMissed 45 = .ok (.iload_n 2, 1) := by decide +kernel
theorem dX7_dropMissed_46 : decode cX7_dropMissed 46 = .ok (.imul, 1) := by decide +kernel
theorem dX7_dropMissed_47 : decode cX7_dropMissed 47 = .ok (.bipush 6, 2) := by decide +kernel
theorem dX7_dropMissed_49 : decode cX7_dropMissed 49 = .ok (.iadd, 1) := by decide +kernel
theorem dX7_dropMissed_50 : decode cX7_dropMissed 50 = .ok (.dup2, 1) := by decide +kernel
theorem dX7_dropMissed_51 : decode cX7_dropMissed 51 = .ok (.iaload, 1) := by decide +kernel
theorem dX7_dropMissed_52 : decode cX7_dropMissed 52 = .ok (.iload_n 1, 1) := by decide +kernel
theorem dX7_dropMissed_53 : decode cX7_dropMissed 53 = .ok (.iload_n 2, 1) := by decide +kernel
theorem dX7_dropMissed_54 : decode cX7_dropMissed 54 = .ok (.ishr, 1) := by decide +kernel
theorem dX7_dropMissed_55 : decode cX7_dropMissed 55 = .ok (.iconst 1, 1) := by decide +kernel
theorem dX7_dropMissed_56 : decode cX7_dropMissed 56 = .ok (.iand, 1) := by decide +kernel
theorem dX7_dropMissed_57 : decode cX7_dropMissed 57 = .ok (.ior, 1) := by decide +kernel
theorem dX7_dropMissed_58 : decode cX7_dropMissed 58 = .ok (.iastore, 1) := by decide +kernel
theorem dX7_dropMissed_59 : decode cX7_dropMissed 59 = .ok (.iinc 2 1, 3) := by decide +kernel
theorem dX7_dropMissed_62 : decode cX7_dropMissed 62 = .ok (.goto (-34), 3) := by decide +kernel
theorem dX7_dropMissed_65 : decode cX7_dropMissed 65 = .ok (.iload_n 1, 1) := by decide +kernel
theorem dX7_dropMissed_66 : decode cX7_dropMissed 66 = .ok (.invokestatic 78, 3) := by decide +kernel
theorem dX7_dropMissed_69 : decode cX7_dropMissed 69 = .ok (.ireturn, 1) := by decide +kernel
set_option maxRecDepth 20000 in
theorem ggX7_remove_X7_no : GoodIn wsX7_remove wsX7_no := goodIn_r _ [6, 1, 7, 8, 5, 9, 16, 17, 18, 19, 20, 21, 22, 23, 24, 25, 26, 27, 28, 29, 30, 31, 32, 33, 34] (by decide +kernel) (by decide +kernel)
set_option maxRecDepth 20000 in
theorem gX7_remove_X7_no : GoodIn wsX7_remove (wsV RX7 143 RX7 yX7_no wsX7_no) := goodIn_app (goodIn_of _ (by decide +kernel)) ggX7_remove_X7_no
set_option maxRecDepth 20000 in
theorem ggX7_remove_X7_record : GoodIn wsX7_remove wsX7_record := goodIn_r _ [13, 14, 15, 1, 16, 17, 18, 19, 20, 21, 22, 23, 24, 25, 26, 27, 28, 29, 30, 31, 32, 33, 34] (by decide +kernel) (by decide +kernel)
set_option maxRecDepth 20000 in
theorem gX7_remove_X7_record : GoodIn wsX7_remove (wsV RX7 133 RX7 yX7_record wsX7_record) := goodIn_app (goodIn_of _ (by decide +kernel)) ggX7_remove_X7_record
theorem dX7_remove_0 : decode cX7_remove 0 = .ok (.aload_n 0, 1) := by decide +kernel
theorem dX7_remove_1 : decode cX7_remove 1 = .ok (.iload_n 1, 1) := by decide +kernel
theorem dX7_remove_2 : decode cX7_remove 2 = .ok (.invokevirtual 143, 3) := by decide +kernel
theorem dX7_remove_5 : decode cX7_remove 5 = .ok (.ifCond .eq 5, 3) := by decide +kernel
theorem dX7_remove_8 : decode cX7_remove 8 = .ok (.iconst (-1), 1) := by decide +kernel
theorem dX7_remove_9 : decode cX7_remove 9 = .ok (.ireturn, 1) := by decide +kernel
theorem dX7_remove_10 : decode cX7_remove 10 = .ok (.aload_n 0, 1) := by decide +kernel
theorem dX7_remove_11 : decode cX7_remove 11 = .ok (.invokevirtual 133, 3) := by decide +kernel
theorem dX7_remove_14 : decode cX7_remove 14 = .ok (.aload_n 0, 1) := by decide +kernel
theorem dX7_remove_15 : decode cX7_remove 15 = .ok (.getfield 7, 3) := by decide +kernel
theorem dX7_remove_18 : decode cX7_remove 18 = .ok (.bipush 70, 2) := by decide +kernel
theorem dX7_remove_20 : decode cX7_remove 20 = .ok (.dup2, 1) := by decide +kernel
theorem dX7_remove_21 : decode cX7_remove 21 = .ok (.iaload, 1) := by decide +kernel
theorem dX7_remove_22 : decode cX7_remove 22 = .ok (.iconst 1, 1) := by decide +kernel
theorem dX7_remove_23 : decode cX7_remove 23 = .ok (.isub, 1) := by decide +kernel
theorem dX7_remove_24 : decode cX7_remove 24 = .ok (.iastore, 1) := by decide +kernel
theorem dX7_remove_25 : decode cX7_remove 25 = .ok (.bipush 7, 2) := by decide +kernel
theorem dX7_remove_27 : decode cX7_remove 27 = .ok (.iload_n 1, 1) := by decide +kernel
theorem dX7_remove_28 : decode cX7_remove 28 = .ok (.imul, 1) := by decide +kernel
theorem dX7_remove_29 : decode cX7_remove 29 = .ok (.istore_n 2, 1) := by decide +kernel
theorem dX7_remove_30 : decode cX7_remove 30 = .ok (.iload_n 2, 1) := by decide +kernel
theorem dX7_remove_31 : decode cX7_remove 31 = .ok (.bipush 7, 2) := by decide +kernel
theorem dX7_remove_33 : decode cX7_remove 33 = .ok (.aload_n 0, 1) := by decide +kernel
theorem dX7_remove_34 : decode cX7_remove 34 = .ok (.getfield 7, 3) := by decide +kernel
theorem dX7_remove_37 : decode cX7_remove 37 = .ok (.bipush 70, 2) := by decide +kernel
theorem dX7_remove_39 : decode cX7_remove 39 = .ok (.iaload, 1) := by decide +kernel
theorem dX7_remove_40 : decode cX7_remove 40 = .ok (.imul, 1) := by decide +kernel
theorem dX7_remove_41 : decode cX7_remove 41 = .ok (.if_icmp .ge 24, 3) := by decide +kernel
theorem dX7_remove_44 : decode cX7_remove 44 = .ok (.aload_n 0, 1) := by decide +kernel
theorem dX7_remove_45 : decode cX7_remove 45 = .ok (.getfield 7, 3) := by decide +kernel
theorem dX7_remove_48 : decode cX7_remove 48 = .ok (.iload_n 2, 1) := by decide +kernel
theorem dX7_remove_49 : decode cX7_remove 49 = .ok (.aload_n 0, 1) := by decide +kernel
theorem dX7_remove_50 : decode cX7_remove 50 = .ok (.getfield 7, 3) := by decide +kernel
theorem dX7_remove_53 : decode cX7_remove 53 = .ok (.iload_n 2, 1) := by decide +kernel
theorem dX7_remove_54 : decode cX7_remove 54 = .ok (.bipush 7, 2) := by decide +kernel
theorem dX7_remove_56 : decode cX7_remove 56 = .ok (.iadd, 1) := by decide +kernel
theorem dX7_remove_57 : decode cX7_remove 57 = .ok (.iaload, 1) := by decide +kernel
theorem dX7_remove_58 : decode cX7_remove 58 = .ok (.iastore, 1) := by decide +kernel
theorem dX7_remove_59 : decode cX7_remove 59 = .ok (.iinc 2 1, 3) := by decide +kernel
theorem dX7_remove_62 : decode cX7_remove 62 = .ok (.goto (-32), 3) := by decide +kernel
theorem dX7_remove_65 : decode cX7_remove 65 = .ok (.aload_n 0, 1) := by decide +kernel
theorem dX7_remove_66 : decode cX7_remove 66 = .ok (.getfield 7, 3) := by decide +kernel
theorem dX7_remove_69 : decode cX7_remove 69 = .ok (.bipush 70, 2) := by decide +kernel
theorem dX7_remove_71 : decode cX7_remove 71 = .ok (.iaload, 1) := by decide +kernel
theorem dX7_remove_72 : decode cX7_remove 72 = .ok (.ireturn, 1) := by decide +kernel
theorem dX7_type_0 : decode cX7_type 0 = .ok (.aload_n 0, 1) := by decide +kernel
theorem dX7_type_1 : decode cX7_type 1 = .ok (.getfield 149, 3) := by decide +kernel
theorem dX7_type_4 : decode cX7_type 4 = .ok (.bipush 60, 2) := by decide +kernel
theorem dX7_type_6 : decode cX7_type 6 = .ok (.if_icmp .ne 6, 3) := by decide +kernel
theorem dX7_type_9 : decode cX7_type 9 = .ok (.bipush (-3), 2) := by decide +kernel
theorem dX7_type_11 : decode cX7_type 11 = .ok (.ireturn, 1) := by decide +kernel
theorem dX7_type_12 : decode cX7_type 12 = .ok (.aload_n 0, 1) := by decide +kernel
theorem dX7_type_13 : decode cX7_type 13 = .ok (.getfield 31, 3) := by decide +kernel
theorem dX7_type_16 : decode cX7_type 16 = .ok (.aload_n 0, 1) := by decide +kernel
theorem dX7_type_17 : decode cX7_type 17 = .ok (.getfield 149, 3) := by decide +kernel
theorem dX7_type_20 : decode cX7_type 20 = .ok (.iload_n 1, 1) := by decide +kernel
theorem dX7_type_21 : decode cX7_type 21 = .ok (.castore, 1) := by decide +kernel
theorem dX7_type_22 : decode cX7_type 22 = .ok (.aload_n 0, 1) := by decide +kernel
theorem dX7_type_23 : decode cX7_type 23 = .ok (.dup, 1) := by decide +kernel
theorem dX7_type_24 : decode cX7_type 24 = .ok (.getfield 149, 3) := by decide +kernel
theorem dX7_type_27 : decode cX7_type 27 = .ok (.iconst 1, 1) := by decide +kernel
theorem dX7_type_28 : decode cX7_type 28 = .ok (.iadd, 1) := by decide +kernel
theorem dX7_type_29 : decode cX7_type 29 = .ok (.putfield 149, 3) := by decide +kernel
theorem dX7_type_32 : decode cX7_type 32 = .ok (.aload_n 0, 1) := by decide +kernel
theorem dX7_type_33 : decode cX7_type 33 = .ok (.getfield 149, 3) := by decide +kernel
theorem dX7_type_36 : decode cX7_type 36 = .ok (.ireturn, 1) := by decide +kernel
theorem dX7_clearText_0 : decode cX7_clearText 0 = .ok (.aload_n 0, 1) := by decide +kernel
theorem dX7_clearText_1 : decode cX7_clearText 1 = .ok (.getfield 149, 3) := by decide +kernel
theorem dX7_clearText_4 : decode cX7_clearText 4 = .ok (.istore_n 1, 1) := by decide +kernel
theorem dX7_clearText_5 : decode cX7_clearText 5 = .ok (.aload_n 0, 1) := by decide +kernel
theorem dX7_clearText_6 : decode cX7_clearText 6 = .ok (.iconst 0, 1) := by decide +kernel
theorem dX7_clearText_7 : decode cX7_clearText 7 = .ok (.putfield 149, 3) := by decide +kernel
theorem dX7_clearText_10 : decode cX7_clearText 10 = .ok (.iload_n 1, 1) := by decide +kernel
theorem dX7_clearText_11 : decode cX7_clearText 11 = .ok (.ireturn, 1) := by decide +kernel
set_option maxRecDepth 20000 in
theorem ggX7_isDigit_X7_in : GoodIn wsX7_isDigit wsX7_in := goodIn_r _ [7] (by decide +kernel) (by decide +kernel)
set_option maxRecDepth 20000 in
theorem gX7_isDigit_X7_in : GoodIn wsX7_isDigit (va_wsS RX7 38 yX7_in wsX7_in) := goodIn_app (goodIn_of _ (by decide +kernel)) ggX7_isDigit_X7_in
theorem dX7_isDigit_0 : decode cX7_isDigit 0 = .ok (.aload_n 0, 1) := by decide +kernel
theorem dX7_isDigit_1 : decode cX7_isDigit 1 = .ok (.getfield 152, 3) := by decide +kernel
theorem dX7_isDigit_4 : decode cX7_isDigit 4 = .ok (.aload_n 0, 1) := by decide +kernel
theorem dX7_isDigit_5 : decode cX7_isDigit 5 = .ok (.getfield 149, 3) := by decide +kernel
theorem dX7_isDigit_8 : decode cX7_isDigit 8 = .ok (.if_icmp .ge 26, 3) := by decide +kernel
theorem dX7_isDigit_11 : decode cX7_isDigit 11 = .ok (.aload_n 0, 1) := by decide +kernel
theorem dX7_isDigit_12 : decode cX7_isDigit 12 = .ok (.getfield 31, 3) := by decide +kernel
theorem dX7_isDigit_15 : decode cX7_isDigit 15 = .ok (.aload_n 0, 1) := by decide +kernel
theorem dX7_isDigit_16 : decode cX7_isDigit 16 = .ok (.getfield 152, 3) := by decide +kernel
theorem dX7_isDigit_19 : decode cX7_isDigit 19 = .ok (.caload, 1) := by decide +kernel
theorem dX7_isDigit_20 : decode cX7_isDigit 20 = .ok (.bipush 48, 2) := by decide +kernel
theorem dX7_isDigit_22 : decode cX7_isDigit 22 = .ok (.bipush 57, 2) := by decide +kernel
theorem dX7_isDigit_24 : decode cX7_isDigit 24 = .ok (.invokestatic 38, 3) := by decide +kernel
theorem dX7_isDigit_27 : decode cX7_isDigit 27 = .ok (.ifCond .eq 7, 3) := by decide +kernel
theorem dX7_isDigit_30 : decode cX7_isDigit 30 = .ok (.iconst 1, 1) := by decide +kernel
theorem dX7_isDigit_31 : decode cX7_isDigit 31 = .ok (.goto 4, 3) := by decide +kernel
theorem dX7_isDigit_34 : decode cX7_isDigit 34 = .ok (.iconst 0, 1) := by decide +kernel
theorem dX7_isDigit_35 : decode cX7_isDigit 35 = .ok (.ireturn, 1) := by decide +kernel
theorem dX7_takes_0 : decode cX7_takes 0 = .ok (.aload_n 0, 1) := by decide +kernel
theorem dX7_takes_1 : decode cX7_takes 1 = .ok (.getfield 152, 3) := by decide +kernel
theorem dX7_takes_4 : decode cX7_takes 4 = .ok (.aload_n 0, 1) := by decide +kernel
theorem dX7_takes_5 : decode cX7_takes 5 = .ok (.getfield 149, 3) := by decide +kernel
theorem dX7_takes_8 : decode cX7_takes 8 = .ok (.if_icmp .ge 20, 3) := by decide +kernel
theorem dX7_takes_11 : decode cX7_takes 11 = .ok (.aload_n 0, 1) := by decide +kernel
theorem dX7_takes_12 : decode cX7_takes 12 = .ok (.getfield 31, 3) := by decide +kernel
theorem dX7_takes_15 : decode cX7_takes 15 = .ok (.aload_n 0, 1) := by decide +kernel
theorem dX7_takes_16 : decode cX7_takes 16 = .ok (.getfield 152, 3) := by decide +kernel
theorem dX7_takes_19 : decode cX7_takes 19 = .ok (.caload, 1) := by decide +kernel
theorem dX7_takes_20 : decode cX7_takes 20 = .ok (.iload_n 1, 1) := by decide +kernel
theorem dX7_takes_21 : decode cX7_takes 21 = .ok (.if_icmp .ne 7, 3) := by decide +kernel
theorem dX7_takes_24 : decode cX7_takes 24 = .ok (.iconst 1, 1) := by decide +kernel
theorem dX7_takes_25 : decode cX7_takes 25 = .ok (.goto 4, 3) := by decide +kernel
theorem dX7_takes_28 : decode cX7_takes 28 = .ok (.iconst 0, 1) := by decide +kernel
theorem dX7_takes_29 : decode cX7_takes 29 = .ok (.istore_n 2, 1) := by decide +kernel
theorem dX7_takes_30 : decode cX7_takes 30 = .ok (.aload_n 0, 1) := by decide +kernel
theorem dX7_takes_31 : decode cX7_takes 31 = .ok (.dup, 1) := by decide +kernel
theorem dX7_takes_32 : decode cX7_takes 32 = .ok (.getfield 152, 3) := by decide +kernel
theorem dX7_takes_35 : decode cX7_takes 35 = .ok (.iload_n 2, 1) := by decide +kernel
theorem dX7_takes_36 : decode cX7_takes 36 = .ok (.ifCond .eq 7, 3) := by decide +kernel
theorem dX7_takes_39 : decode cX7_takes 39 = .ok (.iconst 1, 1) := by decide +kernel
theorem dX7_takes_40 : decode cX7_takes 40 = .ok (.goto 4, 3) := by decide +kernel
theorem dX7_takes_43 : decode cX7_takes 43 = .ok (.iconst 0, 1) := by decide +kernel
theorem dX7_takes_44 : decode cX7_takes 44 = .ok (.iadd, 1) := by decide +kernel
theorem dX7_takes_45 : decode cX7_takes 45 = .ok (.putfield 152, 3) := by decide +kernel
theorem dX7_takes_48 : decode cX7_takes 48 = .ok (.iload_n 2, 1) := by decide +kernel
theorem dX7_takes_49 : decode cX7_takes 49 = .ok (.ireturn, 1) := by decide +kernel
set_option maxRecDepth 20000 in
theorem ggX7_takesNumber_X7_takes : GoodIn wsX7_takesNumber wsX7_takes := goodIn_r _ [8, 2, 9, 1, 17, 18, 19, 20, 21, 22, 23, 24, 25, 26, 27, 28, 29, 30, 31, 32, 33, 34, 35] (by decide +kernel) (by decide +kernel)
set_option maxRecDepth 20000 in
theorem gX7_takesNumber_X7_takes : GoodIn wsX7_takesNumber (wsV RX7 155 RX7 yX7_takes wsX7_takes) := goodIn_app (goodIn_of _ (by decide +kernel)) ggX7_takesNumber_X7_takes
set_option maxRecDepth 20000 in
theorem ggX7_takesNumber_X7_isDigit : GoodIn wsX7_takesNumber wsX7_isDigit := goodIn_r _ [13, 2, 9, 1, 14, 15, 7, 16, 17, 18, 19, 20, 21, 22, 23, 24, 25, 26, 27, 28, 29, 30, 31, 32, 33, 34, 35] (by decide +kernel) (by decide +kernel)
set_option maxRecDepth 20000 in
theorem gX7_takesNumber_X7_isDigit : GoodIn wsX7_takesNumber (wsV RX7 158 RX7 yX7_isDigit wsX7_isDigit) := goodIn_app (goodIn_of _ (by decide +kernel)) ggX7_takesNumber_X7_isDigit
theorem dX7_takesNumber_0 : decode cX7_takesNumber 0 = .ok (.iload_n 1, 1) := by decide +kernel
theorem dX7_takesNumber_1 : decode cX7_takesNumber 1 = .ok (.ifCond .eq 16, 3) := by decide +kernel
theorem dX7_takesNumber_4 : decode cX7_takesNumber 4 = .ok (.aload_n 0, 1) := by decide +kernel
theorem dX7_takesNumber_5 : decode cX7_takesNumber 5 = .ok (.bipush 45, 2) := by decide +kernel
theorem dX7_takesNumber_7 : decode cX7_takesNumber 7 = .ok (.invokevirtual 155, 3) := by decide +kernel
theorem dX7_takesNumber_10 : decode cX7_takesNumber 10 = .ok (.ifCond .eq 7, 3) := by decide +kernel
theorem dX7_takesNumber_13 : decode cX7_takesNumber 13 = .ok (.iconst 1, 1) := by decide +kernel
theorem dX7_takesNumber_14 : decode cX7_takesNumber 14 = .ok (.goto 4, 3) := by decide +kernel
theorem dX7_takesNumber_17 : decode cX7_takesNumber 17 = .ok (.iconst 0, 1) := by decide +kernel
theorem dX7_takesNumber_18 : decode cX7_takesNumber 18 = .ok (.istore_n 2, 1) := by decide +kernel
theorem dX7_takesNumber_19 : decode cX7_takesNumber 19 = .ok (.aload_n 0, 1) := by decide +kernel
theorem dX7_takesNumber_20 : decode cX7_takesNumber 20 = .ok (.invokevirtual 158, 3) := by decide +kernel
theorem dX7_takesNumber_23 : decode cX7_takesNumber 23 = .ok (.ifCond .eq 21, 3) := by decide +kernel
theorem dX7_takesNumber_26 : decode cX7_takesNumber 26 = .ok (.iload_n 2, 1) := by decide +kernel
theorem dX7_takesNumber_27 : decode cX7_takesNumber 27 = .ok (.ifCond .eq 19, 3) := by decide +kernel
theorem dX7_takesNumber_30 : decode cX7_takesNumber 30 = .ok (.aload_n 0, 1) := by decide +kernel
theorem dX7_takesNumber_31 : decode cX7_takesNumber 31 = .ok (.getfield 31, 3) := by decide +kernel
theorem dX7_takesNumber_34 : decode cX7_takesNumber 34 = .ok (.aload_n 0, 1) := by decide +kernel
theorem dX7_takesNumber_35 : decode cX7_takesNumber 35 = .ok (.getfield 152, 3) := by decide +kernel
theorem dX7_takesNumber_38 : decode cX7_takesNumber 38 = .ok (.caload, 1) := by decide +kernel
theorem dX7_takesNumber_39 : decode cX7_takesNumber 39 = .ok (.bipush 48, 2) := by decide +kernel
theorem dX7_takesNumber_41 : decode cX7_takesNumber 41 = .ok (.if_icmp .ne 5, 3) := by decide +kernel
theorem dX7_takesNumber_44 : decode cX7_takesNumber 44 = .ok (.iconst 0, 1) := by decide +kernel
theorem dX7_takesNumber_45 : decode cX7_takesNumber 45 = .ok (.ireturn, 1) := by decide +kernel
theorem dX7_takesNumber_46 : decode cX7_takesNumber 46 = .ok (.aload_n 0, 1) := by decide +kernel
theorem dX7_takesNumber_47 : decode cX7_takesNumber 47 = .ok (.aload_n 0, 1) := by decide +kernel
theorem dX7_takesNumber_48 : decode cX7_takesNumber 48 = .ok (.getfield 31, 3) := by decide +kernel
theorem dX7_takesNumber_51 : decode cX7_takesNumber 51 = .ok (.aload_n 0, 1) := by decide +kernel
theorem dX7_takesNumber_52 : decode cX7_takesNumber 52 = .ok (.getfield 152, 3) := by decide +kernel
theorem dX7_takesNumber_55 : decode cX7_takesNumber 55 = .ok (.caload, 1) := by decide +kernel
theorem dX7_takesNumber_56 : decode cX7_takesNumber 56 = .ok (.bipush 48, 2) := by decide +kernel
theorem dX7_takesNumber_58 : decode cX7_takesNumber 58 = .ok (.isub, 1) := by decide +kernel
theorem dX7_takesNumber_59 : decode cX7_takesNumber 59 = .ok (.putfield 161, 3) := by decide +kernel
theorem dX7_takesNumber_62 : decode cX7_takesNumber 62 = .ok (.aload_n 0, 1) := by decide +kernel
theorem dX7_takesNumber_63 : decode cX7_takesNumber 63 = .ok (.dup, 1) := by decide +kernel
theorem dX7_takesNumber_64 : decode cX7_takesNumber 64 = .ok (.getfield 152, 3) := by decide +kernel
theorem dX7_takesNumber_67 : decode cX7_takesNumber 67 = .ok (.iconst 1, 1) := by decide +kernel
theorem dX7_takesNumber_68 : decode cX7_takesNumber 68 = .ok (.iadd, 1) := by decide +kernel
theorem dX7_takesNumber_69 : decode cX7_takesNumber 69 = .ok (.putfield 152, 3) := by decide +kernel
theorem dX7_takesNumber_72 : decode cX7_takesNumber 72 = .ok (.iconst 0, 1) := by decide +kernel
theorem dX7_takesNumber_73 : decode cX7_takesNumber 73 = .ok (.istore_n 3, 1) := by decide +kernel
theorem dX7_takesNumber_74 : decode cX7_takesNumber 74 = .ok (.iload_n 3, 1) := by decide +kernel
theorem dX7_takesNumber_75 : decode cX7_takesNumber 75 = .ok (.iconst 2, 1) := by decide +kernel
theorem dX7_takesNumber_76 : decode cX7_takesNumber 76 = .ok (.if_icmp .ge 57, 3) := by decide +kernel
theorem dX7_takesNumber_79 : decode cX7_takesNumber 79 = .ok (.aload_n 0, 1) := by decide +kernel
theorem dX7_takesNumber_80 : decode cX7_takesNumber 80 = .ok (.getfield 161, 3) := by decide +kernel
theorem dX7_takesNumber_83 : decode cX7_takesNumber 83 = .ok (.ifCond .le 50, 3) := by decide +kernel
theorem dX7_takesNumber_86 : decode cX7_takesNumber 86 = .ok (.aload_n 0, 1) := by decide +kernel
theorem dX7_takesNumber_87 : decode cX7_takesNumber 87 = .ok (.invokevirtual 158, 3) := by decide +kernel
theorem dX7_takesNumber_90 : decode cX7_takesNumber 90 = .ok (.ifCond .eq 43, 3) := by decide +kernel
theorem dX7_takesNumber_93 : decode cX7_takesNumber 93 = .ok (.aload_n 0, 1) := by decide +kernel
theorem dX7_takesNumber_94 : decode cX7_takesNumber 94 = .ok (.bipush 10, 2) := by decide +kernel
theorem dX7_takesNumber_96 : decode cX7_takesNumber 96 = .ok (.aload_n 0, 1) := by decide +kernel
theorem dX7_takesNumber_97 : decode cX7_takesNumber 97 = .ok (.getfield 161, 3) := by decide +kernel
theorem dX7_takesNumber_100 : decode cX7_takesNumber 100 = .ok (.imul, 1) := by decide +kernel
theorem dX7_takesNumber_101 : decode cX7_takesNumber 101 = .ok (.aload_n 0, 1) := by decide +kernel
theorem dX7_takesNumber_102 : decode cX7_takesNumber 102 = .ok (.getfield 31, 3) := by decide +kernel
theorem dX7_takesNumber_105 : decode cX7_takesNumber 105 = .ok (.aload_n 0, 1) := by decide +kernel
theorem dX7_takesNumber_106 : decode cX7_takesNumber 106 = .ok (.getfield 152, 3) := by decide +kernel
theorem dX7_takesNumber_109 : decode cX7_takesNumber 109 = .ok (.caload, 1) := by decide +kernel
theorem dX7_takesNumber_110 : decode cX7_takesNumber 110 = .ok (.iadd, 1) := by decide +kernel
theorem dX7_takesNumber_111 : decode cX7_takesNumber 111 = .ok (.bipush 48, 2) := by decide +kernel
theorem dX7_takesNumber_113 : decode cX7_takesNumber 113 = .ok (.isub, 1) := by decide +kernel
theorem dX7_takesNumber_114 : decode cX7_takesNumber 114 = .ok (.putfield 161, 3) := by decide +kernel
theorem dX7_takesNumber_117 : decode cX7_takesNumber 117 = .ok (.aload_n 0, 1) := by decide +kernel
theorem dX7_takesNumber_118 : decode cX7_takesNumber 118 = .ok (.dup, 1) := by decide +kernel
theorem dX7_takesNumber_119 : decode cX7_takesNumber 119 = .ok (.getfield 152, 3) := by decide +kernel
theorem dX7_takesNumber_122 : decode cX7_takesNumber 122 = .ok (.iconst 1, 1) := by decide +kernel
theorem dX7_takesNumber_123 : decode cX7_takesNumber 123 = .ok (.iadd, 1) := by decide +kernel
theorem dX7_takesNumber_124 : decode cX7_takesNumber 124 = .ok (.putfield 152, 3) := by decide +kernel
theorem dX7_takesNumber_127 : decode cX7_takesNumber 127 = .ok (.iinc 3 1, 3) := by decide +kernel
theorem dX7_takesNumber_130 : decode cX7_takesNumber 130 = .ok (.goto (-56), 3) := by decide +kernel
theorem dX7_takesNumber_133 : decode cX7_takesNumber 133 = .ok (.aload_n 0, 1) := by decide +kernel
theorem dX7_takesNumber_134 : decode cX7_takesNumber 134 = .ok (.iload_n 2, 1) := by decide +kernel
theorem dX7_takesNumber_135 : decode cX7_takesNumber 135 = .ok (.ifCond .eq 11, 3) := by decide +kernel
theorem dX7_takesNumber_138 : decode cX7_takesNumber 138 = .ok (.aload_n 0, 1) := by decide +kernel
theorem dX7_takesNumber_139 : decode cX7_takesNumber 139 = .ok (.getfield 161, 3) := by decide +kernel
theorem dX7_takesNumber_142 : decode cX7_takesNumber 142 = .ok (.ineg, 1) := by decide +kernel
theorem dX7_takesNumber_143 : decode cX7_takesNumber 143 = .ok (.goto 7, 3) := by decide +kernel
theorem dX7_takesNumber_146 : decode cX7_takesNumber 146 = .ok (.aload_n 0, 1) := by decide +kernel
theorem dX7_takesNumber_147 : decode cX7_takesNumber 147 = .ok (.getfield 161, 3) := by decide +kernel
theorem dX7_takesNumber_150 : decode cX7_takesNumber 150 = .ok (.putfield 161, 3) := by decide +kernel
theorem dX7_takesNumber_153 : decode cX7_takesNumber 153 = .ok (.iconst 1, 1) := by decide +kernel
theorem dX7_takesNumber_154 : decode cX7_takesNumber 154 = .ok (.ireturn, 1) := by decide +kernel
set_option maxRecDepth 20000 in
theorem ggX7_isRead_X7_takes : GoodIn wsX7_isRead wsX7_takes := goodIn_r _ [9, 1, 4, 10, 22, 23, 24, 25, 26, 27, 28, 29, 30, 31, 32, 33, 34, 35, 36, 37, 38, 39, 40] (by decide +kernel) (by decide +kernel)
set_option maxRecDepth 20000 in
theorem gX7_isRead_X7_takes : GoodIn wsX7_isRead (wsV RX7 155 RX7 yX7_takes wsX7_takes) := goodIn_app (goodIn_of _ (by decide +kernel)) ggX7_isRead_X7_takes
set_option maxRecDepth 20000 in
theorem ggX7_isRead_X7_takesNumber : GoodIn wsX7_isRead wsX7_takesNumber := goodIn_r _ [14, 10, 1, 3, 5, 6, 7, 8, 9, 4, 15, 16, 17, 18, 19, 20, 21, 22, 23, 24, 25, 26, 27, 28, 29, 30, 31, 32, 33, 34, 35, 36, 37, 38, 39, 40] (by decide +kernel) (by decide +kernel)
set_option maxRecDepth 20000 in
theorem gX7_isRead_X7_takesNumber : GoodIn wsX7_isRead (wsV RX7 164 RX7 yX7_takesNumber wsX7_takesNumber) := goodIn_app (goodIn_of _ (by decide +kernel)) ggX7_isRead_X7_takesNumber
theorem dX7_isRead_0 : decode cX7_isRead 0 = .ok (.aload_n 0, 1) := by decide +kernel
theorem dX7_isRead_1 : decode cX7_isRead 1 = .ok (.iconst 0, 1) := by decide +kernel
theorem dX7_isRead_2 : decode cX7_isRead 2 = .ok (.putfield 152, 3) := by decide +kernel
theorem dX7_isRead_5 : decode cX7_isRead 5 = .ok (.aload_n 0, 1) := by decide +kernel
theorem dX7_isRead_6 : decode cX7_isRead 6 = .ok (.getfield 35, 3) := by decide +kernel
theorem dX7_isRead_9 : decode cX7_isRead 9 = .ok (.iconst 4, 1) := by decide +kernel
theorem dX7_isRead_10 : decode cX7_isRead 10 = .ok (.sipush 360, 3) := by decide +kernel
theorem dX7_isRead_13 : decode cX7_isRead 13 = .ok (.iastore, 1) := by decide +kernel
theorem dX7_isRead_14 : decode cX7_isRead 14 = .ok (.aload_n 0, 1) := by decide +kernel
theorem dX7_isRead_15 : decode cX7_isRead 15 = .ok (.getfield 35, 3) := by decide +kernel
theorem dX7_isRead_18 : decode cX7_isRead 18 = .ok (.iconst 5, 1) := by decide +kernel
theorem dX7_isRead_19 : decode cX7_isRead 19 = .ok (.iconst 0, 1) := by decide +kernel
theorem dX7_isRead_20 : decode cX7_isRead 20 = .ok (.iastore, 1) := by decide +kernel
theorem dX7_isRead_21 : decode cX7_isRead 21 = .ok (.iconst 0, 1) := by decide +kernel
theorem dX7_isRead_22 : decode cX7_isRead 22 = .ok (.istore_n 1, 1) := by decide +kernel
theorem dX7_isRead_23 : decode cX7_isRead 23 = .ok (.iload_n 1, 1) := by decide +kernel
theorem dX7_isRead_24 : decode cX7_isRead 24 = .ok (.bipush 6, 2) := by decide +kernel
theorem dX7_isRead_26 : decode cX7_isRead 26 = .ok (.if_icmp .ge 94, 3) := by decide +kernel
theorem dX7_isRead_29 : decode cX7_isRead 29 = .ok (.iload_n 1, 1) := by decide +kernel
theorem dX7_isRead_30 : decode cX7_isRead 30 = .ok (.ifCond .le 32, 3) := by decide +kernel
theorem dX7_isRead_33 : decode cX7_isRead 33 = .ok (.aload_n 0, 1) := by decide +kernel
theorem dX7_isRead_34 : decode cX7_isRead 34 = .ok (.iload_n 1, 1) := by decide +kernel
theorem dX7_isRead_35 : decode cX7_isRead 35 = .ok (.iconst 1, 1) := by decide +kernel
theorem dX7_isRead_36 : decode cX7_isRead 36 = .ok (.if_icmp .ne 8, 3) := by decide +kernel
theorem dX7_isRead_39 : decode cX7_isRead 39 = .ok (.bipush 58, 2) := by decide +kernel
theorem dX7_isRead_41 : decode cX7_isRead 41 = .ok (.goto 15, 3) := by decide +kernel
theorem dX7_isRead_44 : decode cX7_isRead 44 = .ok (.iload_n 1, 1) := by decide +kernel
theorem dX7_isRead_45 : decode cX7_isRead 45 = .ok (.iconst 4, 1) := by decide +kernel
theorem dX7_isRead_46 : decode cX7_isRead 46 = .ok (.if_icmp .ne 8, 3) := by decide +kernel
theorem dX7_isRead_49 : decode cX7_isRead 49 = .ok (.bipush 64, 2) := by decide +kernel
theorem dX7_isRead_51 : decode cX7_isRead 51 = .ok (.goto 5, 3) := by decide +kernel
theorem dX7_isRead_54 : decode cX7_isRead 54 = .ok (.bipush 44, 2) := by decide +kernel
theorem dX7_isRead_56 : decode cX7_isRead 56 = .ok (.invokevirtual 155, 3) := by decide +kernel
theorem dX7_isRead_59 : decode cX7_isRead 59 = .ok (.ifCond .eq 25, 3) := by decide +kernel
theorem dX7_isRead_62 : decode cX7_isRead 62 = .ok (.aload_n 0, 1) := by decide +kernel
theorem dX7_isRead_63 : decode cX7_isRead 63 = .ok (.iload_n 1, 1) := by decide +kernel
theorem dX7_isRead_64 : decode cX7_isRead 64 = .ok (.iconst 1, 1) := by decide +kernel
theorem dX7_isRead_65 : decode cX7_isRead 65 = .ok (.if_icmp .eq 8, 3) := by decide +kernel
theorem dX7_isRead_68 : decode cX7_isRead 68 = .ok (.iload_n 1, 1) := by decide +kernel
theorem dX7_isRead_69 : decode cX7_isRead 69 = .ok (.iconst 2, 1) := by decide +kernel
theorem dX7_isRead_70 : decode cX7_isRead 70 = .ok (.if_icmp .ne 7, 3) := by decide +kernel
theorem dX7_isRead_73 : decode cX7_isRead 73 = .ok (.iconst 1, 1) := by decide +kernel
theorem dX7_isRead_74 : decode cX7_isRead 74 = .ok (.goto 4, 3) := by decide +kernel
theorem dX7_isRead_77 : decode cX7_isRead 77 = .ok (.iconst 0, 1) := by decide +kernel
theorem dX7_isRead_78 : decode cX7_isRead 78 = .ok (.invokevirtual 164, 3) := by decide +kernel
theorem dX7_isRead_81 : decode cX7_isRead 81 = .ok (.ifCond .ne 5, 3) := by decide +kernel
theorem dX7_isRead_84 : decode cX7_isRead 84 = .ok (.iconst 0, 1) := by decide +kernel
theorem dX7_isRead_85 : decode cX7_isRead 85 = .ok (.ireturn, 1) := by decide +kernel
theorem dX7_isRead_86 : decode cX7_isRead 86 = .ok (.aload_n 0, 1) := by decide +kernel
theorem dX7_isRead_87 : decode cX7_isRead 87 = .ok (.getfield 35, 3) := by decide +kernel
theorem dX7_isRead_90 : decode cX7_isRead 90 = .ok (.iload_n 1, 1) := by decide +kernel
theorem dX7_isRead_91 : decode cX7_isRead 91 = .ok (.aload_n 0, 1) := by decide +kernel
theorem dX7_isRead_92 : decode cX7_isRead 92 = .ok (.getfield 161, 3) := by decide +kernel
theorem dX7_isRead_95 : decode cX7_isRead 95 = .ok (.iastore, 1) := by decide +kernel
theorem dX7_isRead_96 : decode cX7_isRead 96 = .ok (.iload_n 1, 1) := by decide +kernel
theorem dX7_isRead_97 : decode cX7_isRead 97 = .ok (.iconst 3, 1) := by decide +kernel
theorem dX7_isRead_98 : decode cX7_isRead 98 = .ok (.if_icmp .ne 16, 3) := by decide +kernel
theorem dX7_isRead_101 : decode cX7_isRead 101 = .ok (.aload_n 0, 1) := by decide +kernel
theorem dX7_isRead_102 : decode cX7_isRead 102 = .ok (.getfield 152, 3) := by decide +kernel
theorem dX7_isRead_105 : decode cX7_isRead 105 = .ok (.aload_n 0, 1) := by decide +kernel
theorem dX7_isRead_106 : decode cX7_isRead 106 = .ok (.getfield 149, 3) := by decide +kernel
theorem dX7_isRead_109 : decode cX7_isRead 109 = .ok (.if_icmp .ne 5, 3) := by decide +kernel
theorem dX7_isRead_112 : decode cX7_isRead 112 = .ok (.iconst 1, 1) := by decide +kernel
theorem dX7_isRead_113 : decode cX7_isRead 113 = .ok (.ireturn, 1) := by decide +kernel
theorem dX7_isRead_114 : decode cX7_isRead 114 = .ok (.iinc 1 1, 3) := by decide +kernel
theorem dX7_isRead_117 : decode cX7_isRead 117 = .ok (.goto (-94), 3) := by decide +kernel
theorem dX7_isRead_120 : decode cX7_isRead 120 = .ok (.aload_n 0, 1) := by decide +kernel
theorem dX7_isRead_121 : decode cX7_isRead 121 = .ok (.getfield 152, 3) := by decide +kernel
theorem dX7_isRead_124 : decode cX7_isRead 124 = .ok (.aload_n 0, 1) := by decide +kernel
theorem dX7_isRead_125 : decode cX7_isRead 125 = .ok (.getfield 149, 3) := by decide +kernel
theorem dX7_isRead_128 : decode cX7_isRead 128 = .ok (.if_icmp .ne 7, 3) := by decide +kernel
theorem dX7_isRead_131 : decode cX7_isRead 131 = .ok (.iconst 1, 1) := by decide +kernel
theorem dX7_isRead_132 : decode cX7_isRead 132 = .ok (.goto 4, 3) := by decide +kernel
theorem dX7_isRead_135 : decode cX7_isRead 135 = .ok (.iconst 0, 1) := by decide +kernel
theorem dX7_isRead_136 : decode cX7_isRead 136 = .ok (.ireturn, 1) := by decide +kernel
set_option maxRecDepth 20000 in
theorem ggX7_readPhoto_X7_isRead : GoodIn wsX7_readPhoto wsX7_isRead := goodIn_r _ [7, 1, 2, 8, 9, 10, 11, 12, 6, 13, 14, 15, 16, 17, 18, 19, 20, 21, 22, 23, 24, 25, 52, 53, 54, 55, 56, 57, 58, 59, 60, 61, 62, 63, 64, 65, 66, 67, 68, 69, 70] (by decide +kernel) (by decide +kernel)
set_option maxRecDepth 20000 in
theorem gX7_readPhoto_X7_isRead : GoodIn wsX7_readPhoto (wsV RX7 168 RX7 yX7_isRead wsX7_isRead) := goodIn_app (goodIn_of _ (by decide +kernel)) ggX7_readPhoto_X7_isRead
set_option maxRecDepth 20000 in
theorem ggX7_readPhoto_X7_isTold : GoodIn wsX7_readPhoto wsX7_isTold := goodIn_r _ [29, 9, 14, 52, 53, 54, 55, 56, 57, 58, 59, 60, 61, 62, 63, 64, 65, 66, 67, 68, 69, 70] (by decide +kernel) (by decide +kernel)
set_option maxRecDepth 20000 in
theorem gX7_readPhoto_X7_isTold : GoodIn wsX7_readPhoto (wsV RX7 171 RX7 yX7_isTold wsX7_isTold) := goodIn_app (goodIn_of _ (by decide +kernel)) ggX7_readPhoto_X7_isTold
set_option maxRecDepth 20000 in
theorem ggX7_readPhoto_X7_isPhoto : GoodIn wsX7_readPhoto wsX7_isPhoto := goodIn_r _ [32, 23, 24, 6, 25] (by decide +kernel) (by decide +kernel)
set_option maxRecDepth 20000 in
theorem gX7_readPhoto_X7_isPhoto : GoodIn wsX7_readPhoto (va_wsS RX7 136 yX7_isPhoto wsX7_isPhoto) := goodIn_app (goodIn_of _ (by decide +kernel)) ggX7_readPhoto_X7_isPhoto
set_option maxRecDepth 20000 in
theorem ggX7_readPhoto_X7_in : GoodIn wsX7_readPhoto wsX7_in := goodIn_r _ [25] (by decide +kernel) (by decide +kernel)
set_option maxRecDepth 20000 in
theorem gX7_readPhoto_X7_in : GoodIn wsX7_readPhoto (va_wsS RX7 38 yX7_in wsX7_in) := goodIn_app (goodIn_of _ (by decide +kernel)) ggX7_readPhoto_X7_in
set_option maxRecDepth 20000 in
theorem ggX7_readPhoto_X7_comes : GoodIn wsX7_readPhoto wsX7_comes := goodIn_r _ [36, 37, 38, 39, 40, 6, 41, 42, 43, 44, 45, 46, 47, 48, 49, 50, 51, 52, 53, 54, 55, 56, 57, 58, 59, 60, 61, 62, 63, 64, 65, 66, 67, 68, 69, 70] (by decide +kernel) (by decide +kernel)
set_option maxRecDepth 20000 in
theorem gX7_readPhoto_X7_comes : GoodIn wsX7_readPhoto (wsV RX7 139 RX7 yX7_comes wsX7_comes) := goodIn_app (goodIn_of _ (by decide +kernel)) ggX7_readPhoto_X7_comes
theorem dX7_readPhoto_0 : decode cX7_readPhoto 0 = .ok (.aload_n 0, 1) := by decide +kernel
theorem dX7_readPhoto_1 : decode cX7_readPhoto 1 = .ok (.invokevirtual 168, 3) := by decide +kernel
theorem dX7_readPhoto_4 : decode cX7_readPhoto 4 = .ok (.ifCond .ne 11, 3) := by decide +kernel
theorem dX7_readPhoto_7 : decode cX7_readPhoto 7 = .ok (.bipush (-100), 2) := by decide +kernel
theorem dX7_readPhoto_9 : decode cX7_readPhoto 9 = .ok (.aload_n 0, 1) := by decide +kernel
theorem dX7_readPhoto_10 : decode cX7_readPhoto 10 = .ok (.getfield 152, 3) := by decide +kernel
theorem dX7_readPhoto_13 : decode cX7_readPhoto 13 = .ok (.isub, 1) := by decide +kernel
theorem dX7_readPhoto_14 : decode cX7_readPhoto 14 = .ok (.ireturn, 1) := by decide +kernel
theorem dX7_readPhoto_15 : decode cX7_readPhoto 15 = .ok (.aload_n 0, 1) := by decide +kernel
theorem dX7_readPhoto_16 : decode cX7_readPhoto 16 = .ok (.getfield 35, 3) := by decide +kernel
theorem dX7_readPhoto_19 : decode cX7_readPhoto 19 = .ok (.iconst 4, 1) := by decide +kernel
theorem dX7_readPhoto_20 : decode cX7_readPhoto 20 = .ok (.iaload, 1) := by decide +kernel
theorem dX7_readPhoto_21 : decode cX7_readPhoto 21 = .ok (.sipush 360, 3) := by decide +kernel
theorem dX7_readPhoto_24 : decode cX7_readPhoto 24 = .ok (.if_icmp .ne 23, 3) := by decide +kernel
theorem dX7_readPhoto_27 : decode cX7_readPhoto 27 = .ok (.aload_n 0, 1) := by decide +kernel
theorem dX7_readPhoto_28 : decode cX7_readPhoto 28 = .ok (.getfield 35, 3) := by decide +kernel
theorem dX7_readPhoto_31 : decode cX7_readPhoto 31 = .ok (.iconst 5, 1) := by decide +kernel
theorem dX7_readPhoto_32 : decode cX7_readPhoto 32 = .ok (.iaload, 1) := by decide +kernel
theorem dX7_readPhoto_33 : decode cX7_readPhoto 33 = .ok (.ifCond .ne 14, 3) := by decide +kernel
theorem dX7_readPhoto_36 : decode cX7_readPhoto 36 = .ok (.aload_n 0, 1) := by decide +kernel
theorem dX7_readPhoto_37 : decode cX7_readPhoto 37 = .ok (.invokevirtual 171, 3) := by decide +kernel
theorem dX7_readPhoto_40 : decode cX7_readPhoto 40 = .ok (.ifCond .ne 7, 3) := by decide +kernel
theorem dX7_readPhoto_43 : decode cX7_readPhoto 43 = .ok (.iconst 1, 1) := by decide +kernel
theorem dX7_readPhoto_44 : decode cX7_readPhoto 44 = .ok (.goto 4, 3) := by decide +kernel
theorem dX7_readPhoto_47 : decode cX7_readPhoto 47 = .ok (.iconst 0, 1) := by decide +kernel
theorem dX7_readPhoto_48 : decode cX7_readPhoto 48 = .ok (.istore_n 1, 1) := by decide +kernel
theorem dX7_readPhoto_49 : decode cX7_readPhoto 49 = .ok (.aload_n 0, 1) := by decide +kernel
theorem dX7_readPhoto_50 : decode cX7_readPhoto 50 = .ok (.getfield 35, 3) := by decide +kernel
theorem dX7_readPhoto_53 : decode cX7_readPhoto 53 = .ok (.iconst 0, 1) := by decide +kernel
theorem dX7_readPhoto_54 : decode cX7_readPhoto 54 = .ok (.iaload, 1) := by decide +kernel
theorem dX7_readPhoto_55 : decode cX7_readPhoto 55 = .ok (.aload_n 0, 1) := by decide +kernel
theorem dX7_readPhoto_56 : decode cX7_readPhoto 56 = .ok (.getfield 35, 3) := by decide +kernel
theorem dX7_readPhoto_59 : decode cX7_readPhoto 59 = .ok (.iconst 1, 1) := by decide +kernel
theorem dX7_readPhoto_60 : decode cX7_readPhoto 60 = .ok (.iaload, 1) := by decide +kernel
theorem dX7_readPhoto_61 : decode cX7_readPhoto 61 = .ok (.aload_n 0, 1) := by decide +kernel
theorem dX7_readPhoto_62 : decode cX7_readPhoto 62 = .ok (.getfield 35, 3) := by decide +kernel
theorem dX7_readPhoto_65 : decode cX7_readPhoto 65 = .ok (.iconst 2, 1) := by decide +kernel
theorem dX7_readPhoto_66 : decode cX7_readPhoto 66 = .ok (.iaload, 1) := by decide +kernel
theorem dX7_readPhoto_67 : decode cX7_readPhoto 67 = .ok (.aload_n 0, 1) := by decide +kernel
theorem dX7_readPhoto_68 : decode cX7_readPhoto 68 = .ok (.getfield 35, 3) := by decide +kernel
theorem dX7_readPhoto_71 : decode cX7_readPhoto 71 = .ok (.iconst 3, 1) := by decide +kernel
theorem dX7_readPhoto_72 : decode cX7_readPhoto 72 = .ok (.iaload, 1) := by decide +kernel
theorem dX7_readPhoto_73 : decode cX7_readPhoto 73 = .ok (.invokestatic 136, 3) := by decide +kernel
theorem dX7_readPhoto_76 : decode cX7_readPhoto 76 = .ok (.ifCond .eq 38, 3) := by decide +kernel
theorem dX7_readPhoto_79 : decode cX7_readPhoto 79 = .ok (.iload_n 1, 1) := by decide +kernel
theorem dX7_readPhoto_80 : decode cX7_readPhoto 80 = .ok (.ifCond .ne 37, 3) := by decide +kernel
theorem dX7_readPhoto_83 : decode cX7_readPhoto 83 = .ok (.aload_n 0, 1) := by decide +kernel
theorem dX7_readPhoto_84 : decode cX7_readPhoto 84 = .ok (.getfield 35, 3) := by decide +kernel
theorem dX7_readPhoto_87 : decode cX7_readPhoto 87 = .ok (.iconst 4, 1) := by decide +kernel
theorem dX7_readPhoto_88 : decode cX7_readPhoto 88 = .ok (.iaload, 1) := by decide +kernel
theorem dX7_readPhoto_89 : decode cX7_readPhoto 89 = .ok (.iconst 0, 1) := by decide +kernel
theorem dX7_readPhoto_90 : decode cX7_readPhoto 90 = .ok (.sipush 359, 3) := by decide +kernel
theorem dX7_readPhoto_93 : decode cX7_readPhoto 93 = .ok (.invokestatic 38, 3) := by decide +kernel
theorem dX7_readPhoto_96 : decode cX7_readPhoto 96 = .ok (.ifCond .eq 18, 3) := by decide +kernel
theorem dX7_readPhoto_99 : decode cX7_readPhoto 99 = .ok (.aload_n 0, 1) := by decide +kernel
theorem dX7_readPhoto_100 : decode cX7_readPhoto 100 = .ok (.getfield 35, 3) := by decide +kernel
theorem dX7_readPhoto_103 : decode cX7_readPhoto 103 = .ok (.iconst 5, 1) := by decide +kernel
theorem dX7_readPhoto_104 : decode cX7_readPhoto 104 = .ok (.iaload, 1) := by decide +kernel
theorem dX7_readPhoto_105 : decode cX7_readPhoto 105 = .ok (.iconst 0, 1) := by decide +kernel
theorem dX7_readPhoto_106 : decode cX7_readPhoto 106 = .ok (.bipush 60, 2) := by decide +kernel
theorem dX7_readPhoto_108 : decode cX7_readPhoto 108 = .ok (.invokestatic 38, 3) := by decide +kernel
theorem dX7_readPhoto_111 : decode cX7_readPhoto 111 = .ok (.ifCond .ne 6, 3) := by decide +kernel
theorem dX7_readPhoto_114 : decode cX7_readPhoto 114 = .ok (.bipush (-2), 2) := by decide +kernel
theorem dX7_readPhoto_116 : decode cX7_readPhoto 116 = .ok (.ireturn, 1) := by decide +kernel
theorem dX7_readPhoto_117 : decode cX7_readPhoto 117 = .ok (.aload_n 0, 1) := by decide +kernel
theorem dX7_readPhoto_118 : decode cX7_readPhoto 118 = .ok (.aload_n 0, 1) := by decide +kernel
theorem dX7_readPhoto_119 : decode cX7_readPhoto 119 = .ok (.getfield 35, 3) := by decide +kernel
theorem dX7_readPhoto_122 : decode cX7_readPhoto 122 = .ok (.iconst 0, 1) := by decide +kernel
theorem dX7_readPhoto_123 : decode cX7_readPhoto 123 = .ok (.iaload, 1) := by decide +kernel
theorem dX7_readPhoto_124 : decode cX7_readPhoto 124 = .ok (.aload_n 0, 1) := by decide +kernel
theorem dX7_readPhoto_125 : decode cX7_readPhoto 125 = .ok (.getfield 35, 3) := by decide +kernel
theorem dX7_readPhoto_128 : decode cX7_readPhoto 128 = .ok (.iconst 1, 1) := by decide +kernel
theorem dX7_readPhoto_129 : decode cX7_readPhoto 129 = .ok (.iaload, 1) := by decide +kernel
theorem dX7_readPhoto_130 : decode cX7_readPhoto 130 = .ok (.aload_n 0, 1) := by decide +kernel
theorem dX7_readPhoto_131 : decode cX7_readPhoto 131 = .ok (.getfield 35, 3) := by decide +kernel
theorem dX7_readPhoto_134 : decode cX7_readPhoto 134 = .ok (.iconst 2, 1) := by decide +kernel
theorem dX7_readPhoto_135 : decode cX7_readPhoto 135 = .ok (.iaload, 1) := by decide +kernel
theorem dX7_readPhoto_136 : decode cX7_readPhoto 136 = .ok (.aload_n 0, 1) := by decide +kernel
theorem dX7_readPhoto_137 : decode cX7_readPhoto 137 = .ok (.getfield 35, 3) := by decide +kernel
theorem dX7_readPhoto_140 : decode cX7_readPhoto 140 = .ok (.iconst 3, 1) := by decide +kernel
theorem dX7_readPhoto_141 : decode cX7_readPhoto 141 = .ok (.iaload, 1) := by decide +kernel
theorem dX7_readPhoto_142 : decode cX7_readPhoto 142 = .ok (.aload_n 0, 1) := by decide +kernel
theorem dX7_readPhoto_143 : decode cX7_readPhoto 143 = .ok (.getfield 35, 3) := by decide +kernel
theorem dX7_readPhoto_146 : decode cX7_readPhoto 146 = .ok (.iconst 4, 1) := by decide +kernel
theorem dX7_readPhoto_147 : decode cX7_readPhoto 147 = .ok (.iaload, 1) := by decide +kernel
theorem dX7_readPhoto_148 : decode cX7_readPhoto 148 = .ok (.aload_n 0, 1) := by decide +kernel
theorem dX7_readPhoto_149 : decode cX7_readPhoto 149 = .ok (.getfield 35, 3) := by decide +kernel
theorem dX7_readPhoto_152 : decode cX7_readPhoto 152 = .ok (.iconst 5, 1) := by decide +kernel
theorem dX7_readPhoto_153 : decode cX7_readPhoto 153 = .ok (.iaload, 1) := by decide +kernel
theorem dX7_readPhoto_154 : decode cX7_readPhoto 154 = .ok (.invokevirtual 139, 3) := by decide +kernel
theorem dX7_readPhoto_157 : decode cX7_readPhoto 157 = .ok (.ireturn, 1) := by decide +kernel
theorem dX7_isTold_0 : decode cX7_isTold 0 = .ok (.iconst 0, 1) := by decide +kernel
theorem dX7_isTold_1 : decode cX7_isTold 1 = .ok (.istore_n 1, 1) := by decide +kernel
theorem dX7_isTold_2 : decode cX7_isTold 2 = .ok (.iconst 0, 1) := by decide +kernel
theorem dX7_isTold_3 : decode cX7_isTold 3 = .ok (.istore_n 2, 1) := by decide +kernel
theorem dX7_isTold_4 : decode cX7_isTold 4 = .ok (.iload_n 2, 1) := by decide +kernel
theorem dX7_isTold_5 : decode cX7_isTold 5 = .ok (.aload_n 0, 1) := by decide +kernel
theorem dX7_isTold_6 : decode cX7_isTold 6 = .ok (.getfield 149, 3) := by decide +kernel
theorem dX7_isTold_9 : decode cX7_isTold 9 = .ok (.if_icmp .ge 28, 3) := by decide +kernel
theorem dX7_isTold_12 : decode cX7_isTold 12 = .ok (.iload_n 1, 1) := by decide +kernel
theorem dX7_isTold_13 : decode cX7_isTold 13 = .ok (.aload_n 0, 1) := by decide +kernel
theorem dX7_isTold_14 : decode cX7_isTold 14 = .ok (.getfield 31, 3) := by decide +kernel
theorem dX7_isTold_17 : decode cX7_isTold 17 = .ok (.iload_n 2, 1) := by decide +kernel
theorem dX7_isTold_18 : decode cX7_isTold 18 = .ok (.caload, 1) := by decide +kernel
theorem dX7_isTold_19 : decode cX7_isTold 19 = .ok (.bipush 64, 2) := by decide +kernel
theorem dX7_isTold_21 : decode cX7_isTold 21 = .ok (.if_icmp .ne 7, 3) := by decide +kernel
theorem dX7_isTold_24 : decode cX7_isTold 24 = .ok (.iconst 1, 1) := by decide +kernel
theorem dX7_isTold_25 : decode cX7_isTold 25 = .ok (.goto 4, 3) := by decide +kernel
theorem dX7_isTold_28 : decode cX7_isTold 28 = .ok (.iconst 0, 1) := by decide +kernel
theorem dX7_isTold_29 : decode cX7_isTold 29 = .ok (.ior, 1) := by decide +kernel
theorem dX7_isTold_30 : decode cX7_isTold 30 = .ok (.istore_n 1, 1) := by decide +kernel
theorem dX7_isTold_31 : decode cX7_isTold 31 = .ok (.iinc 2 1, 3) := by decide +kernel
theorem dX7_isTold_34 : decode cX7_isTold 34 = .ok (.goto (-30), 3) := by decide +kernel
theorem dX7_isTold_37 : decode cX7_isTold 37 = .ok (.iload_n 1, 1) := by decide +kernel
theorem dX7_isTold_38 : decode cX7_isTold 38 = .ok (.ireturn, 1) := by decide +kernel
theorem dX7_undo_0 : decode cX7_undo 0 = .ok (.aload_n 0, 1) := by decide +kernel
theorem dX7_undo_1 : decode cX7_undo 1 = .ok (.getfield 50, 3) := by decide +kernel
theorem dX7_undo_4 : decode cX7_undo 4 = .ok (.ifCond .ne 6, 3) := by decide +kernel
theorem dX7_undo_7 : decode cX7_undo 7 = .ok (.bipush (-5), 2) := by decide +kernel
theorem dX7_undo_9 : decode cX7_undo 9 = .ok (.ireturn, 1) := by decide +kernel
theorem dX7_undo_10 : decode cX7_undo 10 = .ok (.aload_n 0, 1) := by decide +kernel
theorem dX7_undo_11 : decode cX7_undo 11 = .ok (.dup, 1) := by decide +kernel
theorem dX7_undo_12 : decode cX7_undo 12 = .ok (.getfield 50, 3) := by decide +kernel
theorem dX7_undo_15 : decode cX7_undo 15 = .ok (.iconst 1, 1) := by decide +kernel
theorem dX7_undo_16 : decode cX7_undo 16 = .ok (.isub, 1) := by decide +kernel
theorem dX7_undo_17 : decode cX7_undo 17 = .ok (.putfield 50, 3) := by decide +kernel
theorem dX7_undo_20 : decode cX7_undo 20 = .ok (.iconst 0, 1) := by decide +kernel
theorem dX7_undo_21 : decode cX7_undo 21 = .ok (.istore_n 1, 1) := by decide +kernel
theorem dX7_undo_22 : decode cX7_undo 22 = .ok (.iload_n 1, 1) := by decide +kernel
theorem dX7_undo_23 : decode cX7_undo 23 = .ok (.bipush 71, 2) := by decide +kernel
theorem dX7_undo_25 : decode cX7_undo 25 = .ok (.if_icmp .ge 29, 3) := by decide +kernel
theorem dX7_undo_28 : decode cX7_undo 28 = .ok (.aload_n 0, 1) := by decide +kernel
theorem dX7_undo_29 : decode cX7_undo 29 = .ok (.getfield 7, 3) := by decide +kernel
theorem dX7_undo_32 : decode cX7_undo 32 = .ok (.iload_n 1, 1) := by decide +kernel
theorem dX7_undo_33 : decode cX7_undo 33 = .ok (.aload_n 0, 1) := by decide +kernel
theorem dX7_undo_34 : decode cX7_undo 34 = .ok (.getfield 13, 3) := by decide +kernel
theorem dX7_undo_37 : decode cX7_undo 37 = .ok (.bipush 71, 2) := by decide +kernel
theorem dX7_undo_39 : decode cX7_undo 39 = .ok (.aload_n 0, 1) := by decide +kernel
theorem dX7_undo_40 : decode cX7_undo 40 = .ok (.getfield 50, 3) := by decide +kernel
theorem dX7_undo_43 : decode cX7_undo 43 = .ok (.imul, 1) := by decide +kernel
theorem dX7_undo_44 : decode cX7_undo 44 = .ok (.iload_n 1, 1) := by decide +kernel
theorem dX7_undo_45 : decode cX7_undo 45 = .ok (.iadd, 1) := by decide +kernel
theorem dX7_undo_46 : decode cX7_undo 46 = .ok (.iaload, 1) := by decide +kernel
theorem dX7_undo_47 : decode cX7_undo 47 = .ok (.iastore, 1) := by decide +kernel
theorem dX7_undo_48 : decode cX7_undo 48 = .ok (.iinc 1 1, 3) := by decide +kernel
theorem dX7_undo_51 : decode cX7_undo 51 = .ok (.goto (-29), 3) := by decide +kernel
theorem dX7_undo_54 : decode cX7_undo 54 = .ok (.aload_n 0, 1) := by decide +kernel
theorem dX7_undo_55 : decode cX7_undo 55 = .ok (.getfield 50, 3) := by decide +kernel
theorem dX7_undo_58 : decode cX7_undo 58 = .ok (.ireturn, 1) := by decide +kernel
theorem dX7_keep_0 : decode cX7_keep 0 = .ok (.iconst 0, 1) := by decide +kernel
theorem dX7_keep_1 : decode cX7_keep 1 = .ok (.istore_n 1, 1) := by decide +kernel
theorem dX7_keep_2 : decode cX7_keep 2 = .ok (.iload_n 1, 1) := by decide +kernel
theorem dX7_keep_3 : decode cX7_keep 3 = .ok (.bipush 71, 2) := by decide +kernel
theorem dX7_keep_5 : decode cX7_keep 5 = .ok (.if_icmp .ge 21, 3) := by decide +kernel
theorem dX7_keep_8 : decode cX7_keep 8 = .ok (.aload_n 0, 1) := by decide +kernel
theorem dX7_keep_9 : decode cX7_keep 9 = .ok (.getfield 16, 3) := by decide +kernel
theorem dX7_keep_12 : decode cX7_keep 12 = .ok (.iload_n 1, 1) := by decide +kernel
theorem dX7_keep_13 : decode cX7_keep 13 = .ok (.aload_n 0, 1) := by decide +kernel
theorem dX7_keep_14 : decode cX7_keep 14 = .ok (.getfield 7, 3) := by decide +kernel
theorem dX7_keep_17 : decode cX7_keep 17 = .ok (.iload_n 1, 1) := by decide +kernel
theorem dX7_keep_18 : decode cX7_keep 18 = .ok (.iaload, 1) := by decide +kernel
theorem dX7_keep_19 : decode cX7_keep 19 = .ok (.iastore, 1) := by decide +kernel
theorem dX7_keep_20 : decode cX7_keep 20 = .ok (.iinc 1 1, 3) := by decide +kernel
theorem dX7_keep_23 : decode cX7_keep 23 = .ok (.goto (-21), 3) := by decide +kernel
theorem dX7_keep_26 : decode cX7_keep 26 = .ok (.aload_n 0, 1) := by decide +kernel
theorem dX7_keep_27 : decode cX7_keep 27 = .ok (.iconst 1, 1) := by decide +kernel
theorem dX7_keep_28 : decode cX7_keep 28 = .ok (.putfield 174, 3) := by decide +kernel
theorem dX7_keep_31 : decode cX7_keep 31 = .ok (.aload_n 0, 1) := by decide +kernel
theorem dX7_keep_32 : decode cX7_keep 32 = .ok (.getfield 7, 3) := by decide +kernel
theorem dX7_keep_35 : decode cX7_keep 35 = .ok (.bipush 70, 2) := by decide +kernel
theorem dX7_keep_37 : decode cX7_keep 37 = .ok (.iaload, 1) := by decide +kernel
theorem dX7_keep_38 : decode cX7_keep 38 = .ok (.ireturn, 1) := by decide +kernel
set_option maxRecDepth 20000 in
theorem ggX7_restore_X7_record : GoodIn wsX7_restore wsX7_record := goodIn_r _ [8, 9, 10, 2, 11, 12, 13, 14, 15, 16, 17, 18, 19, 20, 21, 22, 23, 24, 25, 26, 27, 28, 29] (by decide +kernel) (by decide +kernel)
set_option maxRecDepth 20000 in
theorem gX7_restore_X7_record : GoodIn wsX7_restore (wsV RX7 133 RX7 yX7_record wsX7_record) := goodIn_app (goodIn_of _ (by decide +kernel)) ggX7_restore_X7_record
theorem dX7_restore_0 : decode cX7_restore 0 = .ok (.aload_n 0, 1) := by decide +kernel
theorem dX7_restore_1 : decode cX7_restore 1 = .ok (.getfield 174, 3) := by decide +kernel
theorem dX7_restore_4 : decode cX7_restore 4 = .ok (.ifCond .ne 6, 3) := by decide +kernel
theorem dX7_restore_7 : decode cX7_restore 7 = .ok (.bipush (-5), 2) := by decide +kernel
theorem dX7_restore_9 : decode cX7_restore 9 = .ok (.ireturn, 1) := by decide +kernel
theorem dX7_restore_10 : decode cX7_restore 10 = .ok (.aload_n 0, 1) := by decide +kernel
theorem dX7_restore_11 : decode cX7_restore 11 = .ok (.invokevirtual 133, 3) := by decide +kernel
theorem dX7_restore_14 : decode cX7_restore 14 = .ok (.iconst 0, 1) := by decide +kernel
theorem dX7_restore_15 : decode cX7_restore 15 = .ok (.istore_n 1, 1) := by decide +kernel
theorem dX7_restore_16 : decode cX7_restore 16 = .ok (.iload_n 1, 1) := by decide +kernel
theorem dX7_restore_17 : decode cX7_restore 17 = .ok (.bipush 71, 2) := by decide +kernel
theorem dX7_restore_19 : decode cX7_restore 19 = .ok (.if_icmp .ge 21, 3) := by decide +kernel
theorem dX7_restore_22 : decode cX7_restore 22 = .ok (.aload_n 0, 1) := by decide +kernel
theorem dX7_restore_23 : decode cX7_restore 23 = .ok (.getfield 7, 3) := by decide +kernel
theorem dX7_restore_26 : decode cX7_restore 26 = .ok (.iload_n 1, 1) := by decide +kernel
theorem dX7_restore_27 : decode cX7_restore 27 = .ok (.aload_n 0, 1) := by decide +kernel
theorem dX7_restore_28 : decode cX7_restore 28 = .ok (.getfield 16, 3) := by decide +kernel
theorem dX7_restore_31 : decode cX7_restore 31 = .ok (.iload_n 1, 1) := by decide +kernel
theorem dX7_restore_32 : decode cX7_restore 32 = .ok (.iaload, 1) := by decide +kernel
theorem dX7_restore_33 : decode cX7_restore 33 = .ok (.iastore, 1) := by decide +kernel
theorem dX7_restore_34 : decode cX7_restore 34 = .ok (.iinc 1 1, 3) := by decide +kernel
theorem dX7_restore_37 : decode cX7_restore 37 = .ok (.goto (-21), 3) := by decide +kernel
theorem dX7_restore_40 : decode cX7_restore 40 = .ok (.aload_n 0, 1) := by decide +kernel
theorem dX7_restore_41 : decode cX7_restore 41 = .ok (.getfield 7, 3) := by decide +kernel
theorem dX7_restore_44 : decode cX7_restore 44 = .ok (.bipush 70, 2) := by decide +kernel
theorem dX7_restore_46 : decode cX7_restore 46 = .ok (.iaload, 1) := by decide +kernel
theorem dX7_restore_47 : decode cX7_restore 47 = .ok (.ireturn, 1) := by decide +kernel
set_option maxRecDepth 20000 in
theorem ggX7_photo_X7_no : GoodIn wsX7_photo wsX7_no := goodIn_r _ [6, 7, 8, 9, 5, 10, 43, 44, 45, 46, 47, 48, 49, 50, 51, 52, 53, 54, 55, 56, 57, 58, 59, 60, 61] (by decide +kernel) (by decide +kernel)
set_option maxRecDepth 20000 in
theorem gX7_photo_X7_no : GoodIn wsX7_photo (wsV RX7 143 RX7 yX7_no wsX7_no) := goodIn_app (goodIn_of _ (by decide +kernel)) ggX7_photo_X7_no
set_option maxRecDepth 20000 in
theorem ggX7_photo_X7_of : GoodIn wsX7_photo wsX7_of := goodIn_r _ [14, 7, 43, 44, 45, 46, 47, 48, 49, 50, 51, 52, 53, 54, 55, 56, 57, 58, 59, 60, 61] (by decide +kernel) (by decide +kernel)
set_option maxRecDepth 20000 in
theorem gX7_photo_X7_of : GoodIn wsX7_photo (wsV RX7 42 RX7 yX7_of wsX7_of) := goodIn_app (goodIn_of _ (by decide +kernel)) ggX7_photo_X7_of
set_option maxRecDepth 20000 in
theorem ggX7_photo_X7_hasAngle : GoodIn wsX7_photo wsX7_hasAngle := goodIn_r _ [18, 19, 20, 21, 5, 22, 11, 12, 13, 14, 7, 43, 44, 45, 46, 47, 48, 49, 50, 51, 52, 53, 54, 55, 56, 57, 58, 59, 60, 61] (by decide +kernel) (by decide +kernel)
set_option maxRecDepth 20000 in
theorem gX7_photo_X7_hasAngle : GoodIn wsX7_photo (wsV RX7 112 RX7 yX7_hasAngle wsX7_hasAngle) := goodIn_app (goodIn_of _ (by decide +kernel)) ggX7_photo_X7_hasAngle
set_option maxRecDepth 20000 in
theorem ggX7_photo_X7_findsSpin : GoodIn wsX7_photo wsX7_findsSpin := goodIn_r _ [26, 7, 27, 28, 1, 15, 16, 17, 5, 18, 19, 20, 21, 22, 11, 12, 13, 14, 29, 30, 31, 32, 33, 34, 35, 36, 37, 38, 39, 40, 41, 42, 43, 44, 45, 46, 47, 48, 49, 50, 51, 52, 53, 54, 55, 56, 57, 58, 59, 60, 61] (by decide +kernel) (by decide +kernel)
set_option maxRecDepth 20000 in
theorem gX7_photo_X7_findsSpin : GoodIn wsX7_photo (wsV RX7 178 RX7 yX7_findsSpin wsX7_findsSpin) := goodIn_app (goodIn_of _ (by decide +kernel)) ggX7_photo_X7_findsSpin
