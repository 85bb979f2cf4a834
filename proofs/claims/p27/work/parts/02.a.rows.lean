theorem inJ10 : ∀ w ∈ wsJ100, w ∈ lw_tbl := by decide +kernel
theorem dX0_init_0 : decode cX0_init 0 = .ok (.aload_n 0, 1) := by decide +kernel
theorem dX0_init_1 : decode cX0_init 1 = .ok (.invokespecial 3, 3) := by decide +kernel
theorem dX0_init_4 : decode cX0_init 4 = .ok (.aload_n 0, 1) := by decide +kernel
theorem dX0_init_5 : decode cX0_init 5 = .ok (.aload_n 1, 1) := by decide +kernel
theorem dX0_init_6 : decode cX0_init 6 = .ok (.putfield 9, 3) := by decide +kernel
theorem dX0_init_9 : decode cX0_init 9 = .ok (.return_, 1) := by decide +kernel
theorem dX0_lay_0 : decode cX0_lay 0 = .ok (.aload_n 0, 1) := by decide +kernel
theorem dX0_lay_1 : decode cX0_lay 1 = .ok (.iload_n 1, 1) := by decide +kernel
theorem dX0_lay_2 : decode cX0_lay 2 = .ok (.putfield 15, 3) := by decide +kernel
theorem dX0_lay_5 : decode cX0_lay 5 = .ok (.aload_n 0, 1) := by decide +kernel
theorem dX0_lay_6 : decode cX0_lay 6 = .ok (.iload_n 2, 1) := by decide +kernel
theorem dX0_lay_7 : decode cX0_lay 7 = .ok (.putfield 19, 3) := by decide +kernel
theorem dX0_lay_10 : decode cX0_lay 10 = .ok (.aload_n 0, 1) := by decide +kernel
theorem dX0_lay_11 : decode cX0_lay 11 = .ok (.iload_n 3, 1) := by decide +kernel
theorem dX0_lay_12 : decode cX0_lay 12 = .ok (.putfield 22, 3) := by decide +kernel
theorem dX0_lay_15 : decode cX0_lay 15 = .ok (.return_, 1) := by decide +kernel
set_option maxRecDepth 20000 in
theorem ggX0_layBest_X0_lay : GoodIn wsX0_layBest wsX0_lay := goodIn_r _ [7, 8, 9, 10, 42, 43, 44, 45] (by decide +kernel) (by decide +kernel)
set_option maxRecDepth 20000 in
theorem gX0_layBest_X0_lay : GoodIn wsX0_layBest (wsV RX0 30 RX0 yX0_lay wsX0_lay) := goodIn_app (goodIn_of _ (by decide +kernel)) ggX0_layBest_X0_lay
set_option maxRecDepth 20000 in
theorem ggX0_layBest_X0_missedOf : GoodIn wsX0_layBest wsX0_missedOf := goodIn_r _ [14, 1, 2, 15, 16, 17, 18, 19, 20, 21, 22, 6, 23, 8, 9, 10, 24, 25, 26, 27, 28, 29, 30, 42, 43, 44, 45, 46, 47] (by decide +kernel) (by decide +kernel)
set_option maxRecDepth 20000 in
theorem gX0_layBest_X0_missedOf : GoodIn wsX0_layBest (wsV RX0 34 RX0 yX0_missedOf wsX0_missedOf) := goodIn_app (goodIn_of _ (by decide +kernel)) ggX0_layBest_X0_missedOf
set_option maxRecDepth 20000 in
theorem ggX0_layBest_J6_bitCount_0f7a4 : GoodIn wsX0_layBest wsJ6_bitCount_0f7a4 := goodIn_r _ [34, 35, 36, 37] (by decide +kernel) (by decide +kernel)
set_option maxRecDepth 20000 in
theorem gX0_layBest_J6_bitCount_0f7a4 : GoodIn wsX0_layBest (va_wsS RX0 38 yJ6_bitCount_0f7a4 wsJ6_bitCount_0f7a4) := goodIn_app (goodIn_of _ (by decide +kernel)) ggX0_layBest_J6_bitCount_0f7a4
set_option maxRecDepth 20000 in
theorem ggX0_layBest_X0_layThrough : GoodIn wsX0_layBest wsX0_layThrough := goodIn_r _ [41, 1, 2, 8, 9, 10, 24, 25, 26, 42, 43, 44, 45, 46, 47] (by decide +kernel) (by decide +kernel)
set_option maxRecDepth 20000 in
theorem gX0_layBest_X0_layThrough : GoodIn wsX0_layBest (wsV RX0 43 RX0 yX0_layThrough wsX0_layThrough) := goodIn_app (goodIn_of _ (by decide +kernel)) ggX0_layBest_X0_layThrough
theorem dX0_layBest_0 : decode cX0_layBest 0 = .ok (.bipush 10, 2) := by decide +kernel
theorem dX0_layBest_2 : decode cX0_layBest 2 = .ok (.istore_n 2, 1) := by decide +kernel
theorem dX0_layBest_3 : decode cX0_layBest 3 = .ok (.iconst 0, 1) := by decide +kernel
theorem dX0_layBest_4 : decode cX0_layBest 4 = .ok (.istore_n 3, 1) := by decide +kernel
theorem dX0_layBest_5 : decode cX0_layBest 5 = .ok (.iconst 0, 1) := by decide +kernel
theorem dX0_layBest_6 : decode cX0_layBest 6 = .ok (.istore 4, 2) := by decide +kernel
theorem dX0_layBest_8 : decode cX0_layBest 8 = .ok (.iload 4, 2) := by decide +kernel
theorem dX0_layBest_10 : decode cX0_layBest 10 = .ok (.aload_n 0, 1) := by decide +kernel
theorem dX0_layBest_11 : decode cX0_layBest 11 = .ok (.getfield 9, 3) := by decide +kernel
theorem dX0_layBest_14 : decode cX0_layBest 14 = .ok (.getfield 25, 3) := by decide +kernel
theorem dX0_layBest_17 : decode cX0_layBest 17 = .ok (.if_icmp .ge 114, 3) := by decide +kernel
theorem dX0_layBest_20 : decode cX0_layBest 20 = .ok (.iload 4, 2) := by decide +kernel
theorem dX0_layBest_22 : decode cX0_layBest 22 = .ok (.iconst 1, 1) := by decide +kernel
theorem dX0_layBest_23 : decode cX0_layBest 23 = .ok (.iadd, 1) := by decide +kernel
theorem dX0_layBest_24 : decode cX0_layBest 24 = .ok (.istore 5, 2) := by decide +kernel
theorem dX0_layBest_26 : decode cX0_layBest 26 = .ok (.iload 5, 2) := by decide +kernel
theorem dX0_layBest_28 : decode cX0_layBest 28 = .ok (.aload_n 0, 1) := by decide +kernel
theorem dX0_layBest_29 : decode cX0_layBest 29 = .ok (.getfield 9, 3) := by decide +kernel
theorem dX0_layBest_32 : decode cX0_layBest 32 = .ok (.getfield 25, 3) := by decide +kernel
theorem dX0_layBest_35 : decode cX0_layBest 35 = .ok (.if_icmp .ge 90, 3) := by decide +kernel
theorem dX0_layBest_38 : decode cX0_layBest 38 = .ok (.iload 5, 2) := by decide +kernel
theorem dX0_layBest_40 : decode cX0_layBest 40 = .ok (.iconst 1, 1) := by decide +kernel
theorem dX0_layBest_41 : decode cX0_layBest 41 = .ok (.iadd, 1) := by decide +kernel
theorem dX0_layBest_42 : decode cX0_layBest 42 = .ok (.istore 6, 2) := by decide +kernel
theorem dX0_layBest_44 : decode cX0_layBest 44 = .ok (.iload 6, 2) := by decide +kernel
theorem dX0_layBest_46 : decode cX0_layBest 46 = .ok (.aload_n 0, 1) := by decide +kernel
theorem dX0_layBest_47 : decode cX0_layBest 47 = .ok (.getfield 9, 3) := by decide +kernel
theorem dX0_layBest_50 : decode cX0_layBest 50 = .ok (.getfield 25, 3) := by decide +kernel
theorem dX0_layBest_53 : decode cX0_layBest 53 = .ok (.if_icmp .ge 66, 3) := by decide +kernel
theorem dX0_layBest_56 : decode cX0_layBest 56 = .ok (.iconst 1, 1) := by decide +kernel
theorem dX0_layBest_57 : decode cX0_layBest 57 = .ok (.iload 4, 2) := by decide +kernel
theorem dX0_layBest_59 : decode cX0_layBest 59 = .ok (.ishl, 1) := by decide +kernel
theorem dX0_layBest_60 : decode cX0_layBest 60 = .ok (.iconst 1, 1) := by decide +kernel
theorem dX0_layBest_61 : decode cX0_layBest 61 = .ok (.iload 5, 2) := by decide +kernel
theorem dX0_layBest_63 : decode cX0_layBest 63 = .ok (.ishl, 1) := by decide +kernel
theorem dX0_layBest_64 : decode cX0_layBest 64 = .ok (.ior, 1) := by decide +kernel
theorem dX0_layBest_65 : decode cX0_layBest 65 = .ok (.iconst 1, 1) := by decide +kernel
theorem dX0_layBest_66 : decode cX0_layBest 66 = .ok (.iload 6, 2) := by decide +kernel
theorem dX0_layBest_68 : decode cX0_layBest 68 = .ok (.ishl, 1) := by decide +kernel
theorem dX0_layBest_69 : decode cX0_layBest 69 = .ok (.ior, 1) := by decide +kernel
theorem dX0_layBest_70 : decode cX0_layBest 70 = .ok (.istore 7, 2) := by decide +kernel
theorem dX0_layBest_72 : decode cX0_layBest 72 = .ok (.iload_n 1, 1) := by decide +kernel
theorem dX0_layBest_73 : decode cX0_layBest 73 = .ok (.iload 7, 2) := by decide +kernel
theorem dX0_layBest_75 : decode cX0_layBest 75 = .ok (.iand, 1) := by decide +kernel
theorem dX0_layBest_76 : decode cX0_layBest 76 = .ok (.iload 7, 2) := by decide +kernel
theorem dX0_layBest_78 : decode cX0_layBest 78 = .ok (.if_icmp .ne 35, 3) := by decide +kernel
theorem dX0_layBest_81 : decode cX0_layBest 81 = .ok (.aload_n 0, 1) := by decide +kernel
theorem dX0_layBest_82 : decode cX0_layBest 82 = .ok (.iload 4, 2) := by decide +kernel
theorem dX0_layBest_84 : decode cX0_layBest 84 = .ok (.iload 5, 2) := by decide +kernel
theorem dX0_layBest_86 : decode cX0_layBest 86 = .ok (.iload 6, 2) := by decide +kernel
theorem dX0_layBest_88 : decode cX0_layBest 88 = .ok (.invokevirtual 30, 3) := by decide +kernel
theorem dX0_layBest_91 : decode cX0_layBest 91 = .ok (.aload_n 0, 1) := by decide +kernel
theorem dX0_layBest_92 : decode cX0_layBest 92 = .ok (.iload_n 1, 1) := by decide +kernel
theorem dX0_layBest_93 : decode cX0_layBest 93 = .ok (.invokevirtual 34, 3) := by decide +kernel
theorem dX0_layBest_96 : decode cX0_layBest 96 = .ok (.invokestatic 38, 3) := by decide +kernel
theorem dX0_layBest_99 : decode cX0_layBest 99 = .ok (.istore 8, 2) := by decide +kernel
theorem dX0_layBest_101 : decode cX0_layBest 101 = .ok (.iload 8, 2) := by decide +kernel
theorem dX0_layBest_103 : decode cX0_layBest 103 = .ok (.iload_n 2, 1) := by decide +kernel
theorem dX0_layBest_104 : decode cX0_layBest 104 = .ok (.if_icmp .ge 9, 3) := by decide +kernel
theorem dX0_layBest_107 : decode cX0_layBest 107 = .ok (.iload 8, 2) := by decide +kernel
theorem dX0_layBest_109 : decode cX0_layBest 109 = .ok (.istore_n 2, 1) := by decide +kernel
theorem dX0_layBest_110 : decode cX0_layBest 110 = .ok (.iload 7, 2) := by decide +kernel
theorem dX0_layBest_112 : decode cX0_layBest 112 = .ok (.istore_n 3, 1) := by decide +kernel
theorem dX0_layBest_113 : decode cX0_layBest 113 = .ok (.iinc 6 1, 3) := by decide +kernel
theorem dX0_layBest_116 : decode cX0_layBest 116 = .ok (.goto (-72), 3) := by decide +kernel
theorem dX0_layBest_119 : decode cX0_layBest 119 = .ok (.iinc 5 1, 3) := by decide +kernel
theorem dX0_layBest_122 : decode cX0_layBest 122 = .ok (.goto (-96), 3) := by decide +kernel
theorem dX0_layBest_125 : decode cX0_layBest 125 = .ok (.iinc 4 1, 3) := by decide +kernel
theorem dX0_layBest_128 : decode cX0_layBest 128 = .ok (.goto (-120), 3) := by decide +kernel
theorem dX0_layBest_131 : decode cX0_layBest 131 = .ok (.aload_n 0, 1) := by decide +kernel
theorem dX0_layBest_132 : decode cX0_layBest 132 = .ok (.iload_n 3, 1) := by decide +kernel
theorem dX0_layBest_133 : decode cX0_layBest 133 = .ok (.invokevirtual 43, 3) := by decide +kernel
theorem dX0_layBest_136 : decode cX0_layBest 136 = .ok (.iload_n 3, 1) := by decide +kernel
theorem dX0_layBest_137 : decode cX0_layBest 137 = .ok (.ifCond .eq 7, 3) := by decide +kernel
theorem dX0_layBest_140 : decode cX0_layBest 140 = .ok (.iconst 1, 1) := by decide +kernel
theorem dX0_layBest_141 : decode cX0_layBest 141 = .ok (.goto 4, 3) := by decide +kernel
theorem dX0_layBest_144 : decode cX0_layBest 144 = .ok (.iconst 0, 1) := by decide +kernel
theorem dX0_layBest_145 : decode cX0_layBest 145 = .ok (.ireturn, 1) := by decide +kernel
theorem dX0_photoOf_0 : decode cX0_photoOf 0 = .ok (.iload_n 1, 1) := by decide +kernel
theorem dX0_photoOf_1 : decode cX0_photoOf 1 = .ok (.ifCond .ne 8, 3) := by decide +kernel
theorem dX0_photoOf_4 : decode cX0_photoOf 4 = .ok (.aload_n 0, 1) := by decide +kernel
theorem dX0_photoOf_5 : decode cX0_photoOf 5 = .ok (.getfield 15, 3) := by decide +kernel
theorem dX0_photoOf_8 : decode cX0_photoOf 8 = .ok (.ireturn, 1) := by decide +kernel
theorem dX0_photoOf_9 : decode cX0_photoOf 9 = .ok (.iload_n 1, 1) := by decide +kernel
theorem dX0_photoOf_10 : decode cX0_photoOf 10 = .ok (.iconst 1, 1) := by decide +kernel
theorem dX0_photoOf_11 : decode cX0_photoOf 11 = .ok (.if_icmp .ne 10, 3) := by decide +kernel
theorem dX0_photoOf_14 : decode cX0_photoOf 14 = .ok (.aload_n 0, 1) := by decide +kernel
theorem dX0_photoOf_15 : decode cX0_photoOf 15 = .ok (.getfield 19, 3) := by decide +kernel
theorem dX0_photoOf_18 : decode cX0_photoOf 18 = .ok (.goto 7, 3) := by decide +kernel
theorem dX0_photoOf_21 : decode cX0_photoOf 21 = .ok (.aload_n 0, 1) := by decide +kernel
theorem dX0_photoOf_22 : decode cX0_photoOf 22 = .ok (.getfield 22, 3) := by decide +kernel
theorem dX0_photoOf_25 : decode cX0_photoOf 25 = .ok (.ireturn, 1) := by decide +kernel
theorem dX0_upper_0 : decode cX0_upper 0 = .ok (.aload_n 0, 1) := by decide +kernel
theorem dX0_upper_1 : decode cX0_upper 1 = .ok (.getfield 9, 3) := by decide +kernel
theorem dX0_upper_4 : decode cX0_upper 4 = .ok (.getfield 47, 3) := by decide +kernel
theorem dX0_upper_7 : decode cX0_upper 7 = .ok (.iconst 1, 1) := by decide +kernel
theorem dX0_upper_8 : decode cX0_upper 8 = .ok (.iload_n 1, 1) := by decide +kernel
theorem dX0_upper_9 : decode cX0_upper 9 = .ok (.iadd, 1) := by decide +kernel
theorem dX0_upper_10 : decode cX0_upper 10 = .ok (.aaload, 1) := by decide +kernel
theorem dX0_upper_11 : decode cX0_upper 11 = .ok (.astore 4, 2) := by decide +kernel
theorem dX0_upper_13 : decode cX0_upper 13 = .ok (.aload_n 0, 1) := by decide +kernel
theorem dX0_upper_14 : decode cX0_upper 14 = .ok (.getfield 9, 3) := by decide +kernel
theorem dX0_upper_17 : decode cX0_upper 17 = .ok (.getfield 47, 3) := by decide +kernel
theorem dX0_upper_20 : decode cX0_upper 20 = .ok (.iconst 0, 1) := by decide +kernel
theorem dX0_upper_21 : decode cX0_upper 21 = .ok (.aaload, 1) := by decide +kernel
theorem dX0_upper_22 : decode cX0_upper 22 = .ok (.aload_n 0, 1) := by decide +kernel
theorem dX0_upper_23 : decode cX0_upper 23 = .ok (.getfield 15, 3) := by decide +kernel
theorem dX0_upper_26 : decode cX0_upper 26 = .ok (.iaload, 1) := by decide +kernel
theorem dX0_upper_27 : decode cX0_upper 27 = .ok (.i2l, 1) := by decide +kernel
theorem dX0_upper_28 : decode cX0_upper 28 = .ok (.lstore 5, 2) := by decide +kernel
theorem dX0_upper_30 : decode cX0_upper 30 = .ok (.aload_n 0, 1) := by decide +kernel
theorem dX0_upper_31 : decode cX0_upper 31 = .ok (.getfield 9, 3) := by decide +kernel
theorem dX0_upper_34 : decode cX0_upper 34 = .ok (.getfield 47, 3) := by decide +kernel
theorem dX0_upper_37 : decode cX0_upper 37 = .ok (.iconst 0, 1) := by decide +kernel
theorem dX0_upper_38 : decode cX0_upper 38 = .ok (.aaload, 1) := by decide +kernel
theorem dX0_upper_39 : decode cX0_upper 39 = .ok (.aload_n 0, 1) := by decide +kernel
theorem dX0_upper_40 : decode cX0_upper 40 = .ok (.getfield 19, 3) := by decide +kernel
theorem dX0_upper_43 : decode cX0_upper 43 = .ok (.iaload, 1) := by decide +kernel
theorem dX0_upper_44 : decode cX0_upper 44 = .ok (.i2l, 1) := by decide +kernel
theorem dX0_upper_45 : decode cX0_upper 45 = .ok (.lstore 7, 2) := by decide +kernel
theorem dX0_upper_47 : decode cX0_upper 47 = .ok (.aload_n 0, 1) := by decide +kernel
theorem dX0_upper_48 : decode cX0_upper 48 = .ok (.getfield 9, 3) := by decide +kernel
theorem dX0_upper_51 : decode cX0_upper 51 = .ok (.getfield 47, 3) := by decide +kernel
theorem dX0_upper_54 : decode cX0_upper 54 = .ok (.iconst 0, 1) := by decide +kernel
theorem dX0_upper_55 : decode cX0_upper 55 = .ok (.aaload, 1) := by decide +kernel
theorem dX0_upper_56 : decode cX0_upper 56 = .ok (.aload_n 0, 1) := by decide +kernel
theorem dX0_upper_57 : decode cX0_upper 57 = .ok (.getfield 22, 3) := by decide +kernel
theorem dX0_upper_60 : decode cX0_upper 60 = .ok (.iaload, 1) := by decide +kernel
theorem dX0_upper_61 : decode cX0_upper 61 = .ok (.i2l, 1) := by decide +kernel
theorem dX0_upper_62 : decode cX0_upper 62 = .ok (.lstore 9, 2) := by decide +kernel
theorem dX0_upper_64 : decode cX0_upper 64 = .ok (.aload 4, 2) := by decide +kernel
theorem dX0_upper_66 : decode cX0_upper 66 = .ok (.aload_n 0, 1) := by decide +kernel
theorem dX0_upper_67 : decode cX0_upper 67 = .ok (.getfield 15, 3) := by decide +kernel
theorem dX0_upper_70 : decode cX0_upper 70 = .ok (.iaload, 1) := by decide +kernel
theorem dX0_upper_71 : decode cX0_upper 71 = .ok (.i2l, 1) := by decide +kernel
theorem dX0_upper_72 : decode cX0_upper 72 = .ok (.lload_n 2, 1) := by decide +kernel
theorem dX0_upper_73 : decode cX0_upper 73 = .ok (.lload 7, 2) := by decide +kernel
theorem dX0_upper_75 : decode cX0_upper 75 = .ok (.lsub, 1) := by decide +kernel
theorem dX0_upper_76 : decode cX0_upper 76 = .ok (.lmul, 1) := by decide +kernel
theorem dX0_upper_77 : decode cX0_upper 77 = .ok (.lload_n 2, 1) := by decide +kernel
theorem dX0_upper_78 : decode cX0_upper 78 = .ok (.lload 9, 2) := by decide +kernel
theorem dX0_upper_80 : decode cX0_upper 80 = .ok (.lsub, 1) := by decide +kernel
theorem dX0_upper_81 : decode cX0_upper 81 = .ok (.lmul, 1) := by decide +kernel
theorem dX0_upper_82 : decode cX0_upper 82 = .ok (.lload 9, 2) := by decide +kernel
theorem dX0_upper_84 : decode cX0_upper 84 = .ok (.lload 7, 2) := by decide +kernel
theorem dX0_upper_86 : decode cX0_upper 86 = .ok (.lsub, 1) := by decide +kernel
theorem dX0_upper_87 : decode cX0_upper 87 = .ok (.lmul, 1) := by decide +kernel
theorem dX0_upper_88 : decode cX0_upper 88 = .ok (.aload 4, 2) := by decide +kernel
theorem dX0_upper_90 : decode cX0_upper 90 = .ok (.aload_n 0, 1) := by decide +kernel
theorem dX0_upper_91 : decode cX0_upper 91 = .ok (.getfield 19, 3) := by decide +kernel
theorem dX0_upper_94 : decode cX0_upper 94 = .ok (.iaload, 1) := by decide +kernel
theorem dX0_upper_95 : decode cX0_upper 95 = .ok (.i2l, 1) := by decide +kernel
theorem dX0_upper_96 : decode cX0_upper 96 = .ok (.lload_n 2, 1) := by decide +kernel
theorem dX0_upper_97 : decode cX0_upper 97 = .ok (.lload 5, 2) := by decide +kernel
theorem dX0_upper_99 : decode cX0_upper 99 = .ok (.lsub, 1) := by decide +kernel
theorem dX0_upper_100 : decode cX0_upper 100 = .ok (.lmul, 1) := by decide +kernel
theorem dX0_upper_101 : decode cX0_upper 101 = .ok (.lload_n 2, 1) := by decide +kernel
theorem dX0_upper_102 : decode cX0_upper 102 = .ok (.lload 9, 2) := by decide +kernel
theorem dX0_upper_104 : decode cX0_upper 104 = .ok (.lsub, 1) := by decide +kernel
theorem dX0_upper_105 : decode cX0_upper 105 = .ok (.lmul, 1) := by decide +kernel
theorem dX0_upper_106 : decode cX0_upper 106 = .ok (.lload 5, 2) := by decide +kernel
theorem dX0_upper_108 : decode cX0_upper 108 = .ok (.lload 9, 2) := by decide +kernel
theorem dX0_upper_110 : decode cX0_upper 110 = .ok (.lsub, 1) := by decide +kernel
theorem dX0_upper_111 : decode cX0_upper 111 = .ok (.lmul, 1) := by decide +kernel
theorem dX0_upper_112 : decode cX0_upper 112 = .ok (.ladd, 1) := by decide +kernel
theorem dX0_upper_113 : decode cX0_upper 113 = .ok (.aload 4, 2) := by decide +kernel
theorem dX0_upper_115 : decode cX0_upper 115 = .ok (.aload_n 0, 1) := by decide +kernel
theorem dX0_upper_116 : decode cX0_upper 116 = .ok (.getfield 22, 3) := by decide +kernel
theorem dX0_upper_119 : decode cX0_upper 119 = .ok (.iaload, 1) := by decide +kernel
theorem dX0_upper_120 : decode cX0_upper 120 = .ok (.i2l, 1) := by decide +kernel
theorem dX0_upper_121 : decode cX0_upper 121 = .ok (.lload_n 2, 1) := by decide +kernel
theorem dX0_upper_122 : decode cX0_upper 122 = .ok (.lload 5, 2) := by decide +kernel
theorem dX0_upper_124 : decode cX0_upper 124 = .ok (.lsub, 1) := by decide +kernel
theorem dX0_upper_125 : decode cX0_upper 125 = .ok (.lmul, 1) := by decide +kernel
theorem dX0_upper_126 : decode cX0_upper 126 = .ok (.lload_n 2, 1) := by decide +kernel
theorem dX0_upper_127 : decode cX0_upper 127 = .ok (.lload 7, 2) := by decide +kernel
theorem dX0_upper_129 : decode cX0_upper 129 = .ok (.lsub, 1) := by decide +kernel
theorem dX0_upper_130 : decode cX0_upper 130 = .ok (.lmul, 1) := by decide +kernel
theorem dX0_upper_131 : decode cX0_upper 131 = .ok (.lload 7, 2) := by decide +kernel
theorem dX0_upper_133 : decode cX0_upper 133 = .ok (.lload 5, 2) := by decide +kernel
theorem dX0_upper_135 : decode cX0_upper 135 = .ok (.lsub, 1) := by decide +kernel
theorem dX0_upper_136 : decode cX0_upper 136 = .ok (.lmul, 1) := by decide +kernel
theorem dX0_upper_137 : decode cX0_upper 137 = .ok (.ladd, 1) := by decide +kernel
theorem dX0_upper_138 : decode cX0_upper 138 = .ok (.lreturn, 1) := by decide +kernel
theorem dX0_lower_0 : decode cX0_lower 0 = .ok (.aload_n 0, 1) := by decide +kernel
theorem dX0_lower_1 : decode cX0_lower 1 = .ok (.getfield 9, 3) := by decide +kernel
theorem dX0_lower_4 : decode cX0_lower 4 = .ok (.getfield 47, 3) := by decide +kernel
theorem dX0_lower_7 : decode cX0_lower 7 = .ok (.iconst 0, 1) := by decide +kernel
theorem dX0_lower_8 : decode cX0_lower 8 = .ok (.aaload, 1) := by decide +kernel
theorem dX0_lower_9 : decode cX0_lower 9 = .ok (.aload_n 0, 1) := by decide +kernel
theorem dX0_lower_10 : decode cX0_lower 10 = .ok (.getfield 15, 3) := by decide +kernel
theorem dX0_lower_13 : decode cX0_lower 13 = .ok (.iaload, 1) := by decide +kernel
theorem dX0_lower_14 : decode cX0_lower 14 = .ok (.i2l, 1) := by decide +kernel
theorem dX0_lower_15 : decode cX0_lower 15 = .ok (.lstore_n 1, 1) := by decide +kernel
theorem dX0_lower_16 : decode cX0_lower 16 = .ok (.aload_n 0, 1) := by decide +kernel
theorem dX0_lower_17 : decode cX0_lower 17 = .ok (.getfield 9, 3) := by decide +kernel
theorem dX0_lower_20 : decode cX0_lower 20 = .ok (.getfield 47, 3) := by decide +kernel
theorem dX0_lower_23 : decode cX0_lower 23 = .ok (.iconst 0, 1) := by decide +kernel
theorem dX0_lower_24 : decode cX0_lower 24 = .ok (.aaload, 1) := by decide +kernel
theorem dX0_lower_25 : decode cX0_lower 25 = .ok (.aload_n 0, 1) := by decide +kernel
theorem dX0_lower_26 : decode cX0_lower 26 = .ok (.getfield 19, 3) := by decide +kernel
theorem dX0_lower_29 : decode cX0_lower 29 = .ok (.iaload, 1) := by decide +kernel
theorem dX0_lower_30 : decode cX0_lower 30 = .ok (.i2l, 1) := by decide +kernel
theorem dX0_lower_31 : decode cX0_lower 31 = .ok (.lstore_n 3, 1) := by decide +kernel
theorem dX0_lower_32 : decode cX0_lower 32 = .ok (.aload_n 0, 1) := by decide +kernel
theorem dX0_lower_33 : decode cX0_lower 33 = .ok (.getfield 9, 3) := by decide +kernel
theorem dX0_lower_36 : decode cX0_lower 36 = .ok (.getfield 47, 3) := by decide +kernel
theorem dX0_lower_39 : decode cX0_lower 39 = .ok (.iconst 0, 1) := by decide +kernel
theorem dX0_lower_40 : decode cX0_lower 40 = .ok (.aaload, 1) := by decide +kernel
theorem dX0_lower_41 : decode cX0_lower 41 = .ok (.aload_n 0, 1) := by decide +kernel
theorem dX0_lower_42 : decode cX0_lower 42 = .ok (.getfield 22, 3) := by decide +kernel
theorem dX0_lower_45 : decode cX0_lower 45 = .ok (.iaload, 1) := by decide +kernel
theorem dX0_lower_46 : decode cX0_lower 46 = .ok (.i2l, 1) := by decide +kernel
theorem dX0_lower_47 : decode cX0_lower 47 = .ok (.lstore 5, 2) := by decide +kernel
theorem dX0_lower_49 : decode cX0_lower 49 = .ok (.lload_n 3, 1) := by decide +kernel
theorem dX0_lower_50 : decode cX0_lower 50 = .ok (.lload_n 1, 1) := by decide +kernel
theorem dX0_lower_51 : decode cX0_lower 51 = .ok (.lsub, 1) := by decide +kernel
theorem dX0_lower_52 : decode cX0_lower 52 = .ok (.lload 5, 2) := by decide +kernel
theorem dX0_lower_54 : decode cX0_lower 54 = .ok (.lload_n 1, 1) := by decide +kernel
theorem dX0_lower_55 : decode cX0_lower 55 = .ok (.lsub, 1) := by decide +kernel
theorem dX0_lower_56 : decode cX0_lower 56 = .ok (.lmul, 1) := by decide +kernel
theorem dX0_lower_57 : decode cX0_lower 57 = .ok (.lload 5, 2) := by decide +kernel
theorem dX0_lower_59 : decode cX0_lower 59 = .ok (.lload_n 3, 1) := by decide +kernel
theorem dX0_lower_60 : decode cX0_lower 60 = .ok (.lsub, 1) := by decide +kernel
theorem dX0_lower_61 : decode cX0_lower 61 = .ok (.lmul, 1) := by decide +kernel
theorem dX0_lower_62 : decode cX0_lower 62 = .ok (.lreturn, 1) := by decide +kernel
set_option maxRecDepth 20000 in
theorem ggX0_missedOf_X0_lower : GoodIn wsX0_missedOf wsX0_lower := goodIn_r _ [12, 1, 3, 13, 14, 15, 23, 24, 25, 26, 27, 28] (by decide +kernel) (by decide +kernel)
set_option maxRecDepth 20000 in
theorem gX0_missedOf_X0_lower : GoodIn wsX0_missedOf (wsV RX0 51 RX0 yX0_lower wsX0_lower) := goodIn_app (goodIn_of _ (by decide +kernel)) ggX0_missedOf_X0_lower
set_option maxRecDepth 20000 in
theorem ggX0_missedOf_X6_isIn : GoodIn wsX0_missedOf wsX6_isIn := goodIn_r _ [18] (by decide +kernel) (by decide +kernel)
set_option maxRecDepth 20000 in
theorem gX0_missedOf_X6_isIn_n55 : GoodIn wsX0_missedOf (wsX6_isIn) := ggX0_missedOf_X6_isIn
set_option maxRecDepth 20000 in
theorem ggX0_missedOf_X0_upper : GoodIn wsX0_missedOf wsX0_upper := goodIn_r _ [22, 1, 3, 13, 14, 15, 23, 24, 25, 26, 27, 28] (by decide +kernel) (by decide +kernel)
set_option maxRecDepth 20000 in
theorem gX0_missedOf_X0_upper : GoodIn wsX0_missedOf (wsV RX0 59 RX0 yX0_upper wsX0_upper) := goodIn_app (goodIn_of _ (by decide +kernel)) ggX0_missedOf_X0_upper
theorem dX0_missedOf_0 : decode cX0_missedOf 0 = .ok (.aload_n 0, 1) := by decide +kernel
theorem dX0_missedOf_1 : decode cX0_missedOf 1 = .ok (.invokevirtual 51, 3) := by decide +kernel
theorem dX0_missedOf_4 : decode cX0_missedOf 4 = .ok (.lstore_n 2, 1) := by decide +kernel
theorem dX0_missedOf_5 : decode cX0_missedOf 5 = .ok (.iconst 0, 1) := by decide +kernel
theorem dX0_missedOf_6 : decode cX0_missedOf 6 = .ok (.istore 4, 2) := by decide +kernel
theorem dX0_missedOf_8 : decode cX0_missedOf 8 = .ok (.iconst 0, 1) := by decide +kernel
theorem dX0_missedOf_9 : decode cX0_missedOf 9 = .ok (.istore 5, 2) := by decide +kernel
theorem dX0_missedOf_11 : decode cX0_missedOf 11 = .ok (.iload 5, 2) := by decide +kernel
theorem dX0_missedOf_13 : decode cX0_missedOf 13 = .ok (.aload_n 0, 1) := by decide +kernel
theorem dX0_missedOf_14 : decode cX0_missedOf 14 = .ok (.getfield 9, 3) := by decide +kernel
theorem dX0_missedOf_17 : decode cX0_missedOf 17 = .ok (.getfield 25, 3) := by decide +kernel
theorem dX0_missedOf_20 : decode cX0_missedOf 20 = .ok (.if_icmp .ge 131, 3) := by decide +kernel
theorem dX0_missedOf_23 : decode cX0_missedOf 23 = .ok (.iload_n 1, 1) := by decide +kernel
theorem dX0_missedOf_24 : decode cX0_missedOf 24 = .ok (.iload 5, 2) := by decide +kernel
theorem dX0_missedOf_26 : decode cX0_missedOf 26 = .ok (.invokestatic 55, 3) := by decide +kernel
theorem dX0_missedOf_29 : decode cX0_missedOf 29 = .ok (.ifCond .eq 116, 3) := by decide +kernel
theorem dX0_missedOf_32 : decode cX0_missedOf 32 = .ok (.aload_n 0, 1) := by decide +kernel
theorem dX0_missedOf_33 : decode cX0_missedOf 33 = .ok (.getfield 9, 3) := by decide +kernel
theorem dX0_missedOf_36 : decode cX0_missedOf 36 = .ok (.getfield 47, 3) := by decide +kernel
theorem dX0_missedOf_39 : decode cX0_missedOf 39 = .ok (.iconst 0, 1) := by decide +kernel
theorem dX0_missedOf_40 : decode cX0_missedOf 40 = .ok (.aaload, 1) := by decide +kernel
theorem dX0_missedOf_41 : decode cX0_missedOf 41 = .ok (.iload 5, 2) := by decide +kernel
theorem dX0_missedOf_43 : decode cX0_missedOf 43 = .ok (.iaload, 1) := by decide +kernel
theorem dX0_missedOf_44 : decode cX0_missedOf 44 = .ok (.i2l, 1) := by decide +kernel
theorem dX0_missedOf_45 : decode cX0_missedOf 45 = .ok (.lstore 6, 2) := by decide +kernel
theorem dX0_missedOf_47 : decode cX0_missedOf 47 = .ok (.aload_n 0, 1) := by decide +kernel
theorem dX0_missedOf_48 : decode cX0_missedOf 48 = .ok (.getfield 9, 3) := by decide +kernel
theorem dX0_missedOf_51 : decode cX0_missedOf 51 = .ok (.getfield 47, 3) := by decide +kernel
theorem dX0_missedOf_54 : decode cX0_missedOf 54 = .ok (.iconst 3, 1) := by decide +kernel
theorem dX0_missedOf_55 : decode cX0_missedOf 55 = .ok (.aaload, 1) := by decide +kernel
theorem dX0_missedOf_56 : decode cX0_missedOf 56 = .ok (.iload 5, 2) := by decide +kernel
theorem dX0_missedOf_58 : decode cX0_missedOf 58 = .ok (.iaload, 1) := by decide +kernel
theorem dX0_missedOf_59 : decode cX0_missedOf 59 = .ok (.i2l, 1) := by decide +kernel
theorem dX0_missedOf_60 : decode cX0_missedOf 60 = .ok (.lload_n 2, 1) := by decide +kernel
theorem dX0_missedOf_61 : decode cX0_missedOf 61 = .ok (.lmul, 1) := by decide +kernel
theorem dX0_missedOf_62 : decode cX0_missedOf 62 = .ok (.lstore 8, 2) := by decide +kernel
theorem dX0_missedOf_64 : decode cX0_missedOf 64 = .ok (.aload_n 0, 1) := by decide +kernel
theorem dX0_missedOf_65 : decode cX0_missedOf 65 = .ok (.iconst 0, 1) := by decide +kernel
theorem dX0_missedOf_66 : decode cX0_missedOf 66 = .ok (.lload 6, 2) := by decide +kernel
theorem dX0_missedOf_68 : decode cX0_missedOf 68 = .ok (.invokevirtual 59, 3) := by decide +kernel
theorem dX0_missedOf_71 : decode cX0_missedOf 71 = .ok (.aload_n 0, 1) := by decide +kernel
theorem dX0_missedOf_72 : decode cX0_missedOf 72 = .ok (.getfield 9, 3) := by decide +kernel
theorem dX0_missedOf_75 : decode cX0_missedOf 75 = .ok (.getfield 47, 3) := by decide +kernel
theorem dX0_missedOf_78 : decode cX0_missedOf 78 = .ok (.iconst 1, 1) := by decide +kernel
theorem dX0_missedOf_79 : decode cX0_missedOf 79 = .ok (.aaload, 1) := by decide +kernel
theorem dX0_missedOf_80 : decode cX0_missedOf 80 = .ok (.iload 5, 2) := by decide +kernel
theorem dX0_missedOf_82 : decode cX0_missedOf 82 = .ok (.iaload, 1) := by decide +kernel
theorem dX0_missedOf_83 : decode cX0_missedOf 83 = .ok (.i2l, 1) := by decide +kernel
theorem dX0_missedOf_84 : decode cX0_missedOf 84 = .ok (.lload_n 2, 1) := by decide +kernel
theorem dX0_missedOf_85 : decode cX0_missedOf 85 = .ok (.lmul, 1) := by decide +kernel
theorem dX0_missedOf_86 : decode cX0_missedOf 86 = .ok (.lsub, 1) := by decide +kernel
theorem dX0_missedOf_87 : decode cX0_missedOf 87 = .ok (.lstore 10, 2) := by decide +kernel
theorem dX0_missedOf_89 : decode cX0_missedOf 89 = .ok (.aload_n 0, 1) := by decide +kernel
theorem dX0_missedOf_90 : decode cX0_missedOf 90 = .ok (.iconst 1, 1) := by decide +kernel
theorem dX0_missedOf_91 : decode cX0_missedOf 91 = .ok (.lload 6, 2) := by decide +kernel
theorem dX0_missedOf_93 : decode cX0_missedOf 93 = .ok (.invokevirtual 59, 3) := by decide +kernel
theorem dX0_missedOf_96 : decode cX0_missedOf 96 = .ok (.aload_n 0, 1) := by decide +kernel
theorem dX0_missedOf_97 : decode cX0_missedOf 97 = .ok (.getfield 9, 3) := by decide +kernel
theorem dX0_missedOf_100 : decode cX0_missedOf 100 = .ok (.getfield 47, 3) := by decide +kernel
theorem dX0_missedOf_103 : decode cX0_missedOf 103 = .ok (.iconst 2, 1) := by decide +kernel
theorem dX0_missedOf_104 : decode cX0_missedOf 104 = .ok (.aaload, 1) := by decide +kernel
theorem dX0_missedOf_105 : decode cX0_missedOf 105 = .ok (.iload 5, 2) := by decide +kernel
theorem dX0_missedOf_107 : decode cX0_missedOf 107 = .ok (.iaload, 1) := by decide +kernel
theorem dX0_missedOf_108 : decode cX0_missedOf 108 = .ok (.i2l, 1) := by decide +kernel
theorem dX0_missedOf_109 : decode cX0_missedOf 109 = .ok (.lload_n 2, 1) := by decide +kernel
theorem dX0_missedOf_110 : decode cX0_missedOf 110 = .ok (.lmul, 1) := by decide +kernel
theorem dX0_missedOf_111 : decode cX0_missedOf 111 = .ok (.lsub, 1) := by decide +kernel
theorem dX0_missedOf_112 : decode cX0_missedOf 112 = .ok (.lstore 12, 2) := by decide +kernel
theorem dX0_missedOf_114 : decode cX0_missedOf 114 = .ok (.lload 10, 2) := by decide +kernel
theorem dX0_missedOf_116 : decode cX0_missedOf 116 = .ok (.invokestatic 63, 3) := by decide +kernel
theorem dX0_missedOf_119 : decode cX0_missedOf 119 = .ok (.lload 8, 2) := by decide +kernel
theorem dX0_missedOf_121 : decode cX0_missedOf 121 = .ok (.lcmp, 1) := by decide +kernel
theorem dX0_missedOf_122 : decode cX0_missedOf 122 = .ok (.ifCond .gt 14, 3) := by decide +kernel
theorem dX0_missedOf_125 : decode cX0_missedOf 125 = .ok (.lload 12, 2) := by decide +kernel
theorem dX0_missedOf_127 : decode cX0_missedOf 127 = .ok (.invokestatic 63, 3) := by decide +kernel
theorem dX0_missedOf_130 : decode cX0_missedOf 130 = .ok (.lload 8, 2) := by decide +kernel
theorem dX0_missedOf_132 : decode cX0_missedOf 132 = .ok (.lcmp, 1) := by decide +kernel
theorem dX0_missedOf_133 : decode cX0_missedOf 133 = .ok (.ifCond .le 12, 3) := by decide +kernel
theorem dX0_missedOf_136 : decode cX0_missedOf 136 = .ok (.iload 4, 2) := by decide +kernel
theorem dX0_missedOf_138 : decode cX0_missedOf 138 = .ok (.iconst 1, 1) := by decide +kernel
theorem dX0_missedOf_139 : decode cX0_missedOf 139 = .ok (.iload 5, 2) := by decide +kernel
theorem dX0_missedOf_141 : decode cX0_missedOf 141 = .ok (.ishl, 1) := by decide +kernel
theorem dX0_missedOf_142 : decode cX0_missedOf 142 = .ok (.ior, 1) := by decide +kernel
theorem dX0_missedOf_143 : decode cX0_missedOf 143 = .ok (.istore 4, 2) := by decide +kernel
theorem dX0_missedOf_145 : decode cX0_missedOf 145 = .ok (.iinc 5 1, 3) := by decide +kernel
theorem dX0_missedOf_148 : decode cX0_missedOf 148 = .ok (.goto (-137), 3) := by decide +kernel
theorem dX0_missedOf_151 : decode cX0_missedOf 151 = .ok (.iload 4, 2) := by decide +kernel
theorem dX0_missedOf_153 : decode cX0_missedOf 153 = .ok (.ireturn, 1) := by decide +kernel
set_option maxRecDepth 20000 in
theorem ggX0_layThrough_X6_isIn : GoodIn wsX0_layThrough wsX6_isIn := goodIn_r _ [8] (by decide +kernel) (by decide +kernel)
set_option maxRecDepth 20000 in
theorem gX0_layThrough_X6_isIn_n55 : GoodIn wsX0_layThrough (wsX6_isIn) := ggX0_layThrough_X6_isIn
theorem dX0_layThrough_0 : decode cX0_layThrough 0 = .ok (.iconst 0, 1) := by decide +kernel
theorem dX0_layThrough_1 : decode cX0_layThrough 1 = .ok (.istore_n 2, 1) := by decide +kernel
theorem dX0_layThrough_2 : decode cX0_layThrough 2 = .ok (.iconst 0, 1) := by decide +kernel
theorem dX0_layThrough_3 : decode cX0_layThrough 3 = .ok (.istore_n 3, 1) := by decide +kernel
theorem dX0_layThrough_4 : decode cX0_layThrough 4 = .ok (.iload_n 3, 1) := by decide +kernel
theorem dX0_layThrough_5 : decode cX0_layThrough 5 = .ok (.aload_n 0, 1) := by decide +kernel
theorem dX0_layThrough_6 : decode cX0_layThrough 6 = .ok (.getfield 9, 3) := by decide +kernel
theorem dX0_layThrough_9 : decode cX0_layThrough 9 = .ok (.getfield 25, 3) := by decide +kernel
theorem dX0_layThrough_12 : decode cX0_layThrough 12 = .ok (.if_icmp .ge 70, 3) := by decide +kernel
theorem dX0_layThrough_15 : decode cX0_layThrough 15 = .ok (.iload_n 1, 1) := by decide +kernel
theorem dX0_layThrough_16 : decode cX0_layThrough 16 = .ok (.iload_n 3, 1) := by decide +kernel
theorem dX0_layThrough_17 : decode cX0_layThrough 17 = .ok (.invokestatic 55, 3) := by decide +kernel
theorem dX0_layThrough_20 : decode cX0_layThrough 20 = .ok (.ifCond .eq 56, 3) := by decide +kernel
theorem dX0_layThrough_23 : decode cX0_layThrough 23 = .ok (.aload_n 0, 1) := by decide +kernel
theorem dX0_layThrough_24 : decode cX0_layThrough 24 = .ok (.iload_n 2, 1) := by decide +kernel
theorem dX0_layThrough_25 : decode cX0_layThrough 25 = .ok (.ifCond .ne 7, 3) := by decide +kernel
theorem dX0_layThrough_28 : decode cX0_layThrough 28 = .ok (.iload_n 3, 1) := by decide +kernel
theorem dX0_layThrough_29 : decode cX0_layThrough 29 = .ok (.goto 7, 3) := by decide +kernel
theorem dX0_layThrough_32 : decode cX0_layThrough 32 = .ok (.aload_n 0, 1) := by decide +kernel
theorem dX0_layThrough_33 : decode cX0_layThrough 33 = .ok (.getfield 15, 3) := by decide +kernel
theorem dX0_layThrough_36 : decode cX0_layThrough 36 = .ok (.putfield 15, 3) := by decide +kernel
theorem dX0_layThrough_39 : decode cX0_layThrough 39 = .ok (.aload_n 0, 1) := by decide +kernel
theorem dX0_layThrough_40 : decode cX0_layThrough 40 = .ok (.iload_n 2, 1) := by decide +kernel
theorem dX0_layThrough_41 : decode cX0_layThrough 41 = .ok (.iconst 1, 1) := by decide +kernel
theorem dX0_layThrough_42 : decode cX0_layThrough 42 = .ok (.if_icmp .ne 7, 3) := by decide +kernel
theorem dX0_layThrough_45 : decode cX0_layThrough 45 = .ok (.iload_n 3, 1) := by decide +kernel
theorem dX0_layThrough_46 : decode cX0_layThrough 46 = .ok (.goto 7, 3) := by decide +kernel
theorem dX0_layThrough_49 : decode cX0_layThrough 49 = .ok (.aload_n 0, 1) := by decide +kernel
theorem dX0_layThrough_50 : decode cX0_layThrough 50 = .ok (.getfield 19, 3) := by decide +kernel
theorem dX0_layThrough_53 : decode cX0_layThrough 53 = .ok (.putfield 19, 3) := by decide +kernel
theorem dX0_layThrough_56 : decode cX0_layThrough 56 = .ok (.aload_n 0, 1) := by decide +kernel
theorem dX0_layThrough_57 : decode cX0_layThrough 57 = .ok (.iload_n 2, 1) := by decide +kernel
theorem dX0_layThrough_58 : decode cX0_layThrough 58 = .ok (.iconst 2, 1) := by decide +kernel
theorem dX0_layThrough_59 : decode cX0_layThrough 59 = .ok (.if_icmp .ne 7, 3) := by decide +kernel
theorem dX0_layThrough_62 : decode cX0_layThrough 62 = .ok (.iload_n 3, 1) := by decide +kernel
theorem dX0_layThrough_63 : decode cX0_layThrough 63 = .ok (.goto 7, 3) := by decide +kernel
theorem dX0_layThrough_66 : decode cX0_layThrough 66 = .ok (.aload_n 0, 1) := by decide +kernel
theorem dX0_layThrough_67 : decode cX0_layThrough 67 = .ok (.getfield 22, 3) := by decide +kernel
theorem dX0_layThrough_70 : decode cX0_layThrough 70 = .ok (.putfield 22, 3) := by decide +kernel
theorem dX0_layThrough_73 : decode cX0_layThrough 73 = .ok (.iinc 2 1, 3) := by decide +kernel
theorem dX0_layThrough_76 : decode cX0_layThrough 76 = .ok (.iinc 3 1, 3) := by decide +kernel
theorem dX0_layThrough_79 : decode cX0_layThrough 79 = .ok (.goto (-75), 3) := by decide +kernel
theorem dX0_layThrough_82 : decode cX0_layThrough 82 = .ok (.return_, 1) := by decide +kernel
set_option maxRecDepth 20000 in
theorem ggX1_init_X2_init : GoodIn wsX1_init wsX2_init := goodIn_r _ [9, 10, 2, 3, 11, 12, 13, 16, 17] (by decide +kernel) (by decide +kernel)
set_option maxRecDepth 20000 in
theorem gX1_init_X2_init_n17 : GoodIn wsX1_init (wsX2_init) := ggX1_init_X2_init
theorem dX1_init_0 : decode cX1_init 0 = .ok (.aload_n 0, 1) := by decide +kernel
theorem dX1_init_1 : decode cX1_init 1 = .ok (.invokespecial 3, 3) := by decide +kernel
theorem dX1_init_4 : decode cX1_init 4 = .ok (.aload_n 0, 1) := by decide +kernel
theorem dX1_init_5 : decode cX1_init 5 = .ok (.iconst 4, 1) := by decide +kernel
theorem dX1_init_6 : decode cX1_init 6 = .ok (.anewarray 9, 3) := by decide +kernel
theorem dX1_init_9 : decode cX1_init 9 = .ok (.putfield 11, 3) := by decide +kernel
theorem dX1_init_12 : decode cX1_init 12 = .ok (.iconst 0, 1) := by decide +kernel
theorem dX1_init_13 : decode cX1_init 13 = .ok (.istore_n 1, 1) := by decide +kernel
theorem dX1_init_14 : decode cX1_init 14 = .ok (.iload_n 1, 1) := by decide +kernel
theorem dX1_init_15 : decode cX1_init 15 = .ok (.iconst 4, 1) := by decide +kernel
theorem dX1_init_16 : decode cX1_init 16 = .ok (.if_icmp .ge 22, 3) := by decide +kernel
theorem dX1_init_19 : decode cX1_init 19 = .ok (.aload_n 0, 1) := by decide +kernel
theorem dX1_init_20 : decode cX1_init 20 = .ok (.getfield 11, 3) := by decide +kernel
theorem dX1_init_23 : decode cX1_init 23 = .ok (.iload_n 1, 1) := by decide +kernel
theorem dX1_init_24 : decode cX1_init 24 = .ok (.new 9, 3) := by decide +kernel
theorem dX1_init_27 : decode cX1_init 27 = .ok (.dup, 1) := by decide +kernel
theorem dX1_init_28 : decode cX1_init 28 = .ok (.invokespecial 17, 3) := by decide +kernel
theorem dX1_init_31 : decode cX1_init 31 = .ok (.aastore, 1) := by decide +kernel
theorem dX1_init_32 : decode cX1_init 32 = .ok (.iinc 1 1, 3) := by decide +kernel
theorem dX1_init_35 : decode cX1_init 35 = .ok (.goto (-21), 3) := by decide +kernel
theorem dX1_init_38 : decode cX1_init 38 = .ok (.return_, 1) := by decide +kernel
set_option maxRecDepth 20000 in
theorem ggX1_record_X1_dropOldest : GoodIn wsX1_record wsX1_dropOldest := goodIn_r _ [7, 2, 1, 19, 20] (by decide +kernel) (by decide +kernel)
set_option maxRecDepth 20000 in
theorem gX1_record_X1_dropOldest : GoodIn wsX1_record (wsV RX1 22 RX1 yX1_dropOldest wsX1_dropOldest) := goodIn_app (goodIn_of _ (by decide +kernel)) ggX1_record_X1_dropOldest
set_option maxRecDepth 20000 in
theorem ggX1_record_X2_copyFrom : GoodIn wsX1_record wsX2_copyFrom := goodIn_r _ [12, 13, 14, 15, 16, 17, 18, 21, 22] (by decide +kernel) (by decide +kernel)
set_option maxRecDepth 20000 in
theorem gX1_record_X2_copyFrom : GoodIn wsX1_record (wsV RX1 25 RX2 yX2_copyFrom wsX2_copyFrom) := goodIn_app (goodIn_of _ (by decide +kernel)) ggX1_record_X2_copyFrom
theorem dX1_record_0 : decode cX1_record 0 = .ok (.aload_n 0, 1) := by decide +kernel
theorem dX1_record_1 : decode cX1_record 1 = .ok (.getfield 18, 3) := by decide +kernel
theorem dX1_record_4 : decode cX1_record 4 = .ok (.iconst 4, 1) := by decide +kernel
theorem dX1_record_5 : decode cX1_record 5 = .ok (.if_icmp .lt 7, 3) := by decide +kernel
theorem dX1_record_8 : decode cX1_record 8 = .ok (.aload_n 0, 1) := by decide +kernel
theorem dX1_record_9 : decode cX1_record 9 = .ok (.invokevirtual 22, 3) := by decide +kernel
theorem dX1_record_12 : decode cX1_record 12 = .ok (.aload_n 0, 1) := by decide +kernel
theorem dX1_record_13 : decode cX1_record 13 = .ok (.getfield 11, 3) := by decide +kernel
theorem dX1_record_16 : decode cX1_record 16 = .ok (.aload_n 0, 1) := by decide +kernel
theorem dX1_record_17 : decode cX1_record 17 = .ok (.getfield 18, 3) := by decide +kernel
theorem dX1_record_20 : decode cX1_record 20 = .ok (.aaload, 1) := by decide +kernel
theorem dX1_record_21 : decode cX1_record 21 = .ok (.aload_n 1, 1) := by decide +kernel
theorem dX1_record_22 : decode cX1_record 22 = .ok (.invokevirtual 25, 3) := by decide +kernel
theorem dX1_record_25 : decode cX1_record 25 = .ok (.aload_n 0, 1) := by decide +kernel
theorem dX1_record_26 : decode cX1_record 26 = .ok (.dup, 1) := by decide +kernel
theorem dX1_record_27 : decode cX1_record 27 = .ok (.getfield 18, 3) := by decide +kernel
theorem dX1_record_30 : decode cX1_record 30 = .ok (.iconst 1, 1) := by decide +kernel
theorem dX1_record_31 : decode cX1_record 31 = .ok (.iadd, 1) := by decide +kernel
theorem dX1_record_32 : decode cX1_record 32 = .ok (.putfield 18, 3) := by decide +kernel
theorem dX1_record_35 : decode cX1_record 35 = .ok (.return_, 1) := by decide +kernel
set_option maxRecDepth 20000 in
theorem ggX1_takeBack_X2_copyFrom : GoodIn wsX1_takeBack wsX2_copyFrom := goodIn_r _ [7, 8, 9, 10, 11, 12, 13, 16, 17] (by decide +kernel) (by decide +kernel)
set_option maxRecDepth 20000 in
theorem gX1_takeBack_X2_copyFrom : GoodIn wsX1_takeBack (wsV RX1 25 RX2 yX2_copyFrom wsX2_copyFrom) := goodIn_app (goodIn_of _ (by decide +kernel)) ggX1_takeBack_X2_copyFrom
theorem dX1_takeBack_0 : decode cX1_takeBack 0 = .ok (.aload_n 0, 1) := by decide +kernel
theorem dX1_takeBack_1 : decode cX1_takeBack 1 = .ok (.getfield 18, 3) := by decide +kernel
theorem dX1_takeBack_4 : decode cX1_takeBack 4 = .ok (.ifCond .gt 5, 3) := by decide +kernel
theorem dX1_takeBack_7 : decode cX1_takeBack 7 = .ok (.iconst 0, 1) := by decide +kernel
theorem dX1_takeBack_8 : decode cX1_takeBack 8 = .ok (.ireturn, 1) := by decide +kernel
theorem dX1_takeBack_9 : decode cX1_takeBack 9 = .ok (.aload_n 0, 1) := by decide +kernel
theorem dX1_takeBack_10 : decode cX1_takeBack 10 = .ok (.dup, 1) := by decide +kernel
theorem dX1_takeBack_11 : decode cX1_takeBack 11 = .ok (.getfield 18, 3) := by decide +kernel
theorem dX1_takeBack_14 : decode cX1_takeBack 14 = .ok (.iconst 1, 1) := by decide +kernel
theorem dX1_takeBack_15 : decode cX1_takeBack 15 = .ok (.isub, 1) := by decide +kernel
theorem dX1_takeBack_16 : decode cX1_takeBack 16 = .ok (.putfield 18, 3) := by decide +kernel
theorem dX1_takeBack_19 : decode cX1_takeBack 19 = .ok (.aload_n 1, 1) := by decide +kernel
theorem dX1_takeBack_20 : decode cX1_takeBack 20 = .ok (.aload_n 0, 1) := by decide +kernel
theorem dX1_takeBack_21 : decode cX1_takeBack 21 = .ok (.getfield 11, 3) := by decide +kernel
theorem dX1_takeBack_24 : decode cX1_takeBack 24 = .ok (.aload_n 0, 1) := by decide +kernel
theorem dX1_takeBack_25 : decode cX1_takeBack 25 = .ok (.getfield 18, 3) := by decide +kernel
theorem dX1_takeBack_28 : decode cX1_takeBack 28 = .ok (.aaload, 1) := by decide +kernel
theorem dX1_takeBack_29 : decode cX1_takeBack 29 = .ok (.invokevirtual 25, 3) := by decide +kernel
theorem dX1_takeBack_32 : decode cX1_takeBack 32 = .ok (.iconst 1, 1) := by decide +kernel
theorem dX1_takeBack_33 : decode cX1_takeBack 33 = .ok (.ireturn, 1) := by decide +kernel
theorem dX1_dropOldest_0 : decode cX1_dropOldest 0 = .ok (.aload_n 0, 1) := by decide +kernel
theorem dX1_dropOldest_1 : decode cX1_dropOldest 1 = .ok (.getfield 11, 3) := by decide +kernel
theorem dX1_dropOldest_4 : decode cX1_dropOldest 4 = .ok (.iconst 0, 1) := by decide +kernel
theorem dX1_dropOldest_5 : decode cX1_dropOldest 5 = .ok (.aaload, 1) := by decide +kernel
theorem dX1_dropOldest_6 : decode cX1_dropOldest 6 = .ok (.astore_n 1, 1) := by decide +kernel
theorem dX1_dropOldest_7 : decode cX1_dropOldest 7 = .ok (.iconst 1, 1) := by decide +kernel
theorem dX1_dropOldest_8 : decode cX1_dropOldest 8 = .ok (.istore_n 2, 1) := by decide +kernel
theorem dX1_dropOldest_9 : decode cX1_dropOldest 9 = .ok (.iload_n 2, 1) := by decide +kernel
theorem dX1_dropOldest_10 : decode cX1_dropOldest 10 = .ok (.iconst 4, 1) := by decide +kernel
theorem dX1_dropOldest_11 : decode cX1_dropOldest 11 = .ok (.if_icmp .ge 23, 3) := by decide +kernel
theorem dX1_dropOldest_14 : decode cX1_dropOldest 14 = .ok (.aload_n 0, 1) := by decide +kernel
theorem dX1_dropOldest_15 : decode cX1_dropOldest 15 = .ok (.getfield 11, 3) := by decide +kernel
theorem dX1_dropOldest_18 : decode cX1_dropOldest 18 = .ok (.iload_n 2, 1) := by decide +kernel
theorem dX1_dropOldest_19 : decode cX1_dropOldest 19 = .ok (.iconst 1, 1) := by decide +kernel
theorem dX1_dropOldest_20 : decode cX1_dropOldest 20 = .ok (.isub, 1) := by decide +kernel
theorem dX1_dropOldest_21 : decode cX1_dropOldest 21 = .ok (.aload_n 0, 1) := by decide +kernel
theorem dX1_dropOldest_22 : decode cX1_dropOldest 22 = .ok (.getfield 11, 3) := by decide +kernel
theorem dX1_dropOldest_25 : decode cX1_dropOldest 25 = .ok (.iload_n 2, 1) := by decide +kernel
theorem dX1_dropOldest_26 : decode cX1_dropOldest 26 = .ok (.aaload, 1) := by decide +kernel
theorem dX1_dropOldest_27 : decode cX1_dropOldest 27 = .ok (.aastore, 1) := by decide +kernel
theorem dX1_dropOldest_28 : decode cX1_dropOldest 28 = .ok (.iinc 2 1, 3) := by decide +kernel
theorem dX1_dropOldest_31 : decode cX1_dropOldest 31 = .ok (.goto (-22), 3) := by decide +kernel
theorem dX1_dropOldest_34 : decode cX1_dropOldest 34 = .ok (.aload_n 0, 1) := by decide +kernel
theorem dX1_dropOldest_35 : decode cX1_dropOldest 35 = .ok (.getfield 11, 3) := by decide +kernel
theorem dX1_dropOldest_38 : decode cX1_dropOldest 38 = .ok (.iconst 3, 1) := by decide +kernel
theorem dX1_dropOldest_39 : decode cX1_dropOldest 39 = .ok (.aload_n 1, 1) := by decide +kernel
theorem dX1_dropOldest_40 : decode cX1_dropOldest 40 = .ok (.aastore, 1) := by decide +kernel
theorem dX1_dropOldest_41 : decode cX1_dropOldest 41 = .ok (.aload_n 0, 1) := by decide +kernel
theorem dX1_dropOldest_42 : decode cX1_dropOldest 42 = .ok (.iconst 3, 1) := by decide +kernel
theorem dX1_dropOldest_43 : decode cX1_dropOldest 43 = .ok (.putfield 18, 3) := by decide +kernel
theorem dX1_dropOldest_46 : decode cX1_dropOldest 46 = .ok (.return_, 1) := by decide +kernel
theorem dX2_init_0 : decode cX2_init 0 = .ok (.aload_n 0, 1) := by decide +kernel
theorem dX2_init_1 : decode cX2_init 1 = .ok (.invokespecial 3, 3) := by decide +kernel
theorem dX2_init_4 : decode cX2_init 4 = .ok (.aload_n 0, 1) := by decide +kernel
theorem dX2_init_5 : decode cX2_init 5 = .ok (.bipush 7, 2) := by decide +kernel
theorem dX2_init_7 : decode cX2_init 7 = .ok (.bipush 10, 2) := by decide +kernel
theorem dX2_init_9 : decode cX2_init 9 = .ok (.multianewarray 9 2, 4) := by decide +kernel
theorem dX2_init_13 : decode cX2_init 13 = .ok (.putfield 11, 3) := by decide +kernel
theorem dX2_init_16 : decode cX2_init 16 = .ok (.return_, 1) := by decide +kernel
theorem dX2_copyFrom_0 : decode cX2_copyFrom 0 = .ok (.iconst 0, 1) := by decide +kernel
theorem dX2_copyFrom_1 : decode cX2_copyFrom 1 = .ok (.istore_n 2, 1) := by decide +kernel
theorem dX2_copyFrom_2 : decode cX2_copyFrom 2 = .ok (.iload_n 2, 1) := by decide +kernel
theorem dX2_copyFrom_3 : decode cX2_copyFrom 3 = .ok (.bipush 7, 2) := by decide +kernel
theorem dX2_copyFrom_5 : decode cX2_copyFrom 5 = .ok (.if_icmp .ge 28, 3) := by decide +kernel
theorem dX2_copyFrom_8 : decode cX2_copyFrom 8 = .ok (.aload_n 1, 1) := by decide +kernel
theorem dX2_copyFrom_9 : decode cX2_copyFrom 9 = .ok (.getfield 11, 3) := by decide +kernel
theorem dX2_copyFrom_12 : decode cX2_copyFrom 12 = .ok (.iload_n 2, 1) := by decide +kernel
theorem dX2_copyFrom_13 : decode cX2_copyFrom 13 = .ok (.aaload, 1) := by decide +kernel
theorem dX2_copyFrom_14 : decode cX2_copyFrom 14 = .ok (.iconst 0, 1) := by decide +kernel
theorem dX2_copyFrom_15 : decode cX2_copyFrom 15 = .ok (.aload_n 0, 1) := by decide +kernel
theorem dX2_copyFrom_16 : decode cX2_copyFrom 16 = .ok (.getfield 11, 3) := by decide +kernel
theorem dX2_copyFrom_19 : decode cX2_copyFrom 19 = .ok (.iload_n 2, 1) := by decide +kernel
theorem dX2_copyFrom_20 : decode cX2_copyFrom 20 = .ok (.aaload, 1) := by decide +kernel
theorem dX2_copyFrom_21 : decode cX2_copyFrom 21 = .ok (.iconst 0, 1) := by decide +kernel
theorem dX2_copyFrom_22 : decode cX2_copyFrom 22 = .ok (.bipush 10, 2) := by decide +kernel
theorem dX2_copyFrom_24 : decode cX2_copyFrom 24 = .ok (.invokestatic 16, 3) := by decide +kernel
theorem dX2_copyFrom_27 : decode cX2_copyFrom 27 = .ok (.iinc 2 1, 3) := by decide +kernel
theorem dX2_copyFrom_30 : decode cX2_copyFrom 30 = .ok (.goto (-28), 3) := by decide +kernel
theorem dX2_copyFrom_33 : decode cX2_copyFrom 33 = .ok (.aload_n 0, 1) := by decide +kernel
theorem dX2_copyFrom_34 : decode cX2_copyFrom 34 = .ok (.aload_n 1, 1) := by decide +kernel
theorem dX2_copyFrom_35 : decode cX2_copyFrom 35 = .ok (.getfield 22, 3) := by decide +kernel
theorem dX2_copyFrom_38 : decode cX2_copyFrom 38 = .ok (.putfield 22, 3) := by decide +kernel
theorem dX2_copyFrom_41 : decode cX2_copyFrom 41 = .ok (.return_, 1) := by decide +kernel
theorem dX2_holds_0 : decode cX2_holds 0 = .ok (.iload_n 1, 1) := by decide +kernel
theorem dX2_holds_1 : decode cX2_holds 1 = .ok (.ifCond .lt 15, 3) := by decide +kernel
theorem dX2_holds_4 : decode cX2_holds 4 = .ok (.iload_n 1, 1) := by decide +kernel
theorem dX2_holds_5 : decode cX2_holds 5 = .ok (.aload_n 0, 1) := by decide +kernel
theorem dX2_holds_6 : decode cX2_holds 6 = .ok (.getfield 22, 3) := by decide +kernel
theorem dX2_holds_9 : decode cX2_holds 9 = .ok (.if_icmp .ge 7, 3) := by decide +kernel
theorem dX2_holds_12 : decode cX2_holds 12 = .ok (.iconst 1, 1) := by decide +kernel
theorem dX2_holds_13 : decode cX2_holds 13 = .ok (.goto 4, 3) := by decide +kernel
theorem dX2_holds_16 : decode cX2_holds 16 = .ok (.iconst 0, 1) := by decide +kernel
theorem dX2_holds_17 : decode cX2_holds 17 = .ok (.ireturn, 1) := by decide +kernel
theorem dX2_isUsable_0 : decode cX2_isUsable 0 = .ok (.aload_n 0, 1) := by decide +kernel
theorem dX2_isUsable_1 : decode cX2_isUsable 1 = .ok (.getfield 11, 3) := by decide +kernel
theorem dX2_isUsable_4 : decode cX2_isUsable 4 = .ok (.bipush 6, 2) := by decide +kernel
theorem dX2_isUsable_6 : decode cX2_isUsable 6 = .ok (.aaload, 1) := by decide +kernel
theorem dX2_isUsable_7 : decode cX2_isUsable 7 = .ok (.iload_n 1, 1) := by decide +kernel
theorem dX2_isUsable_8 : decode cX2_isUsable 8 = .ok (.iaload, 1) := by decide +kernel
theorem dX2_isUsable_9 : decode cX2_isUsable 9 = .ok (.ifCond .ne 7, 3) := by decide +kernel
theorem dX2_isUsable_12 : decode cX2_isUsable 12 = .ok (.iconst 1, 1) := by decide +kernel
theorem dX2_isUsable_13 : decode cX2_isUsable 13 = .ok (.goto 4, 3) := by decide +kernel
theorem dX2_isUsable_16 : decode cX2_isUsable 16 = .ok (.iconst 0, 1) := by decide +kernel
theorem dX2_isUsable_17 : decode cX2_isUsable 17 = .ok (.ireturn, 1) := by decide +kernel
theorem dX2_hasAngle_0 : decode cX2_hasAngle 0 = .ok (.aload_n 0, 1) := by decide +kernel
theorem dX2_hasAngle_1 : decode cX2_hasAngle 1 = .ok (.getfield 11, 3) := by decide +kernel
theorem dX2_hasAngle_4 : decode cX2_hasAngle 4 = .ok (.iconst 4, 1) := by decide +kernel
theorem dX2_hasAngle_5 : decode cX2_hasAngle 5 = .ok (.aaload, 1) := by decide +kernel
theorem dX2_hasAngle_6 : decode cX2_hasAngle 6 = .ok (.iload_n 1, 1) := by decide +kernel
theorem dX2_hasAngle_7 : decode cX2_hasAngle 7 = .ok (.iaload, 1) := by decide +kernel
theorem dX2_hasAngle_8 : decode cX2_hasAngle 8 = .ok (.sipush 360, 3) := by decide +kernel
theorem dX2_hasAngle_11 : decode cX2_hasAngle 11 = .ok (.if_icmp .eq 7, 3) := by decide +kernel
theorem dX2_hasAngle_14 : decode cX2_hasAngle 14 = .ok (.iconst 1, 1) := by decide +kernel
theorem dX2_hasAngle_15 : decode cX2_hasAngle 15 = .ok (.goto 4, 3) := by decide +kernel
theorem dX2_hasAngle_18 : decode cX2_hasAngle 18 = .ok (.iconst 0, 1) := by decide +kernel
theorem dX2_hasAngle_19 : decode cX2_hasAngle 19 = .ok (.ireturn, 1) := by decide +kernel
set_option maxRecDepth 20000 in
theorem ggX2_isMarked_X2_isUsable : GoodIn wsX2_isMarked wsX2_isUsable := goodIn_r _ [5, 6, 11, 12] (by decide +kernel) (by decide +kernel)
set_option maxRecDepth 20000 in
theorem gX2_isMarked_X2_isUsable : GoodIn wsX2_isMarked (wsV RX2 26 RX2 yX2_isUsable wsX2_isUsable) := goodIn_app (goodIn_of _ (by decide +kernel)) ggX2_isMarked_X2_isUsable
set_option maxRecDepth 20000 in
theorem ggX2_isMarked_X2_hasAngle : GoodIn wsX2_isMarked wsX2_hasAngle := goodIn_r _ [10, 6, 11, 12] (by decide +kernel) (by decide +kernel)
set_option maxRecDepth 20000 in
theorem gX2_isMarked_X2_hasAngle : GoodIn wsX2_isMarked (wsV RX2 30 RX2 yX2_hasAngle wsX2_hasAngle) := goodIn_app (goodIn_of _ (by decide +kernel)) ggX2_isMarked_X2_hasAngle
theorem dX2_isMarked_0 : decode cX2_isMarked 0 = .ok (.aload_n 0, 1) := by decide +kernel
theorem dX2_isMarked_1 : decode cX2_isMarked 1 = .ok (.iload_n 1, 1) := by decide +kernel
theorem dX2_isMarked_2 : decode cX2_isMarked 2 = .ok (.invokevirtual 26, 3) := by decide +kernel
theorem dX2_isMarked_5 : decode cX2_isMarked 5 = .ok (.ifCond .eq 15, 3) := by decide +kernel
theorem dX2_isMarked_8 : decode cX2_isMarked 8 = .ok (.aload_n 0, 1) := by decide +kernel
theorem dX2_isMarked_9 : decode cX2_isMarked 9 = .ok (.iload_n 1, 1) := by decide +kernel
theorem dX2_isMarked_10 : decode cX2_isMarked 10 = .ok (.invokevirtual 30, 3) := by decide +kernel
theorem dX2_isMarked_13 : decode cX2_isMarked 13 = .ok (.ifCond .eq 7, 3) := by decide +kernel
theorem dX2_isMarked_16 : decode cX2_isMarked 16 = .ok (.iconst 1, 1) := by decide +kernel
theorem dX2_isMarked_17 : decode cX2_isMarked 17 = .ok (.goto 4, 3) := by decide +kernel
theorem dX2_isMarked_20 : decode cX2_isMarked 20 = .ok (.iconst 0, 1) := by decide +kernel
theorem dX2_isMarked_21 : decode cX2_isMarked 21 = .ok (.ireturn, 1) := by decide +kernel
set_option maxRecDepth 20000 in
theorem ggX2_usable_X2_isUsable : GoodIn wsX2_usable wsX2_isUsable := goodIn_r _ [6, 7, 8, 9] (by decide +kernel) (by decide +kernel)
set_option maxRecDepth 20000 in
theorem gX2_usable_X2_isUsable : GoodIn wsX2_usable (wsV RX2 26 RX2 yX2_isUsable wsX2_isUsable) := goodIn_app (goodIn_of _ (by decide +kernel)) ggX2_usable_X2_isUsable
theorem dX2_usable_0 : decode cX2_usable 0 = .ok (.iconst 0, 1) := by decide +kernel
theorem dX2_usable_1 : decode cX2_usable 1 = .ok (.istore_n 1, 1) := by decide +kernel
theorem dX2_usable_2 : decode cX2_usable 2 = .ok (.iconst 0, 1) := by decide +kernel
theorem dX2_usable_3 : decode cX2_usable 3 = .ok (.istore_n 2, 1) := by decide +kernel
theorem dX2_usable_4 : decode cX2_usable 4 = .ok (.iload_n 2, 1) := by decide +kernel
theorem dX2_usable_5 : decode cX2_usable 5 = .ok (.aload_n 0, 1) := by decide +kernel
theorem dX2_usable_6 : decode cX2_usable 6 = .ok (.getfield 22, 3) := by decide +kernel
theorem dX2_usable_9 : decode cX2_usable 9 = .ok (.if_icmp .ge 23, 3) := by decide +kernel
theorem dX2_usable_12 : decode cX2_usable 12 = .ok (.aload_n 0, 1) := by decide +kernel
theorem dX2_usable_13 : decode cX2_usable 13 = .ok (.iload_n 2, 1) := by decide +kernel
theorem dX2_usable_14 : decode cX2_usable 14 = .ok (.invokevirtual 26, 3) := by decide +kernel
theorem dX2_usable_17 : decode cX2_usable 17 = .ok (.ifCond .eq 9, 3) := by decide +kernel
theorem dX2_usable_20 : decode cX2_usable 20 = .ok (.iload_n 1, 1) := by decide +kernel
theorem dX2_usable_21 : decode cX2_usable 21 = .ok (.iconst 1, 1) := by decide +kernel
theorem dX2_usable_22 : decode cX2_usable 22 = .ok (.iload_n 2, 1) := by decide +kernel
theorem dX2_usable_23 : decode cX2_usable 23 = .ok (.ishl, 1) := by decide +kernel
theorem dX2_usable_24 : decode cX2_usable 24 = .ok (.ior, 1) := by decide +kernel
theorem dX2_usable_25 : decode cX2_usable 25 = .ok (.istore_n 1, 1) := by decide +kernel
theorem dX2_usable_26 : decode cX2_usable 26 = .ok (.iinc 2 1, 3) := by decide +kernel
theorem dX2_usable_29 : decode cX2_usable 29 = .ok (.goto (-25), 3) := by decide +kernel
theorem dX2_usable_32 : decode cX2_usable 32 = .ok (.iload_n 1, 1) := by decide +kernel
theorem dX2_usable_33 : decode cX2_usable 33 = .ok (.ireturn, 1) := by decide +kernel
set_option maxRecDepth 20000 in
theorem ggX2_marked_X2_isMarked : GoodIn wsX2_marked wsX2_isMarked := goodIn_r _ [6, 7, 8, 9, 5, 10, 11, 12, 13, 14, 15, 16, 17] (by decide +kernel) (by decide +kernel)
set_option maxRecDepth 20000 in
theorem gX2_marked_X2_isMarked : GoodIn wsX2_marked (wsV RX2 33 RX2 yX2_isMarked wsX2_isMarked) := goodIn_app (goodIn_of _ (by decide +kernel)) ggX2_marked_X2_isMarked
theorem dX2_marked_0 : decode cX2_marked 0 = .ok (.iconst 0, 1) := by decide +kernel
theorem dX2_marked_1 : decode cX2_marked 1 = .ok (.istore_n 1, 1) := by decide +kernel
theorem dX2_marked_2 : decode cX2_marked 2 = .ok (.iconst 0, 1) := by decide +kernel
theorem dX2_marked_3 : decode cX2_marked 3 = .ok (.istore_n 2, 1) := by decide +kernel
theorem dX2_marked_4 : decode cX2_marked 4 = .ok (.iload_n 2, 1) := by decide +kernel
theorem dX2_marked_5 : decode cX2_marked 5 = .ok (.aload_n 0, 1) := by decide +kernel
theorem dX2_marked_6 : decode cX2_marked 6 = .ok (.getfield 22, 3) := by decide +kernel
theorem dX2_marked_9 : decode cX2_marked 9 = .ok (.if_icmp .ge 23, 3) := by decide +kernel
theorem dX2_marked_12 : decode cX2_marked 12 = .ok (.aload_n 0, 1) := by decide +kernel
theorem dX2_marked_13 : decode cX2_marked 13 = .ok (.iload_n 2, 1) := by decide +kernel
theorem dX2_marked_14 : decode cX2_marked 14 = .ok (.invokevirtual 33, 3) := by decide +kernel
theorem dX2_marked_17 : decode cX2_marked 17 = .ok (.ifCond .eq 9, 3) := by decide +kernel
theorem dX2_marked_20 : decode cX2_marked 20 = .ok (.iload_n 1, 1) := by decide +kernel
theorem dX2_marked_21 : decode cX2_marked 21 = .ok (.iconst 1, 1) := by decide +kernel
theorem dX2_marked_22 : decode cX2_marked 22 = .ok (.iload_n 2, 1) := by decide +kernel
theorem dX2_marked_23 : decode cX2_marked 23 = .ok (.ishl, 1) := by decide +kernel
theorem dX2_marked_24 : decode cX2_marked 24 = .ok (.ior, 1) := by decide +kernel
theorem dX2_marked_25 : decode cX2_marked 25 = .ok (.istore_n 1, 1) := by decide +kernel
theorem dX2_marked_26 : decode cX2_marked 26 = .ok (.iinc 2 1, 3) := by decide +kernel
theorem dX2_marked_29 : decode cX2_marked 29 = .ok (.goto (-25), 3) := by decide +kernel
theorem dX2_marked_32 : decode cX2_marked 32 = .ok (.iload_n 1, 1) := by decide +kernel
theorem dX2_marked_33 : decode cX2_marked 33 = .ok (.ireturn, 1) := by decide +kernel
theorem dX2_numberAt_0 : decode cX2_numberAt 0 = .ok (.iconst 0, 1) := by decide +kernel
theorem dX2_numberAt_1 : decode cX2_numberAt 1 = .ok (.istore_n 2, 1) := by decide +kernel
theorem dX2_numberAt_2 : decode cX2_numberAt 2 = .ok (.iload_n 2, 1) := by decide +kernel
theorem dX2_numberAt_3 : decode cX2_numberAt 3 = .ok (.aload_n 0, 1) := by decide +kernel
theorem dX2_numberAt_4 : decode cX2_numberAt 4 = .ok (.getfield 22, 3) := by decide +kernel
theorem dX2_numberAt_7 : decode cX2_numberAt 7 = .ok (.if_icmp .ge 21, 3) := by decide +kernel
theorem dX2_numberAt_10 : decode cX2_numberAt 10 = .ok (.aload_n 0, 1) := by decide +kernel
theorem dX2_numberAt_11 : decode cX2_numberAt 11 = .ok (.getfield 11, 3) := by decide +kernel
theorem dX2_numberAt_14 : decode cX2_numberAt 14 = .ok (.iconst 0, 1) := by decide +kernel
theorem dX2_numberAt_15 : decode cX2_numberAt 15 = .ok (.aaload, 1) := by decide +kernel
theorem dX2_numberAt_16 : decode cX2_numberAt 16 = .ok (.iload_n 2, 1) := by decide +kernel
theorem dX2_numberAt_17 : decode cX2_numberAt 17 = .ok (.iaload, 1) := by decide +kernel
theorem dX2_numberAt_18 : decode cX2_numberAt 18 = .ok (.iload_n 1, 1) := by decide +kernel
theorem dX2_numberAt_19 : decode cX2_numberAt 19 = .ok (.if_icmp .ge 9, 3) := by decide +kernel
theorem dX2_numberAt_22 : decode cX2_numberAt 22 = .ok (.iinc 2 1, 3) := by decide +kernel
theorem dX2_numberAt_25 : decode cX2_numberAt 25 = .ok (.goto (-23), 3) := by decide +kernel
theorem dX2_numberAt_28 : decode cX2_numberAt 28 = .ok (.iload_n 2, 1) := by decide +kernel
theorem dX2_numberAt_29 : decode cX2_numberAt 29 = .ok (.ireturn, 1) := by decide +kernel
theorem dX2_insert_0 : decode cX2_insert 0 = .ok (.iload_n 1, 1) := by decide +kernel
theorem dX2_insert_1 : decode cX2_insert 1 = .ok (.ifCond .lt 20, 3) := by decide +kernel
theorem dX2_insert_4 : decode cX2_insert 4 = .ok (.iload_n 1, 1) := by decide +kernel
theorem dX2_insert_5 : decode cX2_insert 5 = .ok (.aload_n 0, 1) := by decide +kernel
theorem dX2_insert_6 : decode cX2_insert 6 = .ok (.getfield 22, 3) := by decide +kernel
theorem dX2_insert_9 : decode cX2_insert 9 = .ok (.if_icmp .gt 12, 3) := by decide +kernel
theorem dX2_insert_12 : decode cX2_insert 12 = .ok (.aload_n 0, 1) := by decide +kernel
theorem dX2_insert_13 : decode cX2_insert 13 = .ok (.getfield 22, 3) := by decide +kernel
theorem dX2_insert_16 : decode cX2_insert 16 = .ok (.bipush 10, 2) := by decide +kernel
theorem dX2_insert_18 : decode cX2_insert 18 = .ok (.if_icmp .lt 4, 3) := by decide +kernel
theorem dX2_insert_21 : decode cX2_insert 21 = .ok (.return_, 1) := by decide +kernel
theorem dX2_insert_22 : decode cX2_insert 22 = .ok (.iconst 0, 1) := by decide +kernel
theorem dX2_insert_23 : decode cX2_insert 23 = .ok (.istore_n 3, 1) := by decide +kernel
theorem dX2_insert_24 : decode cX2_insert 24 = .ok (.iload_n 3, 1) := by decide +kernel
theorem dX2_insert_25 : decode cX2_insert 25 = .ok (.bipush 7, 2) := by decide +kernel
theorem dX2_insert_27 : decode cX2_insert 27 = .ok (.if_icmp .ge 55, 3) := by decide +kernel
theorem dX2_insert_30 : decode cX2_insert 30 = .ok (.aload_n 0, 1) := by decide +kernel
theorem dX2_insert_31 : decode cX2_insert 31 = .ok (.getfield 11, 3) := by decide +kernel
theorem dX2_insert_34 : decode cX2_insert 34 = .ok (.iload_n 3, 1) := by decide +kernel
theorem dX2_insert_35 : decode cX2_insert 35 = .ok (.aaload, 1) := by decide +kernel
theorem dX2_insert_36 : decode cX2_insert 36 = .ok (.iload_n 1, 1) := by decide +kernel
theorem dX2_insert_37 : decode cX2_insert 37 = .ok (.aload_n 0, 1) := by decide +kernel
theorem dX2_insert_38 : decode cX2_insert 38 = .ok (.getfield 11, 3) := by decide +kernel
theorem dX2_insert_41 : decode cX2_insert 41 = .ok (.iload_n 3, 1) := by decide +kernel
theorem dX2_insert_42 : decode cX2_insert 42 = .ok (.aaload, 1) := by decide +kernel
theorem dX2_insert_43 : decode cX2_insert 43 = .ok (.iload_n 1, 1) := by decide +kernel
theorem dX2_insert_44 : decode cX2_insert 44 = .ok (.iconst 1, 1) := by decide +kernel
theorem dX2_insert_45 : decode cX2_insert 45 = .ok (.iadd, 1) := by decide +kernel
theorem dX2_insert_46 : decode cX2_insert 46 = .ok (.aload_n 0, 1) := by decide +kernel
theorem dX2_insert_47 : decode cX2_insert 47 = .ok (.getfield 22, 3) := by decide +kernel
theorem dX2_insert_50 : decode cX2_insert 50 = .ok (.iload_n 1, 1) := by decide +kernel
theorem dX2_insert_51 : decode cX2_insert 51 = .ok (.isub, 1) := by decide +kernel
theorem dX2_insert_52 : decode cX2_insert 52 = .ok (.invokestatic 16, 3) := by decide +kernel
theorem dX2_insert_55 : decode cX2_insert 55 = .ok (.aload_n 0, 1) := by decide +kernel
theorem dX2_insert_56 : decode cX2_insert 56 = .ok (.getfield 11, 3) := by decide +kernel
theorem dX2_insert_59 : decode cX2_insert 59 = .ok (.iload_n 3, 1) := by decide +kernel
theorem dX2_insert_60 : decode cX2_insert 60 = .ok (.aaload, 1) := by decide +kernel
theorem dX2_insert_61 : decode cX2_insert 61 = .ok (.iload_n 1, 1) := by decide +kernel
theorem dX2_insert_62 : decode cX2_insert 62 = .ok (.iload_n 3, 1) := by decide +kernel
theorem dX2_insert_63 : decode cX2_insert 63 = .ok (.aload_n 2, 1) := by decide +kernel
theorem dX2_insert_64 : decode cX2_insert 64 = .ok (.arraylength, 1) := by decide +kernel
theorem dX2_insert_65 : decode cX2_insert 65 = .ok (.if_icmp .ge 9, 3) := by decide +kernel
theorem dX2_insert_68 : decode cX2_insert 68 = .ok (.aload_n 2, 1) := by decide +kernel
theorem dX2_insert_69 : decode cX2_insert 69 = .ok (.iload_n 3, 1) := by decide +kernel
theorem dX2_insert_70 : decode cX2_insert 70 = .ok (.iaload, 1) := by decide +kernel
theorem dX2_insert_71 : decode cX2_insert 71 = .ok (.goto 4, 3) := by decide +kernel
theorem dX2_insert_74 : decode cX2_insert 74 = .ok (.iconst 0, 1) := by decide +kernel
theorem dX2_insert_75 : decode cX2_insert 75 = .ok (.iastore, 1) := by decide +kernel
theorem dX2_insert_76 : decode cX2_insert 76 = .ok (.iinc 3 1, 3) := by decide +kernel
theorem dX2_insert_79 : decode cX2_insert 79 = .ok (.goto (-55), 3) := by decide +kernel
theorem dX2_insert_82 : decode cX2_insert 82 = .ok (.aload_n 0, 1) := by decide +kernel
theorem dX2_insert_83 : decode cX2_insert 83 = .ok (.dup, 1) := by decide +kernel
theorem dX2_insert_84 : decode cX2_insert 84 = .ok (.getfield 22, 3) := by decide +kernel
theorem dX2_insert_87 : decode cX2_insert 87 = .ok (.iconst 1, 1) := by decide +kernel
theorem dX2_insert_88 : decode cX2_insert 88 = .ok (.iadd, 1) := by decide +kernel
theorem dX2_insert_89 : decode cX2_insert 89 = .ok (.putfield 22, 3) := by decide +kernel
theorem dX2_insert_92 : decode cX2_insert 92 = .ok (.return_, 1) := by decide +kernel
set_option maxRecDepth 20000 in
theorem ggX2_delete_X2_holds : GoodIn wsX2_delete wsX2_holds := goodIn_r _ [11, 2, 12, 13] (by decide +kernel) (by decide +kernel)
set_option maxRecDepth 20000 in
theorem gX2_delete_X2_holds : GoodIn wsX2_delete (wsV RX2 36 RX2 yX2_holds wsX2_holds) := goodIn_app (goodIn_of _ (by decide +kernel)) ggX2_delete_X2_holds
theorem dX2_delete_0 : decode cX2_delete 0 = .ok (.aload_n 0, 1) := by decide +kernel
theorem dX2_delete_1 : decode cX2_delete 1 = .ok (.iload_n 1, 1) := by decide +kernel
theorem dX2_delete_2 : decode cX2_delete 2 = .ok (.invokevirtual 36, 3) := by decide +kernel
theorem dX2_delete_5 : decode cX2_delete 5 = .ok (.ifCond .ne 4, 3) := by decide +kernel
theorem dX2_delete_8 : decode cX2_delete 8 = .ok (.return_, 1) := by decide +kernel
theorem dX2_delete_9 : decode cX2_delete 9 = .ok (.iconst 0, 1) := by decide +kernel
theorem dX2_delete_10 : decode cX2_delete 10 = .ok (.istore_n 2, 1) := by decide +kernel
theorem dX2_delete_11 : decode cX2_delete 11 = .ok (.iload_n 2, 1) := by decide +kernel
theorem dX2_delete_12 : decode cX2_delete 12 = .ok (.bipush 7, 2) := by decide +kernel
theorem dX2_delete_14 : decode cX2_delete 14 = .ok (.if_icmp .ge 36, 3) := by decide +kernel
theorem dX2_delete_17 : decode cX2_delete 17 = .ok (.aload_n 0, 1) := by decide +kernel
theorem dX2_delete_18 : decode cX2_delete 18 = .ok (.getfield 11, 3) := by decide +kernel
theorem dX2_delete_21 : decode cX2_delete 21 = .ok (.iload_n 2, 1) := by decide +kernel
theorem dX2_delete_22 : decode cX2_delete 22 = .ok (.aaload, 1) := by decide +kernel
theorem dX2_delete_23 : decode cX2_delete 23 = .ok (.iload_n 1, 1) := by decide +kernel
theorem dX2_delete_24 : decode cX2_delete 24 = .ok (.iconst 1, 1) := by decide +kernel
theorem dX2_delete_25 : decode cX2_delete 25 = .ok (.iadd, 1) := by decide +kernel
theorem dX2_delete_26 : decode cX2_delete 26 = .ok (.aload_n 0, 1) := by decide +kernel
theorem dX2_delete_27 : decode cX2_delete 27 = .ok (.getfield 11, 3) := by decide +kernel
theorem dX2_delete_30 : decode cX2_delete 30 = .ok (.iload_n 2, 1) := by decide +kernel
theorem dX2_delete_31 : decode cX2_delete 31 = .ok (.aaload, 1) := by decide +kernel
theorem dX2_delete_32 : decode cX2_delete 32 = .ok (.iload_n 1, 1) := by decide +kernel
theorem dX2_delete_33 : decode cX2_delete 33 = .ok (.aload_n 0, 1) := by decide +kernel
theorem dX2_delete_34 : decode cX2_delete 34 = .ok (.getfield 22, 3) := by decide +kernel
theorem dX2_delete_37 : decode cX2_delete 37 = .ok (.iconst 1, 1) := by decide +kernel
theorem dX2_delete_38 : decode cX2_delete 38 = .ok (.isub, 1) := by decide +kernel
theorem dX2_delete_39 : decode cX2_delete 39 = .ok (.iload_n 1, 1) := by decide +kernel
theorem dX2_delete_40 : decode cX2_delete 40 = .ok (.isub, 1) := by decide +kernel
theorem dX2_delete_41 : decode cX2_delete 41 = .ok (.invokestatic 16, 3) := by decide +kernel
theorem dX2_delete_44 : decode cX2_delete 44 = .ok (.iinc 2 1, 3) := by decide +kernel
theorem dX2_delete_47 : decode cX2_delete 47 = .ok (.goto (-36), 3) := by decide +kernel
theorem dX2_delete_50 : decode cX2_delete 50 = .ok (.aload_n 0, 1) := by decide +kernel
theorem dX2_delete_51 : decode cX2_delete 51 = .ok (.dup, 1) := by decide +kernel
theorem dX2_delete_52 : decode cX2_delete 52 = .ok (.getfield 22, 3) := by decide +kernel
theorem dX2_delete_55 : decode cX2_delete 55 = .ok (.iconst 1, 1) := by decide +kernel
theorem dX2_delete_56 : decode cX2_delete 56 = .ok (.isub, 1) := by decide +kernel
theorem dX2_delete_57 : decode cX2_delete 57 = .ok (.putfield 22, 3) := by decide +kernel
theorem dX2_delete_60 : decode cX2_delete 60 = .ok (.return_, 1) := by decide +kernel
theorem dX3_init_0 : decode cX3_init 0 = .ok (.aload_n 0, 1) := by decide +kernel
theorem dX3_init_1 : decode cX3_init 1 = .ok (.invokespecial 3, 3) := by decide +kernel
theorem dX3_init_4 : decode cX3_init 4 = .ok (.aload_n 0, 1) := by decide +kernel
theorem dX3_init_5 : decode cX3_init 5 = .ok (.aload_n 1, 1) := by decide +kernel
theorem dX3_init_6 : decode cX3_init 6 = .ok (.putfield 9, 3) := by decide +kernel
theorem dX3_init_9 : decode cX3_init 9 = .ok (.return_, 1) := by decide +kernel
set_option maxRecDepth 20000 in
theorem ggX3_angleOf_J9_floorMod_7cf53 : GoodIn wsX3_angleOf wsJ9_floorMod_7cf53 := goodIn_r _ [4] (by decide +kernel) (by decide +kernel)
set_option maxRecDepth 20000 in
theorem gX3_angleOf_J9_floorMod_7cf53 : GoodIn wsX3_angleOf (va_wsS RX3 15 yJ9_floorMod_7cf53 wsJ9_floorMod_7cf53) := goodIn_app (goodIn_of _ (by decide +kernel)) ggX3_angleOf_J9_floorMod_7cf53
theorem dX3_angleOf_0 : decode cX3_angleOf 0 = .ok (.iload_n 1, 1) := by decide +kernel
theorem dX3_angleOf_1 : decode cX3_angleOf 1 = .ok (.iload_n 0, 1) := by decide +kernel
theorem dX3_angleOf_2 : decode cX3_angleOf 2 = .ok (.iload_n 2, 1) := by decide +kernel
theorem dX3_angleOf_3 : decode cX3_angleOf 3 = .ok (.imul, 1) := by decide +kernel
theorem dX3_angleOf_4 : decode cX3_angleOf 4 = .ok (.iadd, 1) := by decide +kernel
theorem dX3_angleOf_5 : decode cX3_angleOf 5 = .ok (.sipush 360, 3) := by decide +kernel
theorem dX3_angleOf_8 : decode cX3_angleOf 8 = .ok (.invokestatic 15, 3) := by decide +kernel
theorem dX3_angleOf_11 : decode cX3_angleOf 11 = .ok (.ireturn, 1) := by decide +kernel
set_option maxRecDepth 20000 in
theorem ggX3_fittedBy_X2_isMarked : GoodIn wsX3_fittedBy wsX2_isMarked := goodIn_r _ [7, 8, 9, 10, 6, 11, 12, 13, 14, 15, 16, 41, 42] (by decide +kernel) (by decide +kernel)
set_option maxRecDepth 20000 in
theorem gX3_fittedBy_X2_isMarked : GoodIn wsX3_fittedBy (wsV RX3 27 RX2 yX2_isMarked wsX2_isMarked) := goodIn_app (goodIn_of _ (by decide +kernel)) ggX3_fittedBy_X2_isMarked
set_option maxRecDepth 20000 in
theorem ggX3_fittedBy_X3_isNear : GoodIn wsX3_fittedBy wsX3_isNear := goodIn_r _ [21, 1, 22, 23, 24, 25, 26, 27, 28, 29, 30, 31, 20, 32, 33, 34, 35, 36, 37, 38, 39, 40, 41, 42] (by decide +kernel) (by decide +kernel)
set_option maxRecDepth 20000 in
theorem gX3_fittedBy_X3_isNear : GoodIn wsX3_fittedBy (wsV RX3 31 RX3 yX3_isNear wsX3_isNear) := goodIn_app (goodIn_of _ (by decide +kernel)) ggX3_fittedBy_X3_isNear
theorem dX3_fittedBy_0 : decode cX3_fittedBy 0 = .ok (.iconst 0, 1) := by decide +kernel
theorem dX3_fittedBy_1 : decode cX3_fittedBy 1 = .ok (.istore_n 3, 1) := by decide +kernel
theorem dX3_fittedBy_2 : decode cX3_fittedBy 2 = .ok (.iconst 0, 1) := by decide +kernel
theorem dX3_fittedBy_3 : decode cX3_fittedBy 3 = .ok (.istore 4, 2) := by decide +kernel
theorem dX3_fittedBy_5 : decode cX3_fittedBy 5 = .ok (.iload 4, 2) := by decide +kernel
theorem dX3_fittedBy_7 : decode cX3_fittedBy 7 = .ok (.aload_n 0, 1) := by decide +kernel
theorem dX3_fittedBy_8 : decode cX3_fittedBy 8 = .ok (.getfield 9, 3) := by decide +kernel
theorem dX3_fittedBy_11 : decode cX3_fittedBy 11 = .ok (.getfield 21, 3) := by decide +kernel
theorem dX3_fittedBy_14 : decode cX3_fittedBy 14 = .ok (.if_icmp .ge 39, 3) := by decide +kernel
theorem dX3_fittedBy_17 : decode cX3_fittedBy 17 = .ok (.aload_n 0, 1) := by decide +kernel
theorem dX3_fittedBy_18 : decode cX3_fittedBy 18 = .ok (.getfield 9, 3) := by decide +kernel
theorem dX3_fittedBy_21 : decode cX3_fittedBy 21 = .ok (.iload 4, 2) := by decide +kernel
theorem dX3_fittedBy_23 : decode cX3_fittedBy 23 = .ok (.invokevirtual 27, 3) := by decide +kernel
theorem dX3_fittedBy_26 : decode cX3_fittedBy 26 = .ok (.ifCond .eq 21, 3) := by decide +kernel
theorem dX3_fittedBy_29 : decode cX3_fittedBy 29 = .ok (.aload_n 0, 1) := by decide +kernel
theorem dX3_fittedBy_30 : decode cX3_fittedBy 30 = .ok (.iload 4, 2) := by decide +kernel
theorem dX3_fittedBy_32 : decode cX3_fittedBy 32 = .ok (.iload_n 1, 1) := by decide +kernel
theorem dX3_fittedBy_33 : decode cX3_fittedBy 33 = .ok (.iload_n 2, 1) := by decide +kernel
theorem dX3_fittedBy_34 : decode cX3_fittedBy 34 = .ok (.invokevirtual 31, 3) := by decide +kernel
theorem dX3_fittedBy_37 : decode cX3_fittedBy 37 = .ok (.ifCond .eq 10, 3) := by decide +kernel
theorem dX3_fittedBy_40 : decode cX3_fittedBy 40 = .ok (.iload_n 3, 1) := by decide +kernel
theorem dX3_fittedBy_41 : decode cX3_fittedBy 41 = .ok (.iconst 1, 1) := by decide +kernel
theorem dX3_fittedBy_42 : decode cX3_fittedBy 42 = .ok (.iload 4, 2) := by decide +kernel
theorem dX3_fittedBy_44 : decode cX3_fittedBy 44 = .ok (.ishl, 1) := by decide +kernel
theorem dX3_fittedBy_45 : decode cX3_fittedBy 45 = .ok (.ior, 1) := by decide +kernel
theorem dX3_fittedBy_46 : decode cX3_fittedBy 46 = .ok (.istore_n 3, 1) := by decide +kernel
theorem dX3_fittedBy_47 : decode cX3_fittedBy 47 = .ok (.iinc 4 1, 3) := by decide +kernel
theorem dX3_fittedBy_50 : decode cX3_fittedBy 50 = .ok (.goto (-45), 3) := by decide +kernel
theorem dX3_fittedBy_53 : decode cX3_fittedBy 53 = .ok (.iload_n 3, 1) := by decide +kernel
theorem dX3_fittedBy_54 : decode cX3_fittedBy 54 = .ok (.ireturn, 1) := by decide +kernel
set_option maxRecDepth 20000 in
theorem ggX3_isNear_X3_angleOf : GoodIn wsX3_isNear wsX3_angleOf := goodIn_r _ [13, 14, 15, 16, 17] (by decide +kernel) (by decide +kernel)
set_option maxRecDepth 20000 in
theorem gX3_isNear_X3_angleOf : GoodIn wsX3_isNear (va_wsS RX3 39 yX3_angleOf wsX3_angleOf) := goodIn_app (goodIn_of _ (by decide +kernel)) ggX3_isNear_X3_angleOf
theorem dX3_isNear_0 : decode cX3_isNear 0 = .ok (.iload_n 2, 1) := by decide +kernel
theorem dX3_isNear_1 : decode cX3_isNear 1 = .ok (.iload_n 3, 1) := by decide +kernel
theorem dX3_isNear_2 : decode cX3_isNear 2 = .ok (.aload_n 0, 1) := by decide +kernel
theorem dX3_isNear_3 : decode cX3_isNear 3 = .ok (.getfield 9, 3) := by decide +kernel
theorem dX3_isNear_6 : decode cX3_isNear 6 = .ok (.getfield 35, 3) := by decide +kernel
theorem dX3_isNear_9 : decode cX3_isNear 9 = .ok (.iconst 0, 1) := by decide +kernel
theorem dX3_isNear_10 : decode cX3_isNear 10 = .ok (.aaload, 1) := by decide +kernel
theorem dX3_isNear_11 : decode cX3_isNear 11 = .ok (.iload_n 1, 1) := by decide +kernel
theorem dX3_isNear_12 : decode cX3_isNear 12 = .ok (.iaload, 1) := by decide +kernel
theorem dX3_isNear_13 : decode cX3_isNear 13 = .ok (.invokestatic 39, 3) := by decide +kernel
theorem dX3_isNear_16 : decode cX3_isNear 16 = .ok (.istore 4, 2) := by decide +kernel
theorem dX3_isNear_18 : decode cX3_isNear 18 = .ok (.iload 4, 2) := by decide +kernel
theorem dX3_isNear_20 : decode cX3_isNear 20 = .ok (.aload_n 0, 1) := by decide +kernel
theorem dX3_isNear_21 : decode cX3_isNear 21 = .ok (.getfield 9, 3) := by decide +kernel
theorem dX3_isNear_24 : decode cX3_isNear 24 = .ok (.getfield 35, 3) := by decide +kernel
theorem dX3_isNear_27 : decode cX3_isNear 27 = .ok (.iconst 4, 1) := by decide +kernel
theorem dX3_isNear_28 : decode cX3_isNear 28 = .ok (.aaload, 1) := by decide +kernel
theorem dX3_isNear_29 : decode cX3_isNear 29 = .ok (.iload_n 1, 1) := by decide +kernel
theorem dX3_isNear_30 : decode cX3_isNear 30 = .ok (.iaload, 1) := by decide +kernel
theorem dX3_isNear_31 : decode cX3_isNear 31 = .ok (.isub, 1) := by decide +kernel
theorem dX3_isNear_32 : decode cX3_isNear 32 = .ok (.invokestatic 43, 3) := by decide +kernel
theorem dX3_isNear_35 : decode cX3_isNear 35 = .ok (.istore 5, 2) := by decide +kernel
theorem dX3_isNear_37 : decode cX3_isNear 37 = .ok (.iload 5, 2) := by decide +kernel
theorem dX3_isNear_39 : decode cX3_isNear 39 = .ok (.sipush 360, 3) := by decide +kernel
theorem dX3_isNear_42 : decode cX3_isNear 42 = .ok (.iload 5, 2) := by decide +kernel
theorem dX3_isNear_44 : decode cX3_isNear 44 = .ok (.isub, 1) := by decide +kernel
theorem dX3_isNear_45 : decode cX3_isNear 45 = .ok (.invokestatic 47, 3) := by decide +kernel
theorem dX3_isNear_48 : decode cX3_isNear 48 = .ok (.aload_n 0, 1) := by decide +kernel
theorem dX3_isNear_49 : decode cX3_isNear 49 = .ok (.getfield 9, 3) := by decide +kernel
theorem dX3_isNear_52 : decode cX3_isNear 52 = .ok (.getfield 35, 3) := by decide +kernel
theorem dX3_isNear_55 : decode cX3_isNear 55 = .ok (.iconst 5, 1) := by decide +kernel
theorem dX3_isNear_56 : decode cX3_isNear 56 = .ok (.aaload, 1) := by decide +kernel
theorem dX3_isNear_57 : decode cX3_isNear 57 = .ok (.iload_n 1, 1) := by decide +kernel
theorem dX3_isNear_58 : decode cX3_isNear 58 = .ok (.iaload, 1) := by decide +kernel
theorem dX3_isNear_59 : decode cX3_isNear 59 = .ok (.if_icmp .gt 7, 3) := by decide +kernel
theorem dX3_isNear_62 : decode cX3_isNear 62 = .ok (.iconst 1, 1) := by decide +kernel
theorem dX3_isNear_63 : decode cX3_isNear 63 = .ok (.goto 4, 3) := by decide +kernel
theorem dX3_isNear_66 : decode cX3_isNear 66 = .ok (.iconst 0, 1) := by decide +kernel
theorem dX3_isNear_67 : decode cX3_isNear 67 = .ok (.ireturn, 1) := by decide +kernel
set_option maxRecDepth 20000 in
theorem ggX3_search_X2_marked : GoodIn wsX3_search wsX2_marked := goodIn_r _ [9, 10, 11, 12, 13, 8, 14, 15, 16, 17, 18, 19, 20, 21, 22, 23, 69, 70] (by decide +kernel) (by decide +kernel)
set_option maxRecDepth 20000 in
theorem gX3_search_X2_marked : GoodIn wsX3_search (wsV RX3 59 RX2 yX2_marked wsX2_marked) := goodIn_app (goodIn_of _ (by decide +kernel)) ggX3_search_X2_marked
set_option maxRecDepth 20000 in
theorem ggX3_search_X3_tryTurn : GoodIn wsX3_search wsX3_tryTurn := goodIn_r _ [28, 4, 29, 30, 1, 2, 31, 32, 33, 27, 34, 3, 35, 36, 37, 38, 39, 12, 13, 8, 14, 15, 16, 17, 18, 19, 20, 21, 22, 23, 40, 41, 42, 43, 44, 45, 46, 47, 48, 49, 50, 51, 52, 53, 54, 55, 56, 57, 58, 59, 60, 61, 62, 63, 64, 65, 66, 67, 68, 69, 70] (by decide +kernel) (by decide +kernel)
set_option maxRecDepth 20000 in
theorem gX3_search_X3_tryTurn : GoodIn wsX3_search (wsV RX3 63 RX3 yX3_tryTurn wsX3_tryTurn) := goodIn_app (goodIn_of _ (by decide +kernel)) ggX3_search_X3_tryTurn
theorem dX3_search_0 : decode cX3_search 0 = .ok (.aload_n 0, 1) := by decide +kernel
theorem dX3_search_1 : decode cX3_search 1 = .ok (.iconst 0, 1) := by decide +kernel
theorem dX3_search_2 : decode cX3_search 2 = .ok (.putfield 50, 3) := by decide +kernel
theorem dX3_search_5 : decode cX3_search 5 = .ok (.aload_n 0, 1) := by decide +kernel
theorem dX3_search_6 : decode cX3_search 6 = .ok (.iconst 0, 1) := by decide +kernel
theorem dX3_search_7 : decode cX3_search 7 = .ok (.putfield 53, 3) := by decide +kernel
theorem dX3_search_10 : decode cX3_search 10 = .ok (.aload_n 0, 1) := by decide +kernel
theorem dX3_search_11 : decode cX3_search 11 = .ok (.iconst 0, 1) := by decide +kernel
theorem dX3_search_12 : decode cX3_search 12 = .ok (.putfield 56, 3) := by decide +kernel
theorem dX3_search_15 : decode cX3_search 15 = .ok (.aload_n 0, 1) := by decide +kernel
theorem dX3_search_16 : decode cX3_search 16 = .ok (.getfield 9, 3) := by decide +kernel
theorem dX3_search_19 : decode cX3_search 19 = .ok (.invokevirtual 59, 3) := by decide +kernel
theorem dX3_search_22 : decode cX3_search 22 = .ok (.istore_n 1, 1) := by decide +kernel
theorem dX3_search_23 : decode cX3_search 23 = .ok (.iload_n 1, 1) := by decide +kernel
theorem dX3_search_24 : decode cX3_search 24 = .ok (.ifCond .ne 5, 3) := by decide +kernel
theorem dX3_search_27 : decode cX3_search 27 = .ok (.iconst 0, 1) := by decide +kernel
theorem dX3_search_28 : decode cX3_search 28 = .ok (.ireturn, 1) := by decide +kernel
theorem dX3_search_29 : decode cX3_search 29 = .ok (.aload_n 0, 1) := by decide +kernel
theorem dX3_search_30 : decode cX3_search 30 = .ok (.iconst 0, 1) := by decide +kernel
theorem dX3_search_31 : decode cX3_search 31 = .ok (.invokevirtual 63, 3) := by decide +kernel
theorem dX3_search_34 : decode cX3_search 34 = .ok (.iconst 1, 1) := by decide +kernel
theorem dX3_search_35 : decode cX3_search 35 = .ok (.istore_n 2, 1) := by decide +kernel
theorem dX3_search_36 : decode cX3_search 36 = .ok (.iload_n 2, 1) := by decide +kernel
theorem dX3_search_37 : decode cX3_search 37 = .ok (.sipush 180, 3) := by decide +kernel
theorem dX3_search_40 : decode cX3_search 40 = .ok (.if_icmp .gt 35, 3) := by decide +kernel
theorem dX3_search_43 : decode cX3_search 43 = .ok (.aload_n 0, 1) := by decide +kernel
theorem dX3_search_44 : decode cX3_search 44 = .ok (.getfield 56, 3) := by decide +kernel
theorem dX3_search_47 : decode cX3_search 47 = .ok (.iload_n 1, 1) := by decide +kernel
theorem dX3_search_48 : decode cX3_search 48 = .ok (.if_icmp .eq 27, 3) := by decide +kernel
theorem dX3_search_51 : decode cX3_search 51 = .ok (.aload_n 0, 1) := by decide +kernel
theorem dX3_search_52 : decode cX3_search 52 = .ok (.iload_n 2, 1) := by decide +kernel
theorem dX3_search_53 : decode cX3_search 53 = .ok (.invokevirtual 63, 3) := by decide +kernel
theorem dX3_search_56 : decode cX3_search 56 = .ok (.iload_n 2, 1) := by decide +kernel
theorem dX3_search_57 : decode cX3_search 57 = .ok (.sipush 180, 3) := by decide +kernel
theorem dX3_search_60 : decode cX3_search 60 = .ok (.if_icmp .ge 9, 3) := by decide +kernel
theorem dX3_search_63 : decode cX3_search 63 = .ok (.aload_n 0, 1) := by decide +kernel
theorem dX3_search_64 : decode cX3_search 64 = .ok (.iload_n 2, 1) := by decide +kernel
theorem dX3_search_65 : decode cX3_search 65 = .ok (.ineg, 1) := by decide +kernel
theorem dX3_search_66 : decode cX3_search 66 = .ok (.invokevirtual 63, 3) := by decide +kernel
theorem dX3_search_69 : decode cX3_search 69 = .ok (.iinc 2 1, 3) := by decide +kernel
theorem dX3_search_72 : decode cX3_search 72 = .ok (.goto (-36), 3) := by decide +kernel
theorem dX3_search_75 : decode cX3_search 75 = .ok (.iconst 1, 1) := by decide +kernel
theorem dX3_search_76 : decode cX3_search 76 = .ok (.ireturn, 1) := by decide +kernel
set_option maxRecDepth 20000 in
theorem ggX3_tryTurn_X3_tryBeginning : GoodIn wsX3_tryTurn wsX3_tryBeginning := goodIn_r _ [10, 11, 4, 5, 12, 13, 14, 9, 15, 1, 2, 16, 17, 18, 19, 20, 21, 22, 23, 24, 25, 26, 27, 28, 29, 30, 31, 32, 33, 3, 34, 35, 36, 37, 38, 39, 40, 41, 42, 43, 44, 45, 46, 47, 48, 49, 50, 51, 52, 53, 54, 55, 56, 57, 58, 59, 60] (by decide +kernel) (by decide +kernel)
set_option maxRecDepth 20000 in
theorem gX3_tryTurn_X3_tryBeginning : GoodIn wsX3_tryTurn (wsV RX3 67 RX3 yX3_tryBeginning wsX3_tryBeginning) := goodIn_app (goodIn_of _ (by decide +kernel)) ggX3_tryTurn_X3_tryBeginning
set_option maxRecDepth 20000 in
theorem ggX3_tryTurn_X2_isMarked : GoodIn wsX3_tryTurn wsX2_isMarked := goodIn_r _ [20, 21, 22, 23, 19, 24, 25, 26, 27, 28, 29, 59, 60] (by decide +kernel) (by decide +kernel)
set_option maxRecDepth 20000 in
theorem gX3_tryTurn_X2_isMarked : GoodIn wsX3_tryTurn (wsV RX3 27 RX2 yX2_isMarked wsX2_isMarked) := goodIn_app (goodIn_of _ (by decide +kernel)) ggX3_tryTurn_X2_isMarked
set_option maxRecDepth 20000 in
theorem ggX3_tryTurn_X3_angleOf : GoodIn wsX3_tryTurn wsX3_angleOf := goodIn_r _ [43, 44, 45, 46, 47] (by decide +kernel) (by decide +kernel)
set_option maxRecDepth 20000 in
theorem gX3_tryTurn_X3_angleOf : GoodIn wsX3_tryTurn (va_wsS RX3 39 yX3_angleOf wsX3_angleOf) := goodIn_app (goodIn_of _ (by decide +kernel)) ggX3_tryTurn_X3_angleOf
theorem dX3_tryTurn_0 : decode cX3_tryTurn 0 = .ok (.aload_n 0, 1) := by decide +kernel
theorem dX3_tryTurn_1 : decode cX3_tryTurn 1 = .ok (.iload_n 1, 1) := by decide +kernel
theorem dX3_tryTurn_2 : decode cX3_tryTurn 2 = .ok (.iconst 0, 1) := by decide +kernel
theorem dX3_tryTurn_3 : decode cX3_tryTurn 3 = .ok (.iconst 0, 1) := by decide +kernel
theorem dX3_tryTurn_4 : decode cX3_tryTurn 4 = .ok (.invokevirtual 67, 3) := by decide +kernel
theorem dX3_tryTurn_7 : decode cX3_tryTurn 7 = .ok (.iconst 0, 1) := by decide +kernel
theorem dX3_tryTurn_8 : decode cX3_tryTurn 8 = .ok (.istore_n 2, 1) := by decide +kernel
theorem dX3_tryTurn_9 : decode cX3_tryTurn 9 = .ok (.iload_n 2, 1) := by decide +kernel
theorem dX3_tryTurn_10 : decode cX3_tryTurn 10 = .ok (.aload_n 0, 1) := by decide +kernel
theorem dX3_tryTurn_11 : decode cX3_tryTurn 11 = .ok (.getfield 9, 3) := by decide +kernel
theorem dX3_tryTurn_14 : decode cX3_tryTurn 14 = .ok (.getfield 21, 3) := by decide +kernel
theorem dX3_tryTurn_17 : decode cX3_tryTurn 17 = .ok (.if_icmp .ge 92, 3) := by decide +kernel
theorem dX3_tryTurn_20 : decode cX3_tryTurn 20 = .ok (.aload_n 0, 1) := by decide +kernel
theorem dX3_tryTurn_21 : decode cX3_tryTurn 21 = .ok (.getfield 9, 3) := by decide +kernel
theorem dX3_tryTurn_24 : decode cX3_tryTurn 24 = .ok (.iload_n 2, 1) := by decide +kernel
theorem dX3_tryTurn_25 : decode cX3_tryTurn 25 = .ok (.invokevirtual 27, 3) := by decide +kernel
theorem dX3_tryTurn_28 : decode cX3_tryTurn 28 = .ok (.ifCond .eq 75, 3) := by decide +kernel
theorem dX3_tryTurn_31 : decode cX3_tryTurn 31 = .ok (.aload_n 0, 1) := by decide +kernel
theorem dX3_tryTurn_32 : decode cX3_tryTurn 32 = .ok (.getfield 9, 3) := by decide +kernel
theorem dX3_tryTurn_35 : decode cX3_tryTurn 35 = .ok (.getfield 35, 3) := by decide +kernel
theorem dX3_tryTurn_38 : decode cX3_tryTurn 38 = .ok (.iconst 4, 1) := by decide +kernel
theorem dX3_tryTurn_39 : decode cX3_tryTurn 39 = .ok (.aaload, 1) := by decide +kernel
theorem dX3_tryTurn_40 : decode cX3_tryTurn 40 = .ok (.iload_n 2, 1) := by decide +kernel
theorem dX3_tryTurn_41 : decode cX3_tryTurn 41 = .ok (.iaload, 1) := by decide +kernel
theorem dX3_tryTurn_42 : decode cX3_tryTurn 42 = .ok (.aload_n 0, 1) := by decide +kernel
theorem dX3_tryTurn_43 : decode cX3_tryTurn 43 = .ok (.getfield 9, 3) := by decide +kernel
theorem dX3_tryTurn_46 : decode cX3_tryTurn 46 = .ok (.getfield 35, 3) := by decide +kernel
theorem dX3_tryTurn_49 : decode cX3_tryTurn 49 = .ok (.iconst 5, 1) := by decide +kernel
theorem dX3_tryTurn_50 : decode cX3_tryTurn 50 = .ok (.aaload, 1) := by decide +kernel
theorem dX3_tryTurn_51 : decode cX3_tryTurn 51 = .ok (.iload_n 2, 1) := by decide +kernel
theorem dX3_tryTurn_52 : decode cX3_tryTurn 52 = .ok (.iaload, 1) := by decide +kernel
theorem dX3_tryTurn_53 : decode cX3_tryTurn 53 = .ok (.isub, 1) := by decide +kernel
theorem dX3_tryTurn_54 : decode cX3_tryTurn 54 = .ok (.istore_n 3, 1) := by decide +kernel
theorem dX3_tryTurn_55 : decode cX3_tryTurn 55 = .ok (.iload_n 1, 1) := by decide +kernel
theorem dX3_tryTurn_56 : decode cX3_tryTurn 56 = .ok (.ineg, 1) := by decide +kernel
theorem dX3_tryTurn_57 : decode cX3_tryTurn 57 = .ok (.iload_n 3, 1) := by decide +kernel
theorem dX3_tryTurn_58 : decode cX3_tryTurn 58 = .ok (.aload_n 0, 1) := by decide +kernel
theorem dX3_tryTurn_59 : decode cX3_tryTurn 59 = .ok (.getfield 9, 3) := by decide +kernel
theorem dX3_tryTurn_62 : decode cX3_tryTurn 62 = .ok (.getfield 35, 3) := by decide +kernel
theorem dX3_tryTurn_65 : decode cX3_tryTurn 65 = .ok (.iconst 0, 1) := by decide +kernel
theorem dX3_tryTurn_66 : decode cX3_tryTurn 66 = .ok (.aaload, 1) := by decide +kernel
theorem dX3_tryTurn_67 : decode cX3_tryTurn 67 = .ok (.iload_n 2, 1) := by decide +kernel
theorem dX3_tryTurn_68 : decode cX3_tryTurn 68 = .ok (.iaload, 1) := by decide +kernel
theorem dX3_tryTurn_69 : decode cX3_tryTurn 69 = .ok (.invokestatic 39, 3) := by decide +kernel
theorem dX3_tryTurn_72 : decode cX3_tryTurn 72 = .ok (.istore 4, 2) := by decide +kernel
theorem dX3_tryTurn_74 : decode cX3_tryTurn 74 = .ok (.aload_n 0, 1) := by decide +kernel
theorem dX3_tryTurn_75 : decode cX3_tryTurn 75 = .ok (.iload_n 1, 1) := by decide +kernel
theorem dX3_tryTurn_76 : decode cX3_tryTurn 76 = .ok (.iload 4, 2) := by decide +kernel
theorem dX3_tryTurn_78 : decode cX3_tryTurn 78 = .ok (.iload_n 1, 1) := by decide +kernel
theorem dX3_tryTurn_79 : decode cX3_tryTurn 79 = .ok (.aload_n 0, 1) := by decide +kernel
theorem dX3_tryTurn_80 : decode cX3_tryTurn 80 = .ok (.getfield 50, 3) := by decide +kernel
theorem dX3_tryTurn_83 : decode cX3_tryTurn 83 = .ok (.if_icmp .ne 16, 3) := by decide +kernel
theorem dX3_tryTurn_86 : decode cX3_tryTurn 86 = .ok (.iload 4, 2) := by decide +kernel
theorem dX3_tryTurn_88 : decode cX3_tryTurn 88 = .ok (.aload_n 0, 1) := by decide +kernel
theorem dX3_tryTurn_89 : decode cX3_tryTurn 89 = .ok (.getfield 53, 3) := by decide +kernel
theorem dX3_tryTurn_92 : decode cX3_tryTurn 92 = .ok (.if_icmp .ge 7, 3) := by decide +kernel
theorem dX3_tryTurn_95 : decode cX3_tryTurn 95 = .ok (.iconst 1, 1) := by decide +kernel
theorem dX3_tryTurn_96 : decode cX3_tryTurn 96 = .ok (.goto 4, 3) := by decide +kernel
theorem dX3_tryTurn_99 : decode cX3_tryTurn 99 = .ok (.iconst 0, 1) := by decide +kernel
theorem dX3_tryTurn_100 : decode cX3_tryTurn 100 = .ok (.invokevirtual 67, 3) := by decide +kernel
theorem dX3_tryTurn_103 : decode cX3_tryTurn 103 = .ok (.iinc 2 1, 3) := by decide +kernel
theorem dX3_tryTurn_106 : decode cX3_tryTurn 106 = .ok (.goto (-97), 3) := by decide +kernel
theorem dX3_tryTurn_109 : decode cX3_tryTurn 109 = .ok (.return_, 1) := by decide +kernel
set_option maxRecDepth 20000 in
theorem ggX3_tryBeginning_X3_fittedBy : GoodIn wsX3_tryBeginning wsX3_fittedBy := goodIn_r _ [8, 9, 10, 11, 12, 13, 14, 15, 16, 17, 18, 19, 20, 21, 22, 23, 24, 25, 26, 27, 7, 28, 29, 30, 31, 32, 33, 34, 35, 36, 37, 38, 39, 40, 41, 42, 43, 51, 52, 53, 54, 55, 56] (by decide +kernel) (by decide +kernel)
set_option maxRecDepth 20000 in
theorem gX3_tryBeginning_X3_fittedBy : GoodIn wsX3_tryBeginning (wsV RX3 71 RX3 yX3_fittedBy wsX3_fittedBy) := goodIn_app (goodIn_of _ (by decide +kernel)) ggX3_tryBeginning_X3_fittedBy
set_option maxRecDepth 20000 in
theorem ggX3_tryBeginning_J6_bitCount_0f7a4 : GoodIn wsX3_tryBeginning wsJ6_bitCount_0f7a4 := goodIn_r _ [47, 48, 49, 50] (by decide +kernel) (by decide +kernel)
set_option maxRecDepth 20000 in
theorem gX3_tryBeginning_J6_bitCount_0f7a4 : GoodIn wsX3_tryBeginning (va_wsS RX3 74 yJ6_bitCount_0f7a4 wsJ6_bitCount_0f7a4) := goodIn_app (goodIn_of _ (by decide +kernel)) ggX3_tryBeginning_J6_bitCount_0f7a4
