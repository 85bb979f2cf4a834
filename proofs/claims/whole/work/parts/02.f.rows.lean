theorem dX7_photo_0 : decode cX7_photo 0 = .ok (.aload_n 0, 1) := by decide +kernel
theorem dX7_photo_1 : decode cX7_photo 1 = .ok (.iload_n 1, 1) := by decide +kernel
theorem dX7_photo_2 : decode cX7_photo 2 = .ok (.invokevirtual 143, 3) := by decide +kernel
theorem dX7_photo_5 : decode cX7_photo 5 = .ok (.ifCond .eq 5, 3) := by decide +kernel
theorem dX7_photo_8 : decode cX7_photo 8 = .ok (.iconst (-1), 1) := by decide +kernel
theorem dX7_photo_9 : decode cX7_photo 9 = .ok (.ireturn, 1) := by decide +kernel
theorem dX7_photo_10 : decode cX7_photo 10 = .ok (.aload_n 0, 1) := by decide +kernel
theorem dX7_photo_11 : decode cX7_photo 11 = .ok (.iload_n 1, 1) := by decide +kernel
theorem dX7_photo_12 : decode cX7_photo 12 = .ok (.iconst 4, 1) := by decide +kernel
theorem dX7_photo_13 : decode cX7_photo 13 = .ok (.invokevirtual 42, 3) := by decide +kernel
theorem dX7_photo_16 : decode cX7_photo 16 = .ok (.sipush 360, 3) := by decide +kernel
theorem dX7_photo_19 : decode cX7_photo 19 = .ok (.if_icmp .ne 7, 3) := by decide +kernel
theorem dX7_photo_22 : decode cX7_photo 22 = .ok (.iconst 1, 1) := by decide +kernel
theorem dX7_photo_23 : decode cX7_photo 23 = .ok (.goto 4, 3) := by decide +kernel
theorem dX7_photo_26 : decode cX7_photo 26 = .ok (.iconst 0, 1) := by decide +kernel
theorem dX7_photo_27 : decode cX7_photo 27 = .ok (.istore_n 3, 1) := by decide +kernel
theorem dX7_photo_28 : decode cX7_photo 28 = .ok (.iload_n 2, 1) := by decide +kernel
theorem dX7_photo_29 : decode cX7_photo 29 = .ok (.tableswitch 110 0 7 #[47, 54, 54, 47, 65, 65, 47, 81], 47) := by decide +kernel
theorem dX7_photo_76 : decode cX7_photo 76 = .ok (.aload_n 0, 1) := by decide +kernel
theorem dX7_photo_77 : decode cX7_photo 77 = .ok (.iload_n 1, 1) := by decide +kernel
theorem dX7_photo_78 : decode cX7_photo 78 = .ok (.iload_n 2, 1) := by decide +kernel
theorem dX7_photo_79 : decode cX7_photo 79 = .ok (.invokevirtual 42, 3) := by decide +kernel
theorem dX7_photo_82 : decode cX7_photo 82 = .ok (.ireturn, 1) := by decide +kernel
theorem dX7_photo_83 : decode cX7_photo 83 = .ok (.aload_n 0, 1) := by decide +kernel
theorem dX7_photo_84 : decode cX7_photo 84 = .ok (.iload_n 1, 1) := by decide +kernel
theorem dX7_photo_85 : decode cX7_photo 85 = .ok (.iload_n 2, 1) := by decide +kernel
theorem dX7_photo_86 : decode cX7_photo 86 = .ok (.invokevirtual 42, 3) := by decide +kernel
theorem dX7_photo_89 : decode cX7_photo 89 = .ok (.sipush 1000, 3) := by decide +kernel
theorem dX7_photo_92 : decode cX7_photo 92 = .ok (.iadd, 1) := by decide +kernel
theorem dX7_photo_93 : decode cX7_photo 93 = .ok (.ireturn, 1) := by decide +kernel
theorem dX7_photo_94 : decode cX7_photo 94 = .ok (.iload_n 3, 1) := by decide +kernel
theorem dX7_photo_95 : decode cX7_photo 95 = .ok (.ifCond .eq 8, 3) := by decide +kernel
theorem dX7_photo_98 : decode cX7_photo 98 = .ok (.bipush (-5), 2) := by decide +kernel
theorem dX7_photo_100 : decode cX7_photo 100 = .ok (.goto 9, 3) := by decide +kernel
theorem dX7_photo_103 : decode cX7_photo 103 = .ok (.aload_n 0, 1) := by decide +kernel
theorem dX7_photo_104 : decode cX7_photo 104 = .ok (.iload_n 1, 1) := by decide +kernel
theorem dX7_photo_105 : decode cX7_photo 105 = .ok (.iload_n 2, 1) := by decide +kernel
theorem dX7_photo_106 : decode cX7_photo 106 = .ok (.invokevirtual 42, 3) := by decide +kernel
theorem dX7_photo_109 : decode cX7_photo 109 = .ok (.ireturn, 1) := by decide +kernel
theorem dX7_photo_110 : decode cX7_photo 110 = .ok (.aload_n 0, 1) := by decide +kernel
theorem dX7_photo_111 : decode cX7_photo 111 = .ok (.iload_n 1, 1) := by decide +kernel
theorem dX7_photo_112 : decode cX7_photo 112 = .ok (.invokevirtual 112, 3) := by decide +kernel
theorem dX7_photo_115 : decode cX7_photo 115 = .ok (.ifCond .eq 21, 3) := by decide +kernel
theorem dX7_photo_118 : decode cX7_photo 118 = .ok (.aload_n 0, 1) := by decide +kernel
theorem dX7_photo_119 : decode cX7_photo 119 = .ok (.invokevirtual 178, 3) := by decide +kernel
theorem dX7_photo_122 : decode cX7_photo 122 = .ok (.ifCond .eq 14, 3) := by decide +kernel
theorem dX7_photo_125 : decode cX7_photo 125 = .ok (.aload_n 0, 1) := by decide +kernel
theorem dX7_photo_126 : decode cX7_photo 126 = .ok (.getfield 127, 3) := by decide +kernel
theorem dX7_photo_129 : decode cX7_photo 129 = .ok (.iload_n 1, 1) := by decide +kernel
theorem dX7_photo_130 : decode cX7_photo 130 = .ok (.ishr, 1) := by decide +kernel
theorem dX7_photo_131 : decode cX7_photo 131 = .ok (.iconst 1, 1) := by decide +kernel
theorem dX7_photo_132 : decode cX7_photo 132 = .ok (.iand, 1) := by decide +kernel
theorem dX7_photo_133 : decode cX7_photo 133 = .ok (.goto 5, 3) := by decide +kernel
theorem dX7_photo_136 : decode cX7_photo 136 = .ok (.bipush (-5), 2) := by decide +kernel
theorem dX7_photo_138 : decode cX7_photo 138 = .ok (.ireturn, 1) := by decide +kernel
theorem dX7_photo_139 : decode cX7_photo 139 = .ok (.bipush (-2), 2) := by decide +kernel
theorem dX7_photo_141 : decode cX7_photo 141 = .ok (.ireturn, 1) := by decide +kernel
theorem dX7_areThree_0 : decode cX7_areThree 0 = .ok (.iload_n 1, 1) := by decide +kernel
theorem dX7_areThree_1 : decode cX7_areThree 1 = .ok (.iload_n 2, 1) := by decide +kernel
theorem dX7_areThree_2 : decode cX7_areThree 2 = .ok (.if_icmp .eq 17, 3) := by decide +kernel
theorem dX7_areThree_5 : decode cX7_areThree 5 = .ok (.iload_n 1, 1) := by decide +kernel
theorem dX7_areThree_6 : decode cX7_areThree 6 = .ok (.iload_n 3, 1) := by decide +kernel
theorem dX7_areThree_7 : decode cX7_areThree 7 = .ok (.if_icmp .eq 12, 3) := by decide +kernel
theorem dX7_areThree_10 : decode cX7_areThree 10 = .ok (.iload_n 2, 1) := by decide +kernel
theorem dX7_areThree_11 : decode cX7_areThree 11 = .ok (.iload_n 3, 1) := by decide +kernel
theorem dX7_areThree_12 : decode cX7_areThree 12 = .ok (.if_icmp .eq 7, 3) := by decide +kernel
theorem dX7_areThree_15 : decode cX7_areThree 15 = .ok (.iconst 1, 1) := by decide +kernel
theorem dX7_areThree_16 : decode cX7_areThree 16 = .ok (.goto 4, 3) := by decide +kernel
theorem dX7_areThree_19 : decode cX7_areThree 19 = .ok (.iconst 0, 1) := by decide +kernel
theorem dX7_areThree_20 : decode cX7_areThree 20 = .ok (.ireturn, 1) := by decide +kernel
set_option maxRecDepth 20000 in
theorem ggX7_areUsable_X7_isUsable : GoodIn wsX7_areUsable wsX7_isUsable := goodIn_r _ [5, 6, 7, 8, 4, 9, 10, 11, 12, 13, 14, 15, 16, 17, 18, 19, 20, 21, 22, 23, 24, 25, 26, 27, 28, 29] (by decide +kernel) (by decide +kernel)
set_option maxRecDepth 20000 in
theorem gX7_areUsable_X7_isUsable : GoodIn wsX7_areUsable (wsV RX7 46 RX7 yX7_isUsable wsX7_isUsable) := goodIn_app (goodIn_of _ (by decide +kernel)) ggX7_areUsable_X7_isUsable
theorem dX7_areUsable_0 : decode cX7_areUsable 0 = .ok (.aload_n 0, 1) := by decide +kernel
theorem dX7_areUsable_1 : decode cX7_areUsable 1 = .ok (.iload_n 1, 1) := by decide +kernel
theorem dX7_areUsable_2 : decode cX7_areUsable 2 = .ok (.invokevirtual 46, 3) := by decide +kernel
theorem dX7_areUsable_5 : decode cX7_areUsable 5 = .ok (.ifCond .eq 23, 3) := by decide +kernel
theorem dX7_areUsable_8 : decode cX7_areUsable 8 = .ok (.aload_n 0, 1) := by decide +kernel
theorem dX7_areUsable_9 : decode cX7_areUsable 9 = .ok (.iload_n 2, 1) := by decide +kernel
theorem dX7_areUsable_10 : decode cX7_areUsable 10 = .ok (.invokevirtual 46, 3) := by decide +kernel
theorem dX7_areUsable_13 : decode cX7_areUsable 13 = .ok (.ifCond .eq 15, 3) := by decide +kernel
theorem dX7_areUsable_16 : decode cX7_areUsable 16 = .ok (.aload_n 0, 1) := by decide +kernel
theorem dX7_areUsable_17 : decode cX7_areUsable 17 = .ok (.iload_n 3, 1) := by decide +kernel
theorem dX7_areUsable_18 : decode cX7_areUsable 18 = .ok (.invokevirtual 46, 3) := by decide +kernel
theorem dX7_areUsable_21 : decode cX7_areUsable 21 = .ok (.ifCond .eq 7, 3) := by decide +kernel
theorem dX7_areUsable_24 : decode cX7_areUsable 24 = .ok (.iconst 1, 1) := by decide +kernel
theorem dX7_areUsable_25 : decode cX7_areUsable 25 = .ok (.goto 4, 3) := by decide +kernel
theorem dX7_areUsable_28 : decode cX7_areUsable 28 = .ok (.iconst 0, 1) := by decide +kernel
theorem dX7_areUsable_29 : decode cX7_areUsable 29 = .ok (.ireturn, 1) := by decide +kernel
set_option maxRecDepth 20000 in
theorem ggX7_isAsked_X7_in : GoodIn wsX7_isAsked wsX7_in := goodIn_r _ [4] (by decide +kernel) (by decide +kernel)
set_option maxRecDepth 20000 in
theorem gX7_isAsked_X7_in : GoodIn wsX7_isAsked (va_wsS RX7 38 yX7_in wsX7_in) := goodIn_app (goodIn_of _ (by decide +kernel)) ggX7_isAsked_X7_in
theorem dX7_isAsked_0 : decode cX7_isAsked 0 = .ok (.iload_n 0, 1) := by decide +kernel
theorem dX7_isAsked_1 : decode cX7_isAsked 1 = .ok (.iconst 0, 1) := by decide +kernel
theorem dX7_isAsked_2 : decode cX7_isAsked 2 = .ok (.bipush 99, 2) := by decide +kernel
theorem dX7_isAsked_4 : decode cX7_isAsked 4 = .ok (.invokestatic 38, 3) := by decide +kernel
theorem dX7_isAsked_7 : decode cX7_isAsked 7 = .ok (.ifCond .eq 25, 3) := by decide +kernel
theorem dX7_isAsked_10 : decode cX7_isAsked 10 = .ok (.iload_n 1, 1) := by decide +kernel
theorem dX7_isAsked_11 : decode cX7_isAsked 11 = .ok (.iconst 0, 1) := by decide +kernel
theorem dX7_isAsked_12 : decode cX7_isAsked 12 = .ok (.iconst 1, 1) := by decide +kernel
theorem dX7_isAsked_13 : decode cX7_isAsked 13 = .ok (.invokestatic 38, 3) := by decide +kernel
theorem dX7_isAsked_16 : decode cX7_isAsked 16 = .ok (.ifCond .eq 16, 3) := by decide +kernel
theorem dX7_isAsked_19 : decode cX7_isAsked 19 = .ok (.iload_n 2, 1) := by decide +kernel
theorem dX7_isAsked_20 : decode cX7_isAsked 20 = .ok (.iconst 0, 1) := by decide +kernel
theorem dX7_isAsked_21 : decode cX7_isAsked 21 = .ok (.iconst 1, 1) := by decide +kernel
theorem dX7_isAsked_22 : decode cX7_isAsked 22 = .ok (.invokestatic 38, 3) := by decide +kernel
theorem dX7_isAsked_25 : decode cX7_isAsked 25 = .ok (.ifCond .eq 7, 3) := by decide +kernel
theorem dX7_isAsked_28 : decode cX7_isAsked 28 = .ok (.iconst 1, 1) := by decide +kernel
theorem dX7_isAsked_29 : decode cX7_isAsked 29 = .ok (.goto 4, 3) := by decide +kernel
theorem dX7_isAsked_32 : decode cX7_isAsked 32 = .ok (.iconst 0, 1) := by decide +kernel
theorem dX7_isAsked_33 : decode cX7_isAsked 33 = .ok (.ireturn, 1) := by decide +kernel
set_option maxRecDepth 20000 in
theorem ggX7_arc_X7_no : GoodIn wsX7_arc wsX7_no := goodIn_r _ [8, 9, 10, 11, 7, 12, 47, 48, 49, 50, 51, 52, 53, 54, 55, 56, 57, 58, 59, 60, 61, 62, 63, 64, 65] (by decide +kernel) (by decide +kernel)
set_option maxRecDepth 20000 in
theorem gX7_arc_X7_no : GoodIn wsX7_arc (wsV RX7 143 RX7 yX7_no wsX7_no) := goodIn_app (goodIn_of _ (by decide +kernel)) ggX7_arc_X7_no
set_option maxRecDepth 20000 in
theorem ggX7_arc_X7_isAsked : GoodIn wsX7_arc wsX7_isAsked := goodIn_r _ [15, 10, 11, 7, 12] (by decide +kernel) (by decide +kernel)
set_option maxRecDepth 20000 in
theorem gX7_arc_X7_isAsked : GoodIn wsX7_arc (va_wsS RX7 181 yX7_isAsked wsX7_isAsked) := goodIn_app (goodIn_of _ (by decide +kernel)) ggX7_arc_X7_isAsked
set_option maxRecDepth 20000 in
theorem ggX7_arc_X7_areThree : GoodIn wsX7_arc wsX7_areThree := goodIn_r _ [19] (by decide +kernel) (by decide +kernel)
set_option maxRecDepth 20000 in
theorem gX7_arc_X7_areThree : GoodIn wsX7_arc (wsV RX7 184 RX7 yX7_areThree wsX7_areThree) := goodIn_app (goodIn_of _ (by decide +kernel)) ggX7_arc_X7_areThree
set_option maxRecDepth 20000 in
theorem ggX7_arc_X7_areUsable : GoodIn wsX7_arc wsX7_areUsable := goodIn_r _ [23, 24, 25, 26, 7, 27, 28, 29, 30, 31, 9, 47, 48, 49, 50, 51, 52, 53, 54, 55, 56, 57, 58, 59, 60, 61, 62, 63, 64, 65] (by decide +kernel) (by decide +kernel)
set_option maxRecDepth 20000 in
theorem gX7_arc_X7_areUsable : GoodIn wsX7_arc (wsV RX7 189 RX7 yX7_areUsable wsX7_areUsable) := goodIn_app (goodIn_of _ (by decide +kernel)) ggX7_arc_X7_areUsable
set_option maxRecDepth 20000 in
theorem ggX7_arc_X7_upper : GoodIn wsX7_arc wsX7_upper := goodIn_r _ [35, 28, 29, 30, 7, 31, 9, 47, 48, 49, 50, 51, 52, 53, 54, 55, 56, 57, 58, 59, 60, 61, 62, 63, 64, 65] (by decide +kernel) (by decide +kernel)
set_option maxRecDepth 20000 in
theorem gX7_arc_X7_upper : GoodIn wsX7_arc (wsV RX7 58 RX7 yX7_upper wsX7_upper) := goodIn_app (goodIn_of _ (by decide +kernel)) ggX7_arc_X7_upper
set_option maxRecDepth 20000 in
theorem ggX7_arc_X7_lower : GoodIn wsX7_arc wsX7_lower := goodIn_r _ [39, 28, 29, 30, 7, 31, 9, 47, 48, 49, 50, 51, 52, 53, 54, 55, 56, 57, 58, 59, 60, 61, 62, 63, 64, 65] (by decide +kernel) (by decide +kernel)
set_option maxRecDepth 20000 in
theorem gX7_arc_X7_lower : GoodIn wsX7_arc (wsV RX7 54 RX7 yX7_lower wsX7_lower) := goodIn_app (goodIn_of _ (by decide +kernel)) ggX7_arc_X7_lower
set_option maxRecDepth 20000 in
theorem ggX7_arc_X7_part : GoodIn wsX7_arc wsX7_part := goodIn_r _ [42, 1, 43, 44, 45, 7, 46] (by decide +kernel) (by decide +kernel)
set_option maxRecDepth 20000 in
theorem gX7_arc_X7_part : GoodIn wsX7_arc (va_wsS RX7 192 yX7_part wsX7_part) := goodIn_app (goodIn_of _ (by decide +kernel)) ggX7_arc_X7_part
theorem dX7_arc_0 : decode cX7_arc 0 = .ok (.aload_n 0, 1) := by decide +kernel
theorem dX7_arc_1 : decode cX7_arc 1 = .ok (.iload_n 1, 1) := by decide +kernel
theorem dX7_arc_2 : decode cX7_arc 2 = .ok (.invokevirtual 143, 3) := by decide +kernel
theorem dX7_arc_5 : decode cX7_arc 5 = .ok (.ifCond .ne 19, 3) := by decide +kernel
theorem dX7_arc_8 : decode cX7_arc 8 = .ok (.aload_n 0, 1) := by decide +kernel
theorem dX7_arc_9 : decode cX7_arc 9 = .ok (.iload_n 2, 1) := by decide +kernel
theorem dX7_arc_10 : decode cX7_arc 10 = .ok (.invokevirtual 143, 3) := by decide +kernel
theorem dX7_arc_13 : decode cX7_arc 13 = .ok (.ifCond .ne 11, 3) := by decide +kernel
theorem dX7_arc_16 : decode cX7_arc 16 = .ok (.aload_n 0, 1) := by decide +kernel
theorem dX7_arc_17 : decode cX7_arc 17 = .ok (.iload_n 3, 1) := by decide +kernel
theorem dX7_arc_18 : decode cX7_arc 18 = .ok (.invokevirtual 143, 3) := by decide +kernel
theorem dX7_arc_21 : decode cX7_arc 21 = .ok (.ifCond .eq 7, 3) := by decide +kernel
theorem dX7_arc_24 : decode cX7_arc 24 = .ok (.ldc2_w 70, 3) := by decide +kernel
theorem dX7_arc_27 : decode cX7_arc 27 = .ok (.lreturn, 1) := by decide +kernel
theorem dX7_arc_28 : decode cX7_arc 28 = .ok (.iload 4, 2) := by decide +kernel
theorem dX7_arc_30 : decode cX7_arc 30 = .ok (.iload 5, 2) := by decide +kernel
theorem dX7_arc_32 : decode cX7_arc 32 = .ok (.iload 6, 2) := by decide +kernel
theorem dX7_arc_34 : decode cX7_arc 34 = .ok (.invokestatic 181, 3) := by decide +kernel
theorem dX7_arc_37 : decode cX7_arc 37 = .ok (.ifCond .eq 13, 3) := by decide +kernel
theorem dX7_arc_40 : decode cX7_arc 40 = .ok (.aload_n 0, 1) := by decide +kernel
theorem dX7_arc_41 : decode cX7_arc 41 = .ok (.iload_n 1, 1) := by decide +kernel
theorem dX7_arc_42 : decode cX7_arc 42 = .ok (.iload_n 2, 1) := by decide +kernel
theorem dX7_arc_43 : decode cX7_arc 43 = .ok (.iload_n 3, 1) := by decide +kernel
theorem dX7_arc_44 : decode cX7_arc 44 = .ok (.invokevirtual 184, 3) := by decide +kernel
theorem dX7_arc_47 : decode cX7_arc 47 = .ok (.ifCond .ne 7, 3) := by decide +kernel
theorem dX7_arc_50 : decode cX7_arc 50 = .ok (.ldc2_w 187, 3) := by decide +kernel
theorem dX7_arc_53 : decode cX7_arc 53 = .ok (.lreturn, 1) := by decide +kernel
theorem dX7_arc_54 : decode cX7_arc 54 = .ok (.aload_n 0, 1) := by decide +kernel
theorem dX7_arc_55 : decode cX7_arc 55 = .ok (.iload_n 1, 1) := by decide +kernel
theorem dX7_arc_56 : decode cX7_arc 56 = .ok (.iload_n 2, 1) := by decide +kernel
theorem dX7_arc_57 : decode cX7_arc 57 = .ok (.iload_n 3, 1) := by decide +kernel
theorem dX7_arc_58 : decode cX7_arc 58 = .ok (.invokevirtual 189, 3) := by decide +kernel
theorem dX7_arc_61 : decode cX7_arc 61 = .ok (.ifCond .eq 29, 3) := by decide +kernel
theorem dX7_arc_64 : decode cX7_arc 64 = .ok (.aload_n 0, 1) := by decide +kernel
theorem dX7_arc_65 : decode cX7_arc 65 = .ok (.iload_n 1, 1) := by decide +kernel
theorem dX7_arc_66 : decode cX7_arc 66 = .ok (.iload_n 2, 1) := by decide +kernel
theorem dX7_arc_67 : decode cX7_arc 67 = .ok (.iload_n 3, 1) := by decide +kernel
theorem dX7_arc_68 : decode cX7_arc 68 = .ok (.iload 4, 2) := by decide +kernel
theorem dX7_arc_70 : decode cX7_arc 70 = .ok (.iload 5, 2) := by decide +kernel
theorem dX7_arc_72 : decode cX7_arc 72 = .ok (.invokevirtual 58, 3) := by decide +kernel
theorem dX7_arc_75 : decode cX7_arc 75 = .ok (.aload_n 0, 1) := by decide +kernel
theorem dX7_arc_76 : decode cX7_arc 76 = .ok (.iload_n 1, 1) := by decide +kernel
theorem dX7_arc_77 : decode cX7_arc 77 = .ok (.iload_n 2, 1) := by decide +kernel
theorem dX7_arc_78 : decode cX7_arc 78 = .ok (.iload_n 3, 1) := by decide +kernel
theorem dX7_arc_79 : decode cX7_arc 79 = .ok (.invokevirtual 54, 3) := by decide +kernel
theorem dX7_arc_82 : decode cX7_arc 82 = .ok (.iload 6, 2) := by decide +kernel
theorem dX7_arc_84 : decode cX7_arc 84 = .ok (.invokestatic 192, 3) := by decide +kernel
theorem dX7_arc_87 : decode cX7_arc 87 = .ok (.goto 6, 3) := by decide +kernel
theorem dX7_arc_90 : decode cX7_arc 90 = .ok (.ldc2_w 196, 3) := by decide +kernel
theorem dX7_arc_93 : decode cX7_arc 93 = .ok (.lreturn, 1) := by decide +kernel
set_option maxRecDepth 20000 in
theorem ggX7_hits_X7_no : GoodIn wsX7_hits wsX7_no := goodIn_r _ [5, 6, 7, 8, 4, 9, 45, 46, 47, 48, 49, 50, 51, 52, 53, 54, 55, 56, 57, 58, 59, 60, 61, 62, 63] (by decide +kernel) (by decide +kernel)
set_option maxRecDepth 20000 in
theorem gX7_hits_X7_no : GoodIn wsX7_hits (wsV RX7 143 RX7 yX7_no wsX7_no) := goodIn_app (goodIn_of _ (by decide +kernel)) ggX7_hits_X7_no
set_option maxRecDepth 20000 in
theorem ggX7_hits_X7_areThree : GoodIn wsX7_hits wsX7_areThree := goodIn_r _ [13] (by decide +kernel) (by decide +kernel)
set_option maxRecDepth 20000 in
theorem gX7_hits_X7_areThree : GoodIn wsX7_hits (wsV RX7 184 RX7 yX7_areThree wsX7_areThree) := goodIn_app (goodIn_of _ (by decide +kernel)) ggX7_hits_X7_areThree
set_option maxRecDepth 20000 in
theorem ggX7_hits_X7_areUsable : GoodIn wsX7_hits wsX7_areUsable := goodIn_r _ [17, 18, 19, 20, 4, 21, 22, 23, 24, 25, 6, 45, 46, 47, 48, 49, 50, 51, 52, 53, 54, 55, 56, 57, 58, 59, 60, 61, 62, 63] (by decide +kernel) (by decide +kernel)
set_option maxRecDepth 20000 in
theorem gX7_hits_X7_areUsable : GoodIn wsX7_hits (wsV RX7 189 RX7 yX7_areUsable wsX7_areUsable) := goodIn_app (goodIn_of _ (by decide +kernel)) ggX7_hits_X7_areUsable
set_option maxRecDepth 20000 in
theorem ggX7_hits_X7_hitBy : GoodIn wsX7_hits wsX7_hitBy := goodIn_r _ [29, 6, 18, 19, 20, 4, 21, 22, 23, 24, 25, 30, 31, 32, 33, 34, 35, 36, 37, 38, 39, 40, 41, 42, 43, 44, 45, 46, 47, 48, 49, 50, 51, 52, 53, 54, 55, 56, 57, 58, 59, 60, 61, 62, 63] (by decide +kernel) (by decide +kernel)
set_option maxRecDepth 20000 in
theorem gX7_hits_X7_hitBy : GoodIn wsX7_hits (wsV RX7 74 RX7 yX7_hitBy wsX7_hitBy) := goodIn_app (goodIn_of _ (by decide +kernel)) ggX7_hits_X7_hitBy
theorem dX7_hits_0 : decode cX7_hits 0 = .ok (.aload_n 0, 1) := by decide +kernel
theorem dX7_hits_1 : decode cX7_hits 1 = .ok (.iload_n 1, 1) := by decide +kernel
theorem dX7_hits_2 : decode cX7_hits 2 = .ok (.invokevirtual 143, 3) := by decide +kernel
theorem dX7_hits_5 : decode cX7_hits 5 = .ok (.ifCond .ne 19, 3) := by decide +kernel
theorem dX7_hits_8 : decode cX7_hits 8 = .ok (.aload_n 0, 1) := by decide +kernel
theorem dX7_hits_9 : decode cX7_hits 9 = .ok (.iload_n 2, 1) := by decide +kernel
theorem dX7_hits_10 : decode cX7_hits 10 = .ok (.invokevirtual 143, 3) := by decide +kernel
theorem dX7_hits_13 : decode cX7_hits 13 = .ok (.ifCond .ne 11, 3) := by decide +kernel
theorem dX7_hits_16 : decode cX7_hits 16 = .ok (.aload_n 0, 1) := by decide +kernel
theorem dX7_hits_17 : decode cX7_hits 17 = .ok (.iload_n 3, 1) := by decide +kernel
theorem dX7_hits_18 : decode cX7_hits 18 = .ok (.invokevirtual 143, 3) := by decide +kernel
theorem dX7_hits_21 : decode cX7_hits 21 = .ok (.ifCond .eq 5, 3) := by decide +kernel
theorem dX7_hits_24 : decode cX7_hits 24 = .ok (.iconst (-1), 1) := by decide +kernel
theorem dX7_hits_25 : decode cX7_hits 25 = .ok (.ireturn, 1) := by decide +kernel
theorem dX7_hits_26 : decode cX7_hits 26 = .ok (.aload_n 0, 1) := by decide +kernel
theorem dX7_hits_27 : decode cX7_hits 27 = .ok (.iload_n 1, 1) := by decide +kernel
theorem dX7_hits_28 : decode cX7_hits 28 = .ok (.iload_n 2, 1) := by decide +kernel
theorem dX7_hits_29 : decode cX7_hits 29 = .ok (.iload_n 3, 1) := by decide +kernel
theorem dX7_hits_30 : decode cX7_hits 30 = .ok (.invokevirtual 184, 3) := by decide +kernel
theorem dX7_hits_33 : decode cX7_hits 33 = .ok (.ifCond .ne 6, 3) := by decide +kernel
theorem dX7_hits_36 : decode cX7_hits 36 = .ok (.bipush (-2), 2) := by decide +kernel
theorem dX7_hits_38 : decode cX7_hits 38 = .ok (.ireturn, 1) := by decide +kernel
theorem dX7_hits_39 : decode cX7_hits 39 = .ok (.aload_n 0, 1) := by decide +kernel
theorem dX7_hits_40 : decode cX7_hits 40 = .ok (.iload_n 1, 1) := by decide +kernel
theorem dX7_hits_41 : decode cX7_hits 41 = .ok (.iload_n 2, 1) := by decide +kernel
theorem dX7_hits_42 : decode cX7_hits 42 = .ok (.iload_n 3, 1) := by decide +kernel
theorem dX7_hits_43 : decode cX7_hits 43 = .ok (.invokevirtual 189, 3) := by decide +kernel
theorem dX7_hits_46 : decode cX7_hits 46 = .ok (.ifCond .eq 13, 3) := by decide +kernel
theorem dX7_hits_49 : decode cX7_hits 49 = .ok (.aload_n 0, 1) := by decide +kernel
theorem dX7_hits_50 : decode cX7_hits 50 = .ok (.iload_n 1, 1) := by decide +kernel
theorem dX7_hits_51 : decode cX7_hits 51 = .ok (.iload_n 2, 1) := by decide +kernel
theorem dX7_hits_52 : decode cX7_hits 52 = .ok (.iload_n 3, 1) := by decide +kernel
theorem dX7_hits_53 : decode cX7_hits 53 = .ok (.invokevirtual 74, 3) := by decide +kernel
theorem dX7_hits_56 : decode cX7_hits 56 = .ok (.goto 5, 3) := by decide +kernel
theorem dX7_hits_59 : decode cX7_hits 59 = .ok (.bipush (-4), 2) := by decide +kernel
theorem dX7_hits_61 : decode cX7_hits 61 = .ok (.ireturn, 1) := by decide +kernel
set_option maxRecDepth 20000 in
theorem ggX7_best_X7_in : GoodIn wsX7_best wsX7_in := goodIn_r _ [5] (by decide +kernel) (by decide +kernel)
set_option maxRecDepth 20000 in
theorem gX7_best_X7_in : GoodIn wsX7_best (va_wsS RX7 38 yX7_in wsX7_in) := goodIn_app (goodIn_of _ (by decide +kernel)) ggX7_best_X7_in
set_option maxRecDepth 20000 in
theorem ggX7_best_X7_hasBest : GoodIn wsX7_best wsX7_hasBest := goodIn_r _ [9, 10, 11, 12, 4, 13, 14, 15, 16, 17, 18, 19, 20, 21, 22, 23, 24, 25, 26, 1, 27, 28, 29, 30, 31, 32, 33, 34, 35, 36, 37, 38, 39, 40, 41, 42, 43, 44, 45, 46, 47, 48, 49, 54, 55, 56, 57, 58, 59, 60, 61, 62, 63, 64, 65, 66, 67, 68, 69, 70, 71, 72] (by decide +kernel) (by decide +kernel)
set_option maxRecDepth 20000 in
theorem gX7_best_X7_hasBest : GoodIn wsX7_best (wsV RX7 92 RX7 yX7_hasBest wsX7_hasBest) := goodIn_app (goodIn_of _ (by decide +kernel)) ggX7_best_X7_hasBest
set_option maxRecDepth 20000 in
theorem ggX7_best_X7_missed : GoodIn wsX7_best wsX7_missed := goodIn_r _ [53, 27, 6, 7, 8, 4, 9, 10, 11, 12, 13, 14, 15, 16, 17, 18, 19, 20, 21, 22, 23, 24, 25, 26, 1, 28, 29, 30, 31, 32, 33, 34, 35, 36, 37, 38, 39, 40, 41, 42, 43, 44, 45, 46, 47, 48, 49, 54, 55, 56, 57, 58, 59, 60, 61, 62, 63, 64, 65, 66, 67, 68, 69, 70, 71, 72] (by decide +kernel) (by decide +kernel)
set_option maxRecDepth 20000 in
theorem gX7_best_X7_missed : GoodIn wsX7_best (wsV RX7 146 RX7 yX7_missed wsX7_missed) := goodIn_app (goodIn_of _ (by decide +kernel)) ggX7_best_X7_missed
set_option maxRecDepth 20000 in
theorem ggX7_best_X7_bits : GoodIn wsX7_best wsX7_bits := goodIn_r _ [49] (by decide +kernel) (by decide +kernel)
set_option maxRecDepth 20000 in
theorem gX7_best_X7_bits : GoodIn wsX7_best (va_wsS RX7 78 yX7_bits wsX7_bits) := goodIn_app (goodIn_of _ (by decide +kernel)) ggX7_best_X7_bits
theorem dX7_best_0 : decode cX7_best 0 = .ok (.iload_n 1, 1) := by decide +kernel
theorem dX7_best_1 : decode cX7_best 1 = .ok (.iconst 0, 1) := by decide +kernel
theorem dX7_best_2 : decode cX7_best 2 = .ok (.iconst 4, 1) := by decide +kernel
theorem dX7_best_3 : decode cX7_best 3 = .ok (.invokestatic 38, 3) := by decide +kernel
theorem dX7_best_6 : decode cX7_best 6 = .ok (.ifCond .ne 6, 3) := by decide +kernel
theorem dX7_best_9 : decode cX7_best 9 = .ok (.bipush (-2), 2) := by decide +kernel
theorem dX7_best_11 : decode cX7_best 11 = .ok (.ireturn, 1) := by decide +kernel
theorem dX7_best_12 : decode cX7_best 12 = .ok (.aload_n 0, 1) := by decide +kernel
theorem dX7_best_13 : decode cX7_best 13 = .ok (.invokevirtual 92, 3) := by decide +kernel
theorem dX7_best_16 : decode cX7_best 16 = .ok (.ifCond .ne 6, 3) := by decide +kernel
theorem dX7_best_19 : decode cX7_best 19 = .ok (.bipush (-4), 2) := by decide +kernel
theorem dX7_best_21 : decode cX7_best 21 = .ok (.ireturn, 1) := by decide +kernel
theorem dX7_best_22 : decode cX7_best 22 = .ok (.iload_n 1, 1) := by decide +kernel
theorem dX7_best_23 : decode cX7_best 23 = .ok (.iconst 3, 1) := by decide +kernel
theorem dX7_best_24 : decode cX7_best 24 = .ok (.if_icmp .ge 12, 3) := by decide +kernel
theorem dX7_best_27 : decode cX7_best 27 = .ok (.aload_n 0, 1) := by decide +kernel
theorem dX7_best_28 : decode cX7_best 28 = .ok (.getfield 19, 3) := by decide +kernel
theorem dX7_best_31 : decode cX7_best 31 = .ok (.iload_n 1, 1) := by decide +kernel
theorem dX7_best_32 : decode cX7_best 32 = .ok (.iaload, 1) := by decide +kernel
theorem dX7_best_33 : decode cX7_best 33 = .ok (.goto 22, 3) := by decide +kernel
theorem dX7_best_36 : decode cX7_best 36 = .ok (.iload_n 1, 1) := by decide +kernel
theorem dX7_best_37 : decode cX7_best 37 = .ok (.iconst 3, 1) := by decide +kernel
theorem dX7_best_38 : decode cX7_best 38 = .ok (.if_icmp .ne 13, 3) := by decide +kernel
theorem dX7_best_41 : decode cX7_best 41 = .ok (.aload_n 0, 1) := by decide +kernel
theorem dX7_best_42 : decode cX7_best 42 = .ok (.invokevirtual 146, 3) := by decide +kernel
theorem dX7_best_45 : decode cX7_best 45 = .ok (.invokestatic 78, 3) := by decide +kernel
theorem dX7_best_48 : decode cX7_best 48 = .ok (.goto 7, 3) := by decide +kernel
theorem dX7_best_51 : decode cX7_best 51 = .ok (.aload_n 0, 1) := by decide +kernel
theorem dX7_best_52 : decode cX7_best 52 = .ok (.invokevirtual 146, 3) := by decide +kernel
theorem dX7_best_55 : decode cX7_best 55 = .ok (.ireturn, 1) := by decide +kernel
set_option maxRecDepth 20000 in
theorem ggX7_bestAt_X7_isAsked : GoodIn wsX7_bestAt wsX7_isAsked := goodIn_r _ [7, 8, 9, 6, 10] (by decide +kernel) (by decide +kernel)
set_option maxRecDepth 20000 in
theorem gX7_bestAt_X7_isAsked : GoodIn wsX7_bestAt (va_wsS RX7 181 yX7_isAsked wsX7_isAsked) := goodIn_app (goodIn_of _ (by decide +kernel)) ggX7_bestAt_X7_isAsked
set_option maxRecDepth 20000 in
theorem ggX7_bestAt_X7_hasBest : GoodIn wsX7_bestAt wsX7_hasBest := goodIn_r _ [14, 15, 16, 17, 6, 18, 19, 20, 21, 22, 23, 24, 25, 26, 27, 28, 29, 30, 31, 2, 32, 33, 34, 35, 36, 37, 38, 39, 40, 41, 42, 43, 44, 45, 46, 47, 48, 49, 50, 51, 52, 53, 54, 60, 61, 62, 63, 64, 65, 66, 67, 68, 69, 70, 71, 72, 73, 74, 75, 76, 77, 78] (by decide +kernel) (by decide +kernel)
set_option maxRecDepth 20000 in
theorem gX7_bestAt_X7_hasBest : GoodIn wsX7_bestAt (wsV RX7 92 RX7 yX7_hasBest wsX7_hasBest) := goodIn_app (goodIn_of _ (by decide +kernel)) ggX7_bestAt_X7_hasBest
set_option maxRecDepth 20000 in
theorem ggX7_bestAt_X7_upper : GoodIn wsX7_bestAt wsX7_upper := goodIn_r _ [48, 24, 25, 26, 6, 27, 19, 60, 61, 62, 63, 64, 65, 66, 67, 68, 69, 70, 71, 72, 73, 74, 75, 76, 77, 78] (by decide +kernel) (by decide +kernel)
set_option maxRecDepth 20000 in
theorem gX7_bestAt_X7_upper : GoodIn wsX7_bestAt (wsV RX7 58 RX7 yX7_upper wsX7_upper) := goodIn_app (goodIn_of _ (by decide +kernel)) ggX7_bestAt_X7_upper
set_option maxRecDepth 20000 in
theorem ggX7_bestAt_X7_lower : GoodIn wsX7_bestAt wsX7_lower := goodIn_r _ [44, 24, 25, 26, 6, 27, 19, 60, 61, 62, 63, 64, 65, 66, 67, 68, 69, 70, 71, 72, 73, 74, 75, 76, 77, 78] (by decide +kernel) (by decide +kernel)
set_option maxRecDepth 20000 in
theorem gX7_bestAt_X7_lower : GoodIn wsX7_bestAt (wsV RX7 54 RX7 yX7_lower wsX7_lower) := goodIn_app (goodIn_of _ (by decide +kernel)) ggX7_bestAt_X7_lower
set_option maxRecDepth 20000 in
theorem ggX7_bestAt_X7_part : GoodIn wsX7_bestAt wsX7_part := goodIn_r _ [57, 58, 59, 49, 50, 6, 51] (by decide +kernel) (by decide +kernel)
set_option maxRecDepth 20000 in
theorem gX7_bestAt_X7_part : GoodIn wsX7_bestAt (va_wsS RX7 192 yX7_part wsX7_part) := goodIn_app (goodIn_of _ (by decide +kernel)) ggX7_bestAt_X7_part
theorem dX7_bestAt_0 : decode cX7_bestAt 0 = .ok (.iload_n 1, 1) := by decide +kernel
theorem dX7_bestAt_1 : decode cX7_bestAt 1 = .ok (.iload_n 2, 1) := by decide +kernel
theorem dX7_bestAt_2 : decode cX7_bestAt 2 = .ok (.iload_n 3, 1) := by decide +kernel
theorem dX7_bestAt_3 : decode cX7_bestAt 3 = .ok (.invokestatic 181, 3) := by decide +kernel
theorem dX7_bestAt_6 : decode cX7_bestAt 6 = .ok (.ifCond .ne 7, 3) := by decide +kernel
theorem dX7_bestAt_9 : decode cX7_bestAt 9 = .ok (.ldc2_w 187, 3) := by decide +kernel
theorem dX7_bestAt_12 : decode cX7_bestAt 12 = .ok (.lreturn, 1) := by decide +kernel
theorem dX7_bestAt_13 : decode cX7_bestAt 13 = .ok (.aload_n 0, 1) := by decide +kernel
theorem dX7_bestAt_14 : decode cX7_bestAt 14 = .ok (.invokevirtual 92, 3) := by decide +kernel
theorem dX7_bestAt_17 : decode cX7_bestAt 17 = .ok (.ifCond .eq 56, 3) := by decide +kernel
theorem dX7_bestAt_20 : decode cX7_bestAt 20 = .ok (.aload_n 0, 1) := by decide +kernel
theorem dX7_bestAt_21 : decode cX7_bestAt 21 = .ok (.aload_n 0, 1) := by decide +kernel
theorem dX7_bestAt_22 : decode cX7_bestAt 22 = .ok (.getfield 19, 3) := by decide +kernel
theorem dX7_bestAt_25 : decode cX7_bestAt 25 = .ok (.iconst 0, 1) := by decide +kernel
theorem dX7_bestAt_26 : decode cX7_bestAt 26 = .ok (.iaload, 1) := by decide +kernel
theorem dX7_bestAt_27 : decode cX7_bestAt 27 = .ok (.aload_n 0, 1) := by decide +kernel
theorem dX7_bestAt_28 : decode cX7_bestAt 28 = .ok (.getfield 19, 3) := by decide +kernel
theorem dX7_bestAt_31 : decode cX7_bestAt 31 = .ok (.iconst 1, 1) := by decide +kernel
theorem dX7_bestAt_32 : decode cX7_bestAt 32 = .ok (.iaload, 1) := by decide +kernel
theorem dX7_bestAt_33 : decode cX7_bestAt 33 = .ok (.aload_n 0, 1) := by decide +kernel
theorem dX7_bestAt_34 : decode cX7_bestAt 34 = .ok (.getfield 19, 3) := by decide +kernel
theorem dX7_bestAt_37 : decode cX7_bestAt 37 = .ok (.iconst 2, 1) := by decide +kernel
theorem dX7_bestAt_38 : decode cX7_bestAt 38 = .ok (.iaload, 1) := by decide +kernel
theorem dX7_bestAt_39 : decode cX7_bestAt 39 = .ok (.iload_n 1, 1) := by decide +kernel
theorem dX7_bestAt_40 : decode cX7_bestAt 40 = .ok (.iload_n 2, 1) := by decide +kernel
theorem dX7_bestAt_41 : decode cX7_bestAt 41 = .ok (.invokevirtual 58, 3) := by decide +kernel
theorem dX7_bestAt_44 : decode cX7_bestAt 44 = .ok (.aload_n 0, 1) := by decide +kernel
theorem dX7_bestAt_45 : decode cX7_bestAt 45 = .ok (.aload_n 0, 1) := by decide +kernel
theorem dX7_bestAt_46 : decode cX7_bestAt 46 = .ok (.getfield 19, 3) := by decide +kernel
theorem dX7_bestAt_49 : decode cX7_bestAt 49 = .ok (.iconst 0, 1) := by decide +kernel
theorem dX7_bestAt_50 : decode cX7_bestAt 50 = .ok (.iaload, 1) := by decide +kernel
theorem dX7_bestAt_51 : decode cX7_bestAt 51 = .ok (.aload_n 0, 1) := by decide +kernel
theorem dX7_bestAt_52 : decode cX7_bestAt 52 = .ok (.getfield 19, 3) := by decide +kernel
theorem dX7_bestAt_55 : decode cX7_bestAt 55 = .ok (.iconst 1, 1) := by decide +kernel
theorem dX7_bestAt_56 : decode cX7_bestAt 56 = .ok (.iaload, 1) := by decide +kernel
theorem dX7_bestAt_57 : decode cX7_bestAt 57 = .ok (.aload_n 0, 1) := by decide +kernel
theorem dX7_bestAt_58 : decode cX7_bestAt 58 = .ok (.getfield 19, 3) := by decide +kernel
theorem dX7_bestAt_61 : decode cX7_bestAt 61 = .ok (.iconst 2, 1) := by decide +kernel
theorem dX7_bestAt_62 : decode cX7_bestAt 62 = .ok (.iaload, 1) := by decide +kernel
theorem dX7_bestAt_63 : decode cX7_bestAt 63 = .ok (.invokevirtual 54, 3) := by decide +kernel
theorem dX7_bestAt_66 : decode cX7_bestAt 66 = .ok (.iload_n 3, 1) := by decide +kernel
theorem dX7_bestAt_67 : decode cX7_bestAt 67 = .ok (.invokestatic 192, 3) := by decide +kernel
theorem dX7_bestAt_70 : decode cX7_bestAt 70 = .ok (.goto 6, 3) := by decide +kernel
theorem dX7_bestAt_73 : decode cX7_bestAt 73 = .ok (.ldc2_w 196, 3) := by decide +kernel
theorem dX7_bestAt_76 : decode cX7_bestAt 76 = .ok (.lreturn, 1) := by decide +kernel
set_option maxRecDepth 20000 in
theorem ggX7_lands_X7_hasBest : GoodIn wsX7_lands wsX7_hasBest := goodIn_r _ [6, 7, 8, 9, 5, 10, 11, 12, 13, 14, 15, 16, 17, 18, 19, 20, 21, 22, 23, 1, 24, 25, 26, 27, 28, 29, 30, 31, 32, 33, 34, 35, 36, 37, 38, 39, 40, 41, 42, 43, 44, 45, 46, 47, 48, 49, 50, 51, 52, 53, 54, 55, 56, 57, 58, 59, 60, 61, 62, 63, 64, 65] (by decide +kernel) (by decide +kernel)
set_option maxRecDepth 20000 in
theorem gX7_lands_X7_hasBest : GoodIn wsX7_lands (wsV RX7 92 RX7 yX7_hasBest wsX7_hasBest) := goodIn_app (goodIn_of _ (by decide +kernel)) ggX7_lands_X7_hasBest
set_option maxRecDepth 20000 in
theorem ggX7_lands_X7_of : GoodIn wsX7_lands wsX7_of := goodIn_r _ [19, 11, 47, 48, 49, 50, 51, 52, 53, 54, 55, 56, 57, 58, 59, 60, 61, 62, 63, 64, 65] (by decide +kernel) (by decide +kernel)
set_option maxRecDepth 20000 in
theorem gX7_lands_X7_of : GoodIn wsX7_lands (wsV RX7 42 RX7 yX7_of wsX7_of) := goodIn_app (goodIn_of _ (by decide +kernel)) ggX7_lands_X7_of
set_option maxRecDepth 20000 in
theorem ggX7_lands_X7_upper : GoodIn wsX7_lands wsX7_upper := goodIn_r _ [40, 16, 17, 18, 5, 19, 11, 47, 48, 49, 50, 51, 52, 53, 54, 55, 56, 57, 58, 59, 60, 61, 62, 63, 64, 65] (by decide +kernel) (by decide +kernel)
set_option maxRecDepth 20000 in
theorem gX7_lands_X7_upper : GoodIn wsX7_lands (wsV RX7 58 RX7 yX7_upper wsX7_upper) := goodIn_app (goodIn_of _ (by decide +kernel)) ggX7_lands_X7_upper
theorem dX7_lands_0 : decode cX7_lands 0 = .ok (.aload_n 0, 1) := by decide +kernel
theorem dX7_lands_1 : decode cX7_lands 1 = .ok (.invokevirtual 92, 3) := by decide +kernel
theorem dX7_lands_4 : decode cX7_lands 4 = .ok (.ifCond .ne 6, 3) := by decide +kernel
theorem dX7_lands_7 : decode cX7_lands 7 = .ok (.bipush (-4), 2) := by decide +kernel
theorem dX7_lands_9 : decode cX7_lands 9 = .ok (.ireturn, 1) := by decide +kernel
theorem dX7_lands_10 : decode cX7_lands 10 = .ok (.aload_n 0, 1) := by decide +kernel
theorem dX7_lands_11 : decode cX7_lands 11 = .ok (.aload_n 0, 1) := by decide +kernel
theorem dX7_lands_12 : decode cX7_lands 12 = .ok (.getfield 19, 3) := by decide +kernel
theorem dX7_lands_15 : decode cX7_lands 15 = .ok (.iconst 0, 1) := by decide +kernel
theorem dX7_lands_16 : decode cX7_lands 16 = .ok (.iaload, 1) := by decide +kernel
theorem dX7_lands_17 : decode cX7_lands 17 = .ok (.iconst 0, 1) := by decide +kernel
theorem dX7_lands_18 : decode cX7_lands 18 = .ok (.invokevirtual 42, 3) := by decide +kernel
theorem dX7_lands_21 : decode cX7_lands 21 = .ok (.istore_n 1, 1) := by decide +kernel
theorem dX7_lands_22 : decode cX7_lands 22 = .ok (.iload_n 1, 1) := by decide +kernel
theorem dX7_lands_23 : decode cX7_lands 23 = .ok (.bipush 99, 2) := by decide +kernel
theorem dX7_lands_25 : decode cX7_lands 25 = .ok (.if_icmp .gt 40, 3) := by decide +kernel
theorem dX7_lands_28 : decode cX7_lands 28 = .ok (.aload_n 0, 1) := by decide +kernel
theorem dX7_lands_29 : decode cX7_lands 29 = .ok (.aload_n 0, 1) := by decide +kernel
theorem dX7_lands_30 : decode cX7_lands 30 = .ok (.getfield 19, 3) := by decide +kernel
theorem dX7_lands_33 : decode cX7_lands 33 = .ok (.iconst 0, 1) := by decide +kernel
theorem dX7_lands_34 : decode cX7_lands 34 = .ok (.iaload, 1) := by decide +kernel
theorem dX7_lands_35 : decode cX7_lands 35 = .ok (.aload_n 0, 1) := by decide +kernel
theorem dX7_lands_36 : decode cX7_lands 36 = .ok (.getfield 19, 3) := by decide +kernel
theorem dX7_lands_39 : decode cX7_lands 39 = .ok (.iconst 1, 1) := by decide +kernel
theorem dX7_lands_40 : decode cX7_lands 40 = .ok (.iaload, 1) := by decide +kernel
theorem dX7_lands_41 : decode cX7_lands 41 = .ok (.aload_n 0, 1) := by decide +kernel
theorem dX7_lands_42 : decode cX7_lands 42 = .ok (.getfield 19, 3) := by decide +kernel
theorem dX7_lands_45 : decode cX7_lands 45 = .ok (.iconst 2, 1) := by decide +kernel
theorem dX7_lands_46 : decode cX7_lands 46 = .ok (.iaload, 1) := by decide +kernel
theorem dX7_lands_47 : decode cX7_lands 47 = .ok (.iload_n 1, 1) := by decide +kernel
theorem dX7_lands_48 : decode cX7_lands 48 = .ok (.iconst 1, 1) := by decide +kernel
theorem dX7_lands_49 : decode cX7_lands 49 = .ok (.invokevirtual 58, 3) := by decide +kernel
theorem dX7_lands_52 : decode cX7_lands 52 = .ok (.lconst 0, 1) := by decide +kernel
theorem dX7_lands_53 : decode cX7_lands 53 = .ok (.lcmp, 1) := by decide +kernel
theorem dX7_lands_54 : decode cX7_lands 54 = .ok (.ifCond .gt 5, 3) := by decide +kernel
theorem dX7_lands_57 : decode cX7_lands 57 = .ok (.iload_n 1, 1) := by decide +kernel
theorem dX7_lands_58 : decode cX7_lands 58 = .ok (.ireturn, 1) := by decide +kernel
theorem dX7_lands_59 : decode cX7_lands 59 = .ok (.iinc 1 1, 3) := by decide +kernel
theorem dX7_lands_62 : decode cX7_lands 62 = .ok (.goto (-40), 3) := by decide +kernel
theorem dX7_lands_65 : decode cX7_lands 65 = .ok (.bipush (-5), 2) := by decide +kernel
theorem dX7_lands_67 : decode cX7_lands 67 = .ok (.ireturn, 1) := by decide +kernel
set_option maxRecDepth 20000 in
theorem ggX7_track_X7_in : GoodIn wsX7_track wsX7_in := goodIn_r _ [8] (by decide +kernel) (by decide +kernel)
set_option maxRecDepth 20000 in
theorem gX7_track_X7_in : GoodIn wsX7_track (va_wsS RX7 38 yX7_in wsX7_in) := goodIn_app (goodIn_of _ (by decide +kernel)) ggX7_track_X7_in
set_option maxRecDepth 20000 in
theorem ggX7_track_X7_findsTrack : GoodIn wsX7_track wsX7_findsTrack := goodIn_r _ [12, 13, 1, 2, 14, 15, 16, 7, 17, 18, 3, 19, 20, 21, 22, 23, 24, 25, 26, 27, 28, 29, 30, 31, 32, 33, 34, 35, 36, 37, 38, 39, 4, 40, 41, 42, 43, 44, 45, 46, 47, 48, 49, 50, 51, 52, 53, 54, 55, 56, 57, 58, 59, 60, 61, 62, 63, 64, 65, 66, 67, 68, 69, 70, 71, 72, 73, 74, 75, 76, 77, 78, 79, 80] (by decide +kernel) (by decide +kernel)
set_option maxRecDepth 20000 in
theorem gX7_track_X7_findsTrack : GoodIn wsX7_track (wsV RX7 198 RX7 yX7_findsTrack wsX7_findsTrack) := goodIn_app (goodIn_of _ (by decide +kernel)) ggX7_track_X7_findsTrack
set_option maxRecDepth 20000 in
theorem ggX7_track_X7_setOf : GoodIn wsX7_track wsX7_setOf := goodIn_r _ [35, 3, 62, 63, 64, 65, 66, 67, 68, 69, 70, 71, 72, 73, 74, 75, 76, 77, 78, 79, 80] (by decide +kernel) (by decide +kernel)
set_option maxRecDepth 20000 in
theorem gX7_track_X7_setOf : GoodIn wsX7_track (wsV RX7 99 RX7 yX7_setOf wsX7_setOf) := goodIn_app (goodIn_of _ (by decide +kernel)) ggX7_track_X7_setOf
set_option maxRecDepth 20000 in
theorem ggX7_track_X7_finds : GoodIn wsX7_track wsX7_finds := goodIn_r _ [39, 18, 4, 31, 40, 41, 42, 7, 43, 19, 20, 21, 22, 23, 24, 25, 26, 44, 45, 46, 47, 48, 49, 50, 51, 52, 53, 54, 55, 56, 57, 58, 59, 60, 61, 62, 63, 64, 65, 66, 67, 68, 69, 70, 71, 72, 73, 74, 75, 76, 77, 78, 79, 80] (by decide +kernel) (by decide +kernel)
set_option maxRecDepth 20000 in
theorem gX7_track_X7_finds : GoodIn wsX7_track (wsV RX7 89 RX7 yX7_finds wsX7_finds) := goodIn_app (goodIn_of _ (by decide +kernel)) ggX7_track_X7_finds
theorem dX7_track_0 : decode cX7_track 0 = .ok (.iload_n 1, 1) := by decide +kernel
theorem dX7_track_1 : decode cX7_track 1 = .ok (.ifCond .lt 12, 3) := by decide +kernel
theorem dX7_track_4 : decode cX7_track 4 = .ok (.iload_n 2, 1) := by decide +kernel
theorem dX7_track_5 : decode cX7_track 5 = .ok (.iconst 0, 1) := by decide +kernel
theorem dX7_track_6 : decode cX7_track 6 = .ok (.iconst 5, 1) := by decide +kernel
theorem dX7_track_7 : decode cX7_track 7 = .ok (.invokestatic 38, 3) := by decide +kernel
theorem dX7_track_10 : decode cX7_track 10 = .ok (.ifCond .ne 6, 3) := by decide +kernel
theorem dX7_track_13 : decode cX7_track 13 = .ok (.bipush (-2), 2) := by decide +kernel
theorem dX7_track_15 : decode cX7_track 15 = .ok (.ireturn, 1) := by decide +kernel
theorem dX7_track_16 : decode cX7_track 16 = .ok (.aload_n 0, 1) := by decide +kernel
theorem dX7_track_17 : decode cX7_track 17 = .ok (.invokevirtual 198, 3) := by decide +kernel
theorem dX7_track_20 : decode cX7_track 20 = .ok (.iconst 0, 1) := by decide +kernel
theorem dX7_track_21 : decode cX7_track 21 = .ok (.istore_n 3, 1) := by decide +kernel
theorem dX7_track_22 : decode cX7_track 22 = .ok (.iconst 0, 1) := by decide +kernel
theorem dX7_track_23 : decode cX7_track 23 = .ok (.istore 4, 2) := by decide +kernel
theorem dX7_track_25 : decode cX7_track 25 = .ok (.iload 4, 2) := by decide +kernel
theorem dX7_track_27 : decode cX7_track 27 = .ok (.iload_n 1, 1) := by decide +kernel
theorem dX7_track_28 : decode cX7_track 28 = .ok (.if_icmp .ge 26, 3) := by decide +kernel
theorem dX7_track_31 : decode cX7_track 31 = .ok (.iload_n 3, 1) := by decide +kernel
theorem dX7_track_32 : decode cX7_track 32 = .ok (.aload_n 0, 1) := by decide +kernel
theorem dX7_track_33 : decode cX7_track 33 = .ok (.getfield 96, 3) := by decide +kernel
theorem dX7_track_36 : decode cX7_track 36 = .ok (.if_icmp .ge 18, 3) := by decide +kernel
theorem dX7_track_39 : decode cX7_track 39 = .ok (.iload_n 3, 1) := by decide +kernel
theorem dX7_track_40 : decode cX7_track 40 = .ok (.aload_n 0, 1) := by decide +kernel
theorem dX7_track_41 : decode cX7_track 41 = .ok (.getfield 25, 3) := by decide +kernel
theorem dX7_track_44 : decode cX7_track 44 = .ok (.iload_n 3, 1) := by decide +kernel
theorem dX7_track_45 : decode cX7_track 45 = .ok (.iaload, 1) := by decide +kernel
theorem dX7_track_46 : decode cX7_track 46 = .ok (.iadd, 1) := by decide +kernel
theorem dX7_track_47 : decode cX7_track 47 = .ok (.istore_n 3, 1) := by decide +kernel
theorem dX7_track_48 : decode cX7_track 48 = .ok (.iinc 4 1, 3) := by decide +kernel
theorem dX7_track_51 : decode cX7_track 51 = .ok (.goto (-26), 3) := by decide +kernel
theorem dX7_track_54 : decode cX7_track 54 = .ok (.iload_n 3, 1) := by decide +kernel
theorem dX7_track_55 : decode cX7_track 55 = .ok (.aload_n 0, 1) := by decide +kernel
theorem dX7_track_56 : decode cX7_track 56 = .ok (.getfield 96, 3) := by decide +kernel
theorem dX7_track_59 : decode cX7_track 59 = .ok (.if_icmp .lt 6, 3) := by decide +kernel
theorem dX7_track_62 : decode cX7_track 62 = .ok (.bipush (-5), 2) := by decide +kernel
theorem dX7_track_64 : decode cX7_track 64 = .ok (.ireturn, 1) := by decide +kernel
theorem dX7_track_65 : decode cX7_track 65 = .ok (.aload_n 0, 1) := by decide +kernel
theorem dX7_track_66 : decode cX7_track 66 = .ok (.getfield 25, 3) := by decide +kernel
theorem dX7_track_69 : decode cX7_track 69 = .ok (.iload_n 3, 1) := by decide +kernel
theorem dX7_track_70 : decode cX7_track 70 = .ok (.iaload, 1) := by decide +kernel
theorem dX7_track_71 : decode cX7_track 71 = .ok (.istore 4, 2) := by decide +kernel
theorem dX7_track_73 : decode cX7_track 73 = .ok (.aload_n 0, 1) := by decide +kernel
theorem dX7_track_74 : decode cX7_track 74 = .ok (.iload_n 3, 1) := by decide +kernel
theorem dX7_track_75 : decode cX7_track 75 = .ok (.iload 4, 2) := by decide +kernel
theorem dX7_track_77 : decode cX7_track 77 = .ok (.invokevirtual 99, 3) := by decide +kernel
theorem dX7_track_80 : decode cX7_track 80 = .ok (.istore 5, 2) := by decide +kernel
theorem dX7_track_82 : decode cX7_track 82 = .ok (.iload_n 2, 1) := by decide +kernel
theorem dX7_track_83 : decode cX7_track 83 = .ok (.iconst 3, 1) := by decide +kernel
theorem dX7_track_84 : decode cX7_track 84 = .ok (.if_icmp .ge 38, 3) := by decide +kernel
theorem dX7_track_87 : decode cX7_track 87 = .ok (.iload_n 2, 1) := by decide +kernel
theorem dX7_track_88 : decode cX7_track 88 = .ok (.ifCond .ne 12, 3) := by decide +kernel
theorem dX7_track_91 : decode cX7_track 91 = .ok (.aload_n 0, 1) := by decide +kernel
theorem dX7_track_92 : decode cX7_track 92 = .ok (.getfield 28, 3) := by decide +kernel
theorem dX7_track_95 : decode cX7_track 95 = .ok (.iload_n 3, 1) := by decide +kernel
theorem dX7_track_96 : decode cX7_track 96 = .ok (.iaload, 1) := by decide +kernel
theorem dX7_track_97 : decode cX7_track 97 = .ok (.goto 24, 3) := by decide +kernel
theorem dX7_track_100 : decode cX7_track 100 = .ok (.iload_n 2, 1) := by decide +kernel
theorem dX7_track_101 : decode cX7_track 101 = .ok (.iconst 1, 1) := by decide +kernel
theorem dX7_track_102 : decode cX7_track 102 = .ok (.if_icmp .ne 17, 3) := by decide +kernel
theorem dX7_track_105 : decode cX7_track 105 = .ok (.aload_n 0, 1) := by decide +kernel
theorem dX7_track_106 : decode cX7_track 106 = .ok (.getfield 28, 3) := by decide +kernel
theorem dX7_track_109 : decode cX7_track 109 = .ok (.iload_n 3, 1) := by decide +kernel
theorem dX7_track_110 : decode cX7_track 110 = .ok (.iload 4, 2) := by decide +kernel
theorem dX7_track_112 : decode cX7_track 112 = .ok (.iadd, 1) := by decide +kernel
theorem dX7_track_113 : decode cX7_track 113 = .ok (.iconst 1, 1) := by decide +kernel
theorem dX7_track_114 : decode cX7_track 114 = .ok (.isub, 1) := by decide +kernel
theorem dX7_track_115 : decode cX7_track 115 = .ok (.iaload, 1) := by decide +kernel
theorem dX7_track_116 : decode cX7_track 116 = .ok (.goto 5, 3) := by decide +kernel
theorem dX7_track_119 : decode cX7_track 119 = .ok (.iload 5, 2) := by decide +kernel
theorem dX7_track_121 : decode cX7_track 121 = .ok (.ireturn, 1) := by decide +kernel
theorem dX7_track_122 : decode cX7_track 122 = .ok (.iload 4, 2) := by decide +kernel
theorem dX7_track_124 : decode cX7_track 124 = .ok (.iconst 2, 1) := by decide +kernel
theorem dX7_track_125 : decode cX7_track 125 = .ok (.if_icmp .le 23, 3) := by decide +kernel
theorem dX7_track_128 : decode cX7_track 128 = .ok (.aload_n 0, 1) := by decide +kernel
theorem dX7_track_129 : decode cX7_track 129 = .ok (.iload 5, 2) := by decide +kernel
theorem dX7_track_131 : decode cX7_track 131 = .ok (.invokevirtual 89, 3) := by decide +kernel
theorem dX7_track_134 : decode cX7_track 134 = .ok (.ifCond .eq 14, 3) := by decide +kernel
theorem dX7_track_137 : decode cX7_track 137 = .ok (.aload_n 0, 1) := by decide +kernel
theorem dX7_track_138 : decode cX7_track 138 = .ok (.getfield 19, 3) := by decide +kernel
theorem dX7_track_141 : decode cX7_track 141 = .ok (.iload_n 2, 1) := by decide +kernel
theorem dX7_track_142 : decode cX7_track 142 = .ok (.iconst 3, 1) := by decide +kernel
theorem dX7_track_143 : decode cX7_track 143 = .ok (.isub, 1) := by decide +kernel
theorem dX7_track_144 : decode cX7_track 144 = .ok (.iaload, 1) := by decide +kernel
theorem dX7_track_145 : decode cX7_track 145 = .ok (.goto 5, 3) := by decide +kernel
theorem dX7_track_148 : decode cX7_track 148 = .ok (.bipush (-5), 2) := by decide +kernel
theorem dX7_track_150 : decode cX7_track 150 = .ok (.ireturn, 1) := by decide +kernel
set_option maxRecDepth 20000 in
theorem ggX7_fitsFrom_X7_no : GoodIn wsX7_fitsFrom wsX7_no := goodIn_r _ [7, 8, 9, 10, 6, 11, 60, 61, 62, 63, 64, 65, 66, 67, 68, 69, 70, 71, 72, 73, 74, 75, 76, 77, 78] (by decide +kernel) (by decide +kernel)
set_option maxRecDepth 20000 in
theorem gX7_fitsFrom_X7_no : GoodIn wsX7_fitsFrom (wsV RX7 143 RX7 yX7_no wsX7_no) := goodIn_app (goodIn_of _ (by decide +kernel)) ggX7_fitsFrom_X7_no
set_option maxRecDepth 20000 in
theorem ggX7_fitsFrom_X7_isUsable : GoodIn wsX7_fitsFrom wsX7_isUsable := goodIn_r _ [15, 16, 17, 18, 6, 19, 8, 60, 61, 62, 63, 64, 65, 66, 67, 68, 69, 70, 71, 72, 73, 74, 75, 76, 77, 78] (by decide +kernel) (by decide +kernel)
set_option maxRecDepth 20000 in
theorem gX7_fitsFrom_X7_isUsable : GoodIn wsX7_fitsFrom (wsV RX7 46 RX7 yX7_isUsable wsX7_isUsable) := goodIn_app (goodIn_of _ (by decide +kernel)) ggX7_fitsFrom_X7_isUsable
set_option maxRecDepth 20000 in
theorem ggX7_fitsFrom_X7_orders : GoodIn wsX7_fitsFrom wsX7_orders := goodIn_r _ [23, 2, 8, 1, 12, 13, 14, 6, 15, 16, 17, 18, 19, 60, 61, 62, 63, 64, 65, 66, 67, 68, 69, 70, 71, 72, 73, 74, 75, 76, 77, 78] (by decide +kernel) (by decide +kernel)
set_option maxRecDepth 20000 in
theorem gX7_fitsFrom_X7_orders : GoodIn wsX7_fitsFrom (wsV RX7 102 RX7 yX7_orders wsX7_orders) := goodIn_app (goodIn_of _ (by decide +kernel)) ggX7_fitsFrom_X7_orders
set_option maxRecDepth 20000 in
theorem ggX7_fitsFrom_X7_fitsAsRow : GoodIn wsX7_fitsFrom wsX7_fitsAsRow := goodIn_r _ [27, 28, 29, 30, 31, 6, 32, 1, 33, 34, 35, 36, 8, 37, 38, 39, 40, 41, 12, 13, 14, 15, 16, 17, 18, 19, 42, 43, 44, 45, 46, 47, 48, 49, 50, 51, 52, 53, 54, 55, 56, 57, 58, 59, 60, 61, 62, 63, 64, 65, 66, 67, 68, 69, 70, 71, 72, 73, 74, 75, 76, 77, 78] (by decide +kernel) (by decide +kernel)
set_option maxRecDepth 20000 in
theorem gX7_fitsFrom_X7_fitsAsRow : GoodIn wsX7_fitsFrom (wsV RX7 105 RX7 yX7_fitsAsRow wsX7_fitsAsRow) := goodIn_app (goodIn_of _ (by decide +kernel)) ggX7_fitsFrom_X7_fitsAsRow
theorem dX7_fitsFrom_0 : decode cX7_fitsFrom 0 = .ok (.aload_n 0, 1) := by decide +kernel
theorem dX7_fitsFrom_1 : decode cX7_fitsFrom 1 = .ok (.iload_n 1, 1) := by decide +kernel
theorem dX7_fitsFrom_2 : decode cX7_fitsFrom 2 = .ok (.invokevirtual 143, 3) := by decide +kernel
theorem dX7_fitsFrom_5 : decode cX7_fitsFrom 5 = .ok (.ifCond .eq 5, 3) := by decide +kernel
theorem dX7_fitsFrom_8 : decode cX7_fitsFrom 8 = .ok (.iconst (-1), 1) := by decide +kernel
theorem dX7_fitsFrom_9 : decode cX7_fitsFrom 9 = .ok (.ireturn, 1) := by decide +kernel
theorem dX7_fitsFrom_10 : decode cX7_fitsFrom 10 = .ok (.aload_n 0, 1) := by decide +kernel
theorem dX7_fitsFrom_11 : decode cX7_fitsFrom 11 = .ok (.iload_n 1, 1) := by decide +kernel
theorem dX7_fitsFrom_12 : decode cX7_fitsFrom 12 = .ok (.invokevirtual 46, 3) := by decide +kernel
theorem dX7_fitsFrom_15 : decode cX7_fitsFrom 15 = .ok (.ifCond .ne 6, 3) := by decide +kernel
theorem dX7_fitsFrom_18 : decode cX7_fitsFrom 18 = .ok (.bipush (-4), 2) := by decide +kernel
theorem dX7_fitsFrom_20 : decode cX7_fitsFrom 20 = .ok (.ireturn, 1) := by decide +kernel
theorem dX7_fitsFrom_21 : decode cX7_fitsFrom 21 = .ok (.aload_n 0, 1) := by decide +kernel
theorem dX7_fitsFrom_22 : decode cX7_fitsFrom 22 = .ok (.invokevirtual 102, 3) := by decide +kernel
theorem dX7_fitsFrom_25 : decode cX7_fitsFrom 25 = .ok (.iconst 0, 1) := by decide +kernel
theorem dX7_fitsFrom_26 : decode cX7_fitsFrom 26 = .ok (.istore_n 2, 1) := by decide +kernel
theorem dX7_fitsFrom_27 : decode cX7_fitsFrom 27 = .ok (.aload_n 0, 1) := by decide +kernel
theorem dX7_fitsFrom_28 : decode cX7_fitsFrom 28 = .ok (.getfield 28, 3) := by decide +kernel
theorem dX7_fitsFrom_31 : decode cX7_fitsFrom 31 = .ok (.iload_n 2, 1) := by decide +kernel
theorem dX7_fitsFrom_32 : decode cX7_fitsFrom 32 = .ok (.iaload, 1) := by decide +kernel
theorem dX7_fitsFrom_33 : decode cX7_fitsFrom 33 = .ok (.iload_n 1, 1) := by decide +kernel
theorem dX7_fitsFrom_34 : decode cX7_fitsFrom 34 = .ok (.if_icmp .eq 9, 3) := by decide +kernel
theorem dX7_fitsFrom_37 : decode cX7_fitsFrom 37 = .ok (.iinc 2 1, 3) := by decide +kernel
theorem dX7_fitsFrom_40 : decode cX7_fitsFrom 40 = .ok (.goto (-13), 3) := by decide +kernel
theorem dX7_fitsFrom_43 : decode cX7_fitsFrom 43 = .ok (.aload_n 0, 1) := by decide +kernel
theorem dX7_fitsFrom_44 : decode cX7_fitsFrom 44 = .ok (.getfield 96, 3) := by decide +kernel
theorem dX7_fitsFrom_47 : decode cX7_fitsFrom 47 = .ok (.iload_n 2, 1) := by decide +kernel
theorem dX7_fitsFrom_48 : decode cX7_fitsFrom 48 = .ok (.isub, 1) := by decide +kernel
theorem dX7_fitsFrom_49 : decode cX7_fitsFrom 49 = .ok (.istore_n 3, 1) := by decide +kernel
theorem dX7_fitsFrom_50 : decode cX7_fitsFrom 50 = .ok (.aload_n 0, 1) := by decide +kernel
theorem dX7_fitsFrom_51 : decode cX7_fitsFrom 51 = .ok (.iload_n 2, 1) := by decide +kernel
theorem dX7_fitsFrom_52 : decode cX7_fitsFrom 52 = .ok (.iload_n 3, 1) := by decide +kernel
theorem dX7_fitsFrom_53 : decode cX7_fitsFrom 53 = .ok (.invokevirtual 105, 3) := by decide +kernel
theorem dX7_fitsFrom_56 : decode cX7_fitsFrom 56 = .ok (.ifCond .ne 9, 3) := by decide +kernel
theorem dX7_fitsFrom_59 : decode cX7_fitsFrom 59 = .ok (.iinc 3 (-1), 3) := by decide +kernel
theorem dX7_fitsFrom_62 : decode cX7_fitsFrom 62 = .ok (.goto (-12), 3) := by decide +kernel
theorem dX7_fitsFrom_65 : decode cX7_fitsFrom 65 = .ok (.iload_n 3, 1) := by decide +kernel
theorem dX7_fitsFrom_66 : decode cX7_fitsFrom 66 = .ok (.ireturn, 1) := by decide +kernel
set_option maxRecDepth 20000 in
theorem ggX7_spin_X7_in : GoodIn wsX7_spin wsX7_in := goodIn_r _ [7] (by decide +kernel) (by decide +kernel)
set_option maxRecDepth 20000 in
theorem gX7_spin_X7_in : GoodIn wsX7_spin (va_wsS RX7 38 yX7_in wsX7_in) := goodIn_app (goodIn_of _ (by decide +kernel)) ggX7_spin_X7_in
set_option maxRecDepth 20000 in
theorem ggX7_spin_X7_findsSpin : GoodIn wsX7_spin wsX7_findsSpin := goodIn_r _ [11, 12, 1, 2, 3, 13, 14, 15, 6, 16, 17, 18, 19, 20, 21, 22, 23, 24, 25, 26, 27, 28, 29, 30, 31, 32, 33, 34, 35, 36, 37, 38, 39, 40, 41, 42, 43, 44, 45, 46, 47, 48, 49, 50, 51, 52, 53, 54, 55, 56, 57] (by decide +kernel) (by decide +kernel)
set_option maxRecDepth 20000 in
theorem gX7_spin_X7_findsSpin : GoodIn wsX7_spin (wsV RX7 178 RX7 yX7_findsSpin wsX7_findsSpin) := goodIn_app (goodIn_of _ (by decide +kernel)) ggX7_spin_X7_findsSpin
set_option maxRecDepth 20000 in
theorem ggX7_spin_X7_bits : GoodIn wsX7_spin wsX7_bits := goodIn_r _ [38] (by decide +kernel) (by decide +kernel)
set_option maxRecDepth 20000 in
theorem gX7_spin_X7_bits : GoodIn wsX7_spin (va_wsS RX7 78 yX7_bits wsX7_bits) := goodIn_app (goodIn_of _ (by decide +kernel)) ggX7_spin_X7_bits
theorem dX7_spin_0 : decode cX7_spin 0 = .ok (.iload_n 1, 1) := by decide +kernel
theorem dX7_spin_1 : decode cX7_spin 1 = .ok (.iconst 0, 1) := by decide +kernel
theorem dX7_spin_2 : decode cX7_spin 2 = .ok (.iconst 3, 1) := by decide +kernel
theorem dX7_spin_3 : decode cX7_spin 3 = .ok (.invokestatic 38, 3) := by decide +kernel
theorem dX7_spin_6 : decode cX7_spin 6 = .ok (.ifCond .ne 6, 3) := by decide +kernel
theorem dX7_spin_9 : decode cX7_spin 9 = .ok (.bipush (-2), 2) := by decide +kernel
theorem dX7_spin_11 : decode cX7_spin 11 = .ok (.ireturn, 1) := by decide +kernel
theorem dX7_spin_12 : decode cX7_spin 12 = .ok (.aload_n 0, 1) := by decide +kernel
theorem dX7_spin_13 : decode cX7_spin 13 = .ok (.invokevirtual 178, 3) := by decide +kernel
theorem dX7_spin_16 : decode cX7_spin 16 = .ok (.ifCond .ne 6, 3) := by decide +kernel
theorem dX7_spin_19 : decode cX7_spin 19 = .ok (.bipush (-4), 2) := by decide +kernel
theorem dX7_spin_21 : decode cX7_spin 21 = .ok (.ireturn, 1) := by decide +kernel
theorem dX7_spin_22 : decode cX7_spin 22 = .ok (.iload_n 1, 1) := by decide +kernel
theorem dX7_spin_23 : decode cX7_spin 23 = .ok (.ifCond .ne 14, 3) := by decide +kernel
theorem dX7_spin_26 : decode cX7_spin 26 = .ok (.aload_n 0, 1) := by decide +kernel
theorem dX7_spin_27 : decode cX7_spin 27 = .ok (.getfield 121, 3) := by decide +kernel
theorem dX7_spin_30 : decode cX7_spin 30 = .ok (.sipush 200, 3) := by decide +kernel
theorem dX7_spin_33 : decode cX7_spin 33 = .ok (.iadd, 1) := by decide +kernel
theorem dX7_spin_34 : decode cX7_spin 34 = .ok (.goto 34, 3) := by decide +kernel
theorem dX7_spin_37 : decode cX7_spin 37 = .ok (.iload_n 1, 1) := by decide +kernel
theorem dX7_spin_38 : decode cX7_spin 38 = .ok (.iconst 1, 1) := by decide +kernel
theorem dX7_spin_39 : decode cX7_spin 39 = .ok (.if_icmp .ne 10, 3) := by decide +kernel
theorem dX7_spin_42 : decode cX7_spin 42 = .ok (.aload_n 0, 1) := by decide +kernel
theorem dX7_spin_43 : decode cX7_spin 43 = .ok (.getfield 124, 3) := by decide +kernel
theorem dX7_spin_46 : decode cX7_spin 46 = .ok (.goto 22, 3) := by decide +kernel
theorem dX7_spin_49 : decode cX7_spin 49 = .ok (.iload_n 1, 1) := by decide +kernel
theorem dX7_spin_50 : decode cX7_spin 50 = .ok (.iconst 2, 1) := by decide +kernel
theorem dX7_spin_51 : decode cX7_spin 51 = .ok (.if_icmp .ne 13, 3) := by decide +kernel
theorem dX7_spin_54 : decode cX7_spin 54 = .ok (.aload_n 0, 1) := by decide +kernel
theorem dX7_spin_55 : decode cX7_spin 55 = .ok (.getfield 127, 3) := by decide +kernel
theorem dX7_spin_58 : decode cX7_spin 58 = .ok (.invokestatic 78, 3) := by decide +kernel
theorem dX7_spin_61 : decode cX7_spin 61 = .ok (.goto 7, 3) := by decide +kernel
theorem dX7_spin_64 : decode cX7_spin 64 = .ok (.aload_n 0, 1) := by decide +kernel
theorem dX7_spin_65 : decode cX7_spin 65 = .ok (.getfield 127, 3) := by decide +kernel
theorem dX7_spin_68 : decode cX7_spin 68 = .ok (.ireturn, 1) := by decide +kernel
set_option maxRecDepth 20000 in
theorem ggX7_fits_X7_in : GoodIn wsX7_fits wsX7_in := goodIn_r _ [4] (by decide +kernel) (by decide +kernel)
set_option maxRecDepth 20000 in
theorem gX7_fits_X7_in : GoodIn wsX7_fits (va_wsS RX7 38 yX7_in wsX7_in) := goodIn_app (goodIn_of _ (by decide +kernel)) ggX7_fits_X7_in
set_option maxRecDepth 20000 in
theorem ggX7_fits_X7_fitted : GoodIn wsX7_fits wsX7_fitted := goodIn_r _ [8, 9, 10, 11, 12, 3, 13, 14, 15, 16, 17, 18, 19, 20, 21, 22, 23, 24, 25, 26, 27, 28, 32, 33, 34, 35, 36, 37, 38, 39, 40, 41, 42, 43, 44, 45, 46, 47, 48, 49, 50] (by decide +kernel) (by decide +kernel)
set_option maxRecDepth 20000 in
theorem gX7_fits_X7_fitted : GoodIn wsX7_fits (wsV RX7 118 RX7 yX7_fitted wsX7_fitted) := goodIn_app (goodIn_of _ (by decide +kernel)) ggX7_fits_X7_fitted
set_option maxRecDepth 20000 in
theorem ggX7_fits_X7_bits : GoodIn wsX7_fits wsX7_bits := goodIn_r _ [31] (by decide +kernel) (by decide +kernel)
set_option maxRecDepth 20000 in
theorem gX7_fits_X7_bits : GoodIn wsX7_fits (va_wsS RX7 78 yX7_bits wsX7_bits) := goodIn_app (goodIn_of _ (by decide +kernel)) ggX7_fits_X7_bits
theorem dX7_fits_0 : decode cX7_fits 0 = .ok (.iload_n 1, 1) := by decide +kernel
theorem dX7_fits_1 : decode cX7_fits 1 = .ok (.sipush (-179), 3) := by decide +kernel
theorem dX7_fits_4 : decode cX7_fits 4 = .ok (.sipush 180, 3) := by decide +kernel
theorem dX7_fits_7 : decode cX7_fits 7 = .ok (.invokestatic 38, 3) := by decide +kernel
theorem dX7_fits_10 : decode cX7_fits 10 = .ok (.ifCond .eq 26, 3) := by decide +kernel
theorem dX7_fits_13 : decode cX7_fits 13 = .ok (.iload_n 2, 1) := by decide +kernel
theorem dX7_fits_14 : decode cX7_fits 14 = .ok (.iconst 0, 1) := by decide +kernel
theorem dX7_fits_15 : decode cX7_fits 15 = .ok (.sipush 359, 3) := by decide +kernel
theorem dX7_fits_18 : decode cX7_fits 18 = .ok (.invokestatic 38, 3) := by decide +kernel
theorem dX7_fits_21 : decode cX7_fits 21 = .ok (.ifCond .eq 15, 3) := by decide +kernel
theorem dX7_fits_24 : decode cX7_fits 24 = .ok (.aload_n 0, 1) := by decide +kernel
theorem dX7_fits_25 : decode cX7_fits 25 = .ok (.iload_n 1, 1) := by decide +kernel
theorem dX7_fits_26 : decode cX7_fits 26 = .ok (.iload_n 2, 1) := by decide +kernel
theorem dX7_fits_27 : decode cX7_fits 27 = .ok (.invokevirtual 118, 3) := by decide +kernel
theorem dX7_fits_30 : decode cX7_fits 30 = .ok (.invokestatic 78, 3) := by decide +kernel
theorem dX7_fits_33 : decode cX7_fits 33 = .ok (.goto 5, 3) := by decide +kernel
theorem dX7_fits_36 : decode cX7_fits 36 = .ok (.bipush (-2), 2) := by decide +kernel
theorem dX7_fits_38 : decode cX7_fits 38 = .ok (.ireturn, 1) := by decide +kernel
set_option maxRecDepth 20000 in
theorem ggX7_angleAt_X7_in : GoodIn wsX7_angleAt wsX7_in := goodIn_r _ [6] (by decide +kernel) (by decide +kernel)
set_option maxRecDepth 20000 in
theorem gX7_angleAt_X7_in : GoodIn wsX7_angleAt (va_wsS RX7 38 yX7_in wsX7_in) := goodIn_app (goodIn_of _ (by decide +kernel)) ggX7_angleAt_X7_in
set_option maxRecDepth 20000 in
theorem ggX7_angleAt_X7_findsSpin : GoodIn wsX7_angleAt wsX7_findsSpin := goodIn_r _ [10, 11, 1, 2, 12, 13, 14, 15, 5, 16, 17, 18, 19, 20, 21, 22, 23, 24, 25, 26, 27, 28, 29, 30, 31, 32, 33, 34, 35, 36, 37, 38, 39, 40, 41, 42, 43, 44, 45, 46, 47, 48, 49, 50, 51, 52, 53, 54, 55, 56, 57] (by decide +kernel) (by decide +kernel)
set_option maxRecDepth 20000 in
theorem gX7_angleAt_X7_findsSpin : GoodIn wsX7_angleAt (wsV RX7 178 RX7 yX7_findsSpin wsX7_findsSpin) := goodIn_app (goodIn_of _ (by decide +kernel)) ggX7_angleAt_X7_findsSpin
set_option maxRecDepth 20000 in
theorem ggX7_angleAt_X7_angle : GoodIn wsX7_angleAt wsX7_angle := goodIn_r _ [35] (by decide +kernel) (by decide +kernel)
set_option maxRecDepth 20000 in
theorem gX7_angleAt_X7_angle : GoodIn wsX7_angleAt (va_wsS RX7 109 yX7_angle wsX7_angle) := goodIn_app (goodIn_of _ (by decide +kernel)) ggX7_angleAt_X7_angle
theorem dX7_angleAt_0 : decode cX7_angleAt 0 = .ok (.iload_n 1, 1) := by decide +kernel
theorem dX7_angleAt_1 : decode cX7_angleAt 1 = .ok (.iconst 0, 1) := by decide +kernel
theorem dX7_angleAt_2 : decode cX7_angleAt 2 = .ok (.bipush 99, 2) := by decide +kernel
theorem dX7_angleAt_4 : decode cX7_angleAt 4 = .ok (.invokestatic 38, 3) := by decide +kernel
theorem dX7_angleAt_7 : decode cX7_angleAt 7 = .ok (.ifCond .ne 6, 3) := by decide +kernel
theorem dX7_angleAt_10 : decode cX7_angleAt 10 = .ok (.bipush (-2), 2) := by decide +kernel
theorem dX7_angleAt_12 : decode cX7_angleAt 12 = .ok (.ireturn, 1) := by decide +kernel
theorem dX7_angleAt_13 : decode cX7_angleAt 13 = .ok (.aload_n 0, 1) := by decide +kernel
theorem dX7_angleAt_14 : decode cX7_angleAt 14 = .ok (.invokevirtual 178, 3) := by decide +kernel
theorem dX7_angleAt_17 : decode cX7_angleAt 17 = .ok (.ifCond .eq 18, 3) := by decide +kernel
theorem dX7_angleAt_20 : decode cX7_angleAt 20 = .ok (.aload_n 0, 1) := by decide +kernel
theorem dX7_angleAt_21 : decode cX7_angleAt 21 = .ok (.getfield 121, 3) := by decide +kernel
theorem dX7_angleAt_24 : decode cX7_angleAt 24 = .ok (.aload_n 0, 1) := by decide +kernel
theorem dX7_angleAt_25 : decode cX7_angleAt 25 = .ok (.getfield 124, 3) := by decide +kernel
theorem dX7_angleAt_28 : decode cX7_angleAt 28 = .ok (.iload_n 1, 1) := by decide +kernel
theorem dX7_angleAt_29 : decode cX7_angleAt 29 = .ok (.invokestatic 109, 3) := by decide +kernel
theorem dX7_angleAt_32 : decode cX7_angleAt 32 = .ok (.goto 5, 3) := by decide +kernel
theorem dX7_angleAt_35 : decode cX7_angleAt 35 = .ok (.bipush (-4), 2) := by decide +kernel
theorem dX7_angleAt_37 : decode cX7_angleAt 37 = .ok (.ireturn, 1) := by decide +kernel
set_option maxRecDepth 20000 in
theorem ggX7_withAngle_X7_hasAngle : GoodIn wsX7_withAngle wsX7_hasAngle := goodIn_r _ [6, 7, 8, 9, 5, 10, 11, 12, 13, 14, 1, 15, 16, 17, 18, 19, 20, 21, 22, 23, 24, 25, 26, 27, 28, 29, 30, 31, 32, 33] (by decide +kernel) (by decide +kernel)
set_option maxRecDepth 20000 in
theorem gX7_withAngle_X7_hasAngle : GoodIn wsX7_withAngle (wsV RX7 112 RX7 yX7_hasAngle wsX7_hasAngle) := goodIn_app (goodIn_of _ (by decide +kernel)) ggX7_withAngle_X7_hasAngle
theorem dX7_withAngle_0 : decode cX7_withAngle 0 = .ok (.iconst 0, 1) := by decide +kernel
theorem dX7_withAngle_1 : decode cX7_withAngle 1 = .ok (.istore_n 1, 1) := by decide +kernel
theorem dX7_withAngle_2 : decode cX7_withAngle 2 = .ok (.iconst 0, 1) := by decide +kernel
theorem dX7_withAngle_3 : decode cX7_withAngle 3 = .ok (.istore_n 2, 1) := by decide +kernel
theorem dX7_withAngle_4 : decode cX7_withAngle 4 = .ok (.iload_n 2, 1) := by decide +kernel
theorem dX7_withAngle_5 : decode cX7_withAngle 5 = .ok (.aload_n 0, 1) := by decide +kernel
theorem dX7_withAngle_6 : decode cX7_withAngle 6 = .ok (.getfield 7, 3) := by decide +kernel
theorem dX7_withAngle_9 : decode cX7_withAngle 9 = .ok (.bipush 70, 2) := by decide +kernel
theorem dX7_withAngle_11 : decode cX7_withAngle 11 = .ok (.iaload, 1) := by decide +kernel
theorem dX7_withAngle_12 : decode cX7_withAngle 12 = .ok (.if_icmp .ge 27, 3) := by decide +kernel
theorem dX7_withAngle_15 : decode cX7_withAngle 15 = .ok (.iload_n 1, 1) := by decide +kernel
theorem dX7_withAngle_16 : decode cX7_withAngle 16 = .ok (.aload_n 0, 1) := by decide +kernel
theorem dX7_withAngle_17 : decode cX7_withAngle 17 = .ok (.iload_n 2, 1) := by decide +kernel
theorem dX7_withAngle_18 : decode cX7_withAngle 18 = .ok (.invokevirtual 112, 3) := by decide +kernel
theorem dX7_withAngle_21 : decode cX7_withAngle 21 = .ok (.ifCond .eq 9, 3) := by decide +kernel
theorem dX7_withAngle_24 : decode cX7_withAngle 24 = .ok (.iconst 1, 1) := by decide +kernel
theorem dX7_withAngle_25 : decode cX7_withAngle 25 = .ok (.iload_n 2, 1) := by decide +kernel
theorem dX7_withAngle_26 : decode cX7_withAngle 26 = .ok (.ishl, 1) := by decide +kernel
theorem dX7_withAngle_27 : decode cX7_withAngle 27 = .ok (.goto 4, 3) := by decide +kernel
theorem dX7_withAngle_30 : decode cX7_withAngle 30 = .ok (.iconst 0, 1) := by decide +kernel
theorem dX7_withAngle_31 : decode cX7_withAngle 31 = .ok (.ior, 1) := by decide +kernel
theorem dX7_withAngle_32 : decode cX7_withAngle 32 = .ok (.istore_n 1, 1) := by decide +kernel
theorem dX7_withAngle_33 : decode cX7_withAngle 33 = .ok (.iinc 2 1, 3) := by decide +kernel
theorem dX7_withAngle_36 : decode cX7_withAngle 36 = .ok (.goto (-32), 3) := by decide +kernel
theorem dX7_withAngle_39 : decode cX7_withAngle 39 = .ok (.iload_n 1, 1) := by decide +kernel
theorem dX7_withAngle_40 : decode cX7_withAngle 40 = .ok (.ireturn, 1) := by decide +kernel
set_option maxRecDepth 20000 in
theorem ggX7_count_X7_usable : GoodIn wsX7_count wsX7_usable := goodIn_r _ [9, 1, 10, 11, 12, 8, 13, 14, 15, 16, 17, 73, 74, 75, 76, 77, 78, 79, 80, 81, 82, 83, 84, 85, 86, 87, 88, 89, 90, 91] (by decide +kernel) (by decide +kernel)
set_option maxRecDepth 20000 in
theorem gX7_count_X7_usable : GoodIn wsX7_count (wsV RX7 85 RX7 yX7_usable wsX7_usable) := goodIn_app (goodIn_of _ (by decide +kernel)) ggX7_count_X7_usable
set_option maxRecDepth 20000 in
theorem ggX7_count_X7_withAngle : GoodIn wsX7_count wsX7_withAngle := goodIn_r _ [21, 1, 22, 23, 24, 8, 25, 10, 11, 12, 13, 14, 15, 16, 17, 73, 74, 75, 76, 77, 78, 79, 80, 81, 82, 83, 84, 85, 86, 87, 88, 89, 90, 91] (by decide +kernel) (by decide +kernel)
set_option maxRecDepth 20000 in
theorem gX7_count_X7_withAngle : GoodIn wsX7_count (wsV RX7 201 RX7 yX7_withAngle wsX7_withAngle) := goodIn_app (goodIn_of _ (by decide +kernel)) ggX7_count_X7_withAngle
set_option maxRecDepth 20000 in
theorem ggX7_count_X7_findsTrack : GoodIn wsX7_count wsX7_findsTrack := goodIn_r _ [29, 2, 30, 31, 32, 33, 34, 8, 35, 1, 36, 10, 11, 12, 13, 14, 15, 16, 17, 37, 38, 39, 40, 41, 42, 43, 44, 45, 46, 47, 48, 49, 50, 51, 52, 53, 54, 55, 56, 57, 58, 59, 60, 61, 62, 63, 64, 65, 66, 67, 68, 69, 70, 71, 72, 73, 74, 75, 76, 77, 78, 79, 80, 81, 82, 83, 84, 85, 86, 87, 88, 89, 90, 91] (by decide +kernel) (by decide +kernel)
set_option maxRecDepth 20000 in
theorem gX7_count_X7_findsTrack : GoodIn wsX7_count (wsV RX7 198 RX7 yX7_findsTrack wsX7_findsTrack) := goodIn_app (goodIn_of _ (by decide +kernel)) ggX7_count_X7_findsTrack
theorem dX7_count_0 : decode cX7_count 0 = .ok (.iload_n 1, 1) := by decide +kernel
theorem dX7_count_1 : decode cX7_count 1 = .ok (.tableswitch 78 0 5 #[39, 47, 52, 57, 68, 73], 39) := by decide +kernel
theorem dX7_count_40 : decode cX7_count 40 = .ok (.aload_n 0, 1) := by decide +kernel
theorem dX7_count_41 : decode cX7_count 41 = .ok (.getfield 7, 3) := by decide +kernel
theorem dX7_count_44 : decode cX7_count 44 = .ok (.bipush 70, 2) := by decide +kernel
theorem dX7_count_46 : decode cX7_count 46 = .ok (.iaload, 1) := by decide +kernel
theorem dX7_count_47 : decode cX7_count 47 = .ok (.ireturn, 1) := by decide +kernel
theorem dX7_count_48 : decode cX7_count 48 = .ok (.aload_n 0, 1) := by decide +kernel
theorem dX7_count_49 : decode cX7_count 49 = .ok (.invokevirtual 85, 3) := by decide +kernel
theorem dX7_count_52 : decode cX7_count 52 = .ok (.ireturn, 1) := by decide +kernel
theorem dX7_count_53 : decode cX7_count 53 = .ok (.aload_n 0, 1) := by decide +kernel
theorem dX7_count_54 : decode cX7_count 54 = .ok (.invokevirtual 201, 3) := by decide +kernel
theorem dX7_count_57 : decode cX7_count 57 = .ok (.ireturn, 1) := by decide +kernel
theorem dX7_count_58 : decode cX7_count 58 = .ok (.aload_n 0, 1) := by decide +kernel
theorem dX7_count_59 : decode cX7_count 59 = .ok (.invokevirtual 198, 3) := by decide +kernel
theorem dX7_count_62 : decode cX7_count 62 = .ok (.aload_n 0, 1) := by decide +kernel
theorem dX7_count_63 : decode cX7_count 63 = .ok (.getfield 22, 3) := by decide +kernel
theorem dX7_count_66 : decode cX7_count 66 = .ok (.iconst 0, 1) := by decide +kernel
theorem dX7_count_67 : decode cX7_count 67 = .ok (.iaload, 1) := by decide +kernel
theorem dX7_count_68 : decode cX7_count 68 = .ok (.ireturn, 1) := by decide +kernel
theorem dX7_count_69 : decode cX7_count 69 = .ok (.aload_n 0, 1) := by decide +kernel
theorem dX7_count_70 : decode cX7_count 70 = .ok (.getfield 50, 3) := by decide +kernel
theorem dX7_count_73 : decode cX7_count 73 = .ok (.ireturn, 1) := by decide +kernel
theorem dX7_count_74 : decode cX7_count 74 = .ok (.aload_n 0, 1) := by decide +kernel
theorem dX7_count_75 : decode cX7_count 75 = .ok (.getfield 149, 3) := by decide +kernel
theorem dX7_count_78 : decode cX7_count 78 = .ok (.ireturn, 1) := by decide +kernel
theorem dX7_count_79 : decode cX7_count 79 = .ok (.bipush (-2), 2) := by decide +kernel
theorem dX7_count_81 : decode cX7_count 81 = .ok (.ireturn, 1) := by decide +kernel
set_option maxRecDepth 20000 in
theorem ggL_law_X6_init : GoodIn wsL_law wsX6_init := goodIn_r _ [8, 9, 10, 11, 12, 13, 14, 15, 16, 17, 18, 19, 20, 21, 22, 23, 24, 25, 26, 27, 28, 29, 30, 31, 32, 33, 34, 35, 36, 37, 38, 39, 40, 41, 42, 43, 44, 45, 46, 47, 48, 49, 50, 51, 52, 53, 54, 55, 56, 57, 58, 59, 60, 61, 62, 63, 64, 65, 66, 67, 68, 69, 70, 71, 72, 746, 747, 718, 719, 720, 721, 722, 723, 724, 725, 726, 748, 749, 750, 751, 752, 753, 754, 755, 756, 757, 758, 759, 760, 761, 762, 763, 764, 765] (by decide +kernel) (by decide +kernel)
set_option maxRecDepth 20000 in
theorem gL_law_X6_init : GoodIn wsL_law (wsX6_init) := ggL_law_X6_init
set_option maxRecDepth 20000 in
theorem ggL_law_X7_init : GoodIn wsL_law wsX7_init := goodIn_r _ [75, 76, 10, 11, 25, 77, 78, 79, 80, 81, 82, 83, 53, 84, 85, 727, 728, 729, 730, 731, 732, 733, 734, 735, 736, 737, 738, 739, 740, 741, 742, 743, 744, 745] (by decide +kernel) (by decide +kernel)
set_option maxRecDepth 20000 in
theorem gL_law_X7_init : GoodIn wsL_law (wsX7_init) := ggL_law_X7_init
set_option maxRecDepth 20000 in
theorem ggL_law_X6_addPhoto : GoodIn wsL_law wsX6_addPhoto := goodIn_r _ [89, 26, 90, 91, 92, 2, 93, 94, 95, 96, 97, 98, 99, 100, 15, 101, 102, 20, 103, 104, 105, 14, 106, 107, 43, 108, 109, 110, 19, 111, 112, 49, 113, 114, 115, 116, 117, 118, 119, 120, 121, 122, 123, 124, 125, 126, 127, 128, 718, 719, 720, 721, 722, 723, 724, 725, 726, 746, 747, 748, 749] (by decide +kernel) (by decide +kernel)
set_option maxRecDepth 20000 in
theorem gL_law_X6_addPhoto : GoodIn wsL_law (wsV RL 13 RX6 yX6_addPhoto wsX6_addPhoto) := goodIn_app (goodIn_of _ (by decide +kernel)) ggL_law_X6_addPhoto
set_option maxRecDepth 20000 in
theorem ggL_law_X7_addPhoto : GoodIn wsL_law wsX7_addPhoto := goodIn_r _ [132, 133, 134, 5, 135, 136, 137, 138, 139, 140, 141, 142, 77, 143, 144, 145, 146, 147, 148, 149, 150, 151, 152, 153, 154, 155, 78, 727, 728, 729, 730, 731, 732, 733, 734, 735, 736, 737, 738, 739, 740, 741, 742, 743, 744, 745] (by decide +kernel) (by decide +kernel)
set_option maxRecDepth 20000 in
theorem gL_law_X7_addPhoto : GoodIn wsL_law (wsV RL 17 RX7 yX7_addPhoto wsX7_addPhoto) := goodIn_app (goodIn_of _ (by decide +kernel)) ggL_law_X7_addPhoto
set_option maxRecDepth 20000 in
theorem ggL_law_X6_readPhoto : GoodIn wsL_law wsX6_readPhoto := goodIn_r _ [159, 24, 26, 160, 161, 162, 163, 164, 23, 165, 166, 167, 168, 169, 170, 171, 172, 173, 174, 175, 176, 54, 177, 178, 179, 180, 181, 182, 183, 184, 185, 186, 187, 188, 90, 91, 92, 2, 93, 94, 95, 96, 97, 98, 99, 100, 15, 101, 102, 20, 103, 104, 105, 14, 106, 107, 43, 108, 109, 110, 19, 111, 112, 49, 113, 114, 115, 116, 117, 118, 119, 120, 121, 122, 123, 124, 125, 126, 127, 128, 718, 719, 720, 721, 722, 723, 724, 725, 726, 750, 751, 752, 753, 746, 747, 748, 749] (by decide +kernel) (by decide +kernel)
set_option maxRecDepth 20000 in
theorem gL_law_X6_readPhoto : GoodIn wsL_law (wsV RL 18 RX6 yX6_readPhoto wsX6_readPhoto) := goodIn_app (goodIn_of _ (by decide +kernel)) ggL_law_X6_readPhoto
set_option maxRecDepth 20000 in
theorem ggL_law_X7_readPhoto : GoodIn wsL_law wsX7_readPhoto := goodIn_r _ [192, 193, 85, 194, 195, 196, 5, 197, 198, 199, 200, 201, 202, 203, 84, 204, 205, 206, 207, 208, 209, 210, 211, 136, 137, 138, 212, 213, 214, 215, 133, 134, 135, 139, 140, 141, 142, 77, 143, 144, 145, 146, 147, 148, 149, 150, 151, 152, 153, 154, 155, 78, 727, 728, 729, 730, 731, 732, 733, 734, 735, 736, 737, 738, 739, 740, 741, 742, 743, 744, 745] (by decide +kernel) (by decide +kernel)
set_option maxRecDepth 20000 in
theorem gL_law_X7_readPhoto : GoodIn wsL_law (wsV RL 22 RX7 yX7_readPhoto wsX7_readPhoto) := goodIn_app (goodIn_of _ (by decide +kernel)) ggL_law_X7_readPhoto
set_option maxRecDepth 20000 in
theorem ggL_law_X6_setAngle : GoodIn wsL_law wsX6_setAngle := goodIn_r _ [219, 15, 102, 20, 220, 221, 222, 14, 223, 107, 94, 95, 2, 96, 108, 109, 110, 19, 111, 112, 49, 113, 114, 115, 116, 117, 118, 119, 120, 43, 121, 122, 123, 124, 718, 719, 720, 721, 722, 723, 724, 725, 726, 746, 747, 748, 749] (by decide +kernel) (by decide +kernel)
set_option maxRecDepth 20000 in
theorem gL_law_X6_setAngle : GoodIn wsL_law (wsV RL 23 RX6 yX6_setAngle wsX6_setAngle) := goodIn_app (goodIn_of _ (by decide +kernel)) ggL_law_X6_setAngle
set_option maxRecDepth 20000 in
theorem ggL_law_X7_setAngle : GoodIn wsL_law wsX7_setAngle := goodIn_r _ [227, 77, 228, 229, 230, 5, 231, 136, 137, 138, 147, 148, 149, 150, 151, 152, 153, 154, 155, 78, 727, 728, 729, 730, 731, 732, 733, 734, 735, 736, 737, 738, 739, 740, 741, 742, 743, 744, 745] (by decide +kernel) (by decide +kernel)
set_option maxRecDepth 20000 in
theorem gL_law_X7_setAngle : GoodIn wsL_law (wsV RL 27 RX7 yX7_setAngle wsX7_setAngle) := goodIn_app (goodIn_of _ (by decide +kernel)) ggL_law_X7_setAngle
set_option maxRecDepth 20000 in
theorem ggL_law_X6_move : GoodIn wsL_law wsX6_move := goodIn_r _ [235, 15, 102, 20, 220, 221, 222, 14, 223, 107, 94, 95, 2, 96, 108, 109, 110, 19, 111, 112, 49, 113, 114, 115, 116, 117, 118, 119, 120, 43, 121, 122, 123, 124, 236, 237, 238, 239, 30, 240, 241, 242, 243, 244, 245, 246, 247, 248, 249, 250, 29, 251, 59, 252, 253, 254, 255, 256, 257, 258, 259, 260, 261, 262, 263, 264, 265, 266, 267, 268, 269, 270, 271, 272, 273, 274, 275, 276, 277, 278, 279, 280, 281, 282, 283, 284, 285, 286, 287, 288, 289, 290, 291, 718, 719, 720, 721, 722, 723, 724, 725, 726, 746, 747, 748, 749, 754, 755, 756, 757] (by decide +kernel) (by decide +kernel)
set_option maxRecDepth 20000 in
theorem gL_law_X6_move : GoodIn wsL_law (wsV RL 28 RX6 yX6_move wsX6_move) := goodIn_app (goodIn_of _ (by decide +kernel)) ggL_law_X6_move
set_option maxRecDepth 20000 in
theorem ggL_law_X7_move : GoodIn wsL_law wsX7_move := goodIn_r _ [295, 77, 228, 229, 230, 5, 231, 136, 137, 138, 147, 148, 149, 150, 151, 152, 153, 154, 155, 78, 296, 297, 298, 299, 300, 301, 302, 303, 304, 305, 306, 307, 308, 309, 310, 311, 312, 313, 314, 315, 316, 80, 317, 318, 319, 320, 321, 322, 323, 324, 325, 326, 327, 328, 329, 330, 331, 332, 333, 334, 335, 336, 337, 338, 727, 728, 729, 730, 731, 732, 733, 734, 735, 736, 737, 738, 739, 740, 741, 742, 743, 744, 745] (by decide +kernel) (by decide +kernel)
set_option maxRecDepth 20000 in
theorem gL_law_X7_move : GoodIn wsL_law (wsV RL 31 RX7 yX7_move wsX7_move) := goodIn_app (goodIn_of _ (by decide +kernel)) ggL_law_X7_move
set_option maxRecDepth 20000 in
theorem ggL_law_X6_setAside : GoodIn wsL_law wsX6_setAside := goodIn_r _ [342, 15, 20, 102, 220, 221, 222, 14, 223, 107, 343, 245, 246, 247, 43, 108, 109, 110, 19, 111, 112, 49, 113, 114, 115, 116, 117, 118, 119, 120, 121, 122, 123, 124, 240, 241, 242, 243, 244, 291, 280, 281, 282, 283, 284, 285, 718, 719, 720, 721, 722, 723, 724, 725, 726, 746, 747, 748, 749] (by decide +kernel) (by decide +kernel)
set_option maxRecDepth 20000 in
theorem gL_law_X6_setAside : GoodIn wsL_law (wsV RL 32 RX6 yX6_setAside wsX6_setAside) := goodIn_app (goodIn_of _ (by decide +kernel)) ggL_law_X6_setAside
set_option maxRecDepth 20000 in
theorem ggL_law_X7_setAside : GoodIn wsL_law wsX7_setAside := goodIn_r _ [347, 77, 228, 229, 230, 5, 231, 136, 137, 138, 309, 310, 311, 312, 147, 148, 149, 150, 151, 152, 153, 154, 155, 78, 305, 306, 307, 308, 336, 337, 338, 727, 728, 729, 730, 731, 732, 733, 734, 735, 736, 737, 738, 739, 740, 741, 742, 743, 744, 745] (by decide +kernel) (by decide +kernel)
set_option maxRecDepth 20000 in
theorem gL_law_X7_setAside : GoodIn wsL_law (wsV RL 36 RX7 yX7_setAside wsX7_setAside) := goodIn_app (goodIn_of _ (by decide +kernel)) ggL_law_X7_setAside
set_option maxRecDepth 20000 in
theorem ggL_law_X6_dropMissed : GoodIn wsL_law wsX6_dropMissed := goodIn_r _ [351, 15, 30, 20, 101, 102, 240, 241, 242, 14, 243, 107, 244, 245, 246, 247, 43, 248, 249, 250, 29, 251, 59, 252, 253, 254, 255, 256, 257, 258, 259, 260, 261, 262, 263, 264, 265, 266, 267, 268, 269, 270, 271, 272, 273, 2, 274, 275, 276, 277, 278, 279, 280, 281, 282, 283, 284, 285, 286, 287, 288, 289, 290, 108, 109, 110, 19, 111, 112, 49, 113, 114, 115, 116, 117, 118, 119, 120, 121, 122, 123, 124, 352, 291, 718, 719, 720, 721, 722, 723, 724, 725, 726, 746, 747, 754, 755, 756, 757, 748, 749] (by decide +kernel) (by decide +kernel)
set_option maxRecDepth 20000 in
theorem gL_law_X6_dropMissed : GoodIn wsL_law (wsV RL 37 RX6 yX6_dropMissed wsX6_dropMissed) := goodIn_app (goodIn_of _ (by decide +kernel)) ggL_law_X6_dropMissed
set_option maxRecDepth 20000 in
theorem ggL_law_X7_dropMissed : GoodIn wsL_law wsX7_dropMissed := goodIn_r _ [356, 77, 301, 302, 303, 5, 304, 305, 306, 307, 308, 309, 310, 311, 312, 147, 148, 149, 150, 313, 314, 315, 316, 80, 300, 317, 318, 319, 320, 321, 322, 323, 324, 325, 326, 327, 328, 329, 330, 331, 332, 333, 334, 335, 336, 337, 338, 296, 297, 298, 299, 151, 152, 153, 154, 155, 78, 727, 728, 729, 730, 731, 732, 733, 734, 735, 736, 737, 738, 739, 740, 741, 742, 743, 744, 745] (by decide +kernel) (by decide +kernel)
set_option maxRecDepth 20000 in
theorem gL_law_X7_dropMissed : GoodIn wsL_law (wsV RL 40 RX7 yX7_dropMissed wsX7_dropMissed) := goodIn_app (goodIn_of _ (by decide +kernel)) ggL_law_X7_dropMissed
set_option maxRecDepth 20000 in
theorem ggL_law_X6_remove : GoodIn wsL_law wsX6_remove := goodIn_r _ [360, 15, 20, 101, 220, 221, 222, 14, 223, 107, 108, 109, 110, 19, 111, 112, 49, 113, 114, 115, 116, 117, 118, 119, 120, 43, 121, 122, 123, 124, 361, 362, 363, 364, 365, 718, 719, 720, 721, 722, 723, 724, 725, 726, 746, 747, 748, 749] (by decide +kernel) (by decide +kernel)
set_option maxRecDepth 20000 in
theorem gL_law_X6_remove : GoodIn wsL_law (wsV RL 41 RX6 yX6_remove wsX6_remove) := goodIn_app (goodIn_of _ (by decide +kernel)) ggL_law_X6_remove
set_option maxRecDepth 20000 in
theorem ggL_law_X7_remove : GoodIn wsL_law wsX7_remove := goodIn_r _ [369, 77, 228, 229, 230, 5, 231, 136, 137, 138, 151, 152, 153, 154, 155, 78, 727, 728, 729, 730, 731, 732, 733, 734, 735, 736, 737, 738, 739, 740, 741, 742, 743, 744, 745] (by decide +kernel) (by decide +kernel)
set_option maxRecDepth 20000 in
theorem gL_law_X7_remove : GoodIn wsL_law (wsV RL 45 RX7 yX7_remove wsX7_remove) := goodIn_app (goodIn_of _ (by decide +kernel)) ggL_law_X7_remove
set_option maxRecDepth 20000 in
theorem ggL_law_X6_type : GoodIn wsL_law wsX6_type := goodIn_r _ [373, 24, 374, 375, 376, 377, 23, 378, 168, 54, 718, 719, 720, 721, 722, 723, 724, 725, 726, 750, 751, 752, 753] (by decide +kernel) (by decide +kernel)
set_option maxRecDepth 20000 in
theorem gL_law_X6_type : GoodIn wsL_law (wsV RL 46 RX6 yX6_type wsX6_type) := goodIn_app (goodIn_of _ (by decide +kernel)) ggL_law_X6_type
set_option maxRecDepth 20000 in
theorem ggL_law_X7_type : GoodIn wsL_law wsX7_type := goodIn_r _ [382, 199, 84, 727, 728, 729, 730, 731, 732, 733, 734, 735, 736, 737, 738, 739, 740, 741, 742, 743, 744, 745] (by decide +kernel) (by decide +kernel)
set_option maxRecDepth 20000 in
theorem gL_law_X7_type : GoodIn wsL_law (wsV RL 50 RX7 yX7_type wsX7_type) := goodIn_app (goodIn_of _ (by decide +kernel)) ggL_law_X7_type
set_option maxRecDepth 20000 in
theorem ggL_law_X6_clearText : GoodIn wsL_law wsX6_clearText := goodIn_r _ [386, 24, 374, 718, 719, 720, 721, 722, 723, 724, 725, 726, 750, 751, 752, 753] (by decide +kernel) (by decide +kernel)
set_option maxRecDepth 20000 in
theorem gL_law_X6_clearText : GoodIn wsL_law (wsV RL 51 RX6 yX6_clearText wsX6_clearText) := goodIn_app (goodIn_of _ (by decide +kernel)) ggL_law_X6_clearText
set_option maxRecDepth 20000 in
theorem ggL_law_X7_clearText : GoodIn wsL_law wsX7_clearText := goodIn_r _ [390, 199, 727, 728, 729, 730, 731, 732, 733, 734, 735, 736, 737, 738, 739, 740, 741, 742, 743, 744, 745] (by decide +kernel) (by decide +kernel)
set_option maxRecDepth 20000 in
theorem gL_law_X7_clearText : GoodIn wsL_law (wsV RL 54 RX7 yX7_clearText wsX7_clearText) := goodIn_app (goodIn_of _ (by decide +kernel)) ggL_law_X7_clearText
set_option maxRecDepth 20000 in
theorem ggL_law_X6_undo : GoodIn wsL_law wsX6_undo := goodIn_r _ [394, 20, 15, 395, 396, 397, 398, 19, 399, 112, 49, 117, 118, 119, 14, 120, 43, 121, 122, 123, 124, 107, 718, 719, 720, 721, 722, 723, 724, 725, 726, 748, 749, 746, 747] (by decide +kernel) (by decide +kernel)
set_option maxRecDepth 20000 in
theorem gL_law_X6_undo : GoodIn wsL_law (wsV RL 55 RX6 yX6_undo wsX6_undo) := goodIn_app (goodIn_of _ (by decide +kernel)) ggL_law_X6_undo
set_option maxRecDepth 20000 in
theorem ggL_law_X7_undo : GoodIn wsL_law wsX7_undo := goodIn_r _ [403, 155, 77, 78, 727, 728, 729, 730, 731, 732, 733, 734, 735, 736, 737, 738, 739, 740, 741, 742, 743, 744, 745] (by decide +kernel) (by decide +kernel)
set_option maxRecDepth 20000 in
theorem gL_law_X7_undo : GoodIn wsL_law (wsV RL 58 RX7 yX7_undo wsX7_undo) := goodIn_app (goodIn_of _ (by decide +kernel)) ggL_law_X7_undo
set_option maxRecDepth 20000 in
theorem ggL_law_X6_keep : GoodIn wsL_law wsX6_keep := goodIn_r _ [407, 16, 15, 408, 101, 409, 118, 119, 14, 120, 43, 121, 122, 123, 124, 107, 718, 719, 720, 721, 722, 723, 724, 725, 726, 746, 747] (by decide +kernel) (by decide +kernel)
set_option maxRecDepth 20000 in
theorem gL_law_X6_keep : GoodIn wsL_law (wsV RL 59 RX6 yX6_keep wsX6_keep) := goodIn_app (goodIn_of _ (by decide +kernel)) ggL_law_X6_keep
set_option maxRecDepth 20000 in
theorem ggL_law_X7_keep : GoodIn wsL_law wsX7_keep := goodIn_r _ [413, 79, 77, 414, 727, 728, 729, 730, 731, 732, 733, 734, 735, 736, 737, 738, 739, 740, 741, 742, 743, 744, 745] (by decide +kernel) (by decide +kernel)
set_option maxRecDepth 20000 in
theorem gL_law_X7_keep : GoodIn wsL_law (wsV RL 62 RX7 yX7_keep wsX7_keep) := goodIn_app (goodIn_of _ (by decide +kernel)) ggL_law_X7_keep
set_option maxRecDepth 20000 in
theorem ggL_law_X6_restore : GoodIn wsL_law wsX6_restore := goodIn_r _ [418, 408, 20, 15, 16, 101, 108, 109, 110, 19, 111, 112, 49, 113, 114, 115, 116, 117, 118, 119, 14, 120, 43, 121, 122, 123, 124, 107, 409, 718, 719, 720, 721, 722, 723, 724, 725, 726, 746, 747, 748, 749] (by decide +kernel) (by decide +kernel)
set_option maxRecDepth 20000 in
theorem gL_law_X6_restore : GoodIn wsL_law (wsV RL 63 RX6 yX6_restore wsX6_restore) := goodIn_app (goodIn_of _ (by decide +kernel)) ggL_law_X6_restore
set_option maxRecDepth 20000 in
theorem ggL_law_X7_restore : GoodIn wsL_law wsX7_restore := goodIn_r _ [422, 414, 77, 79, 151, 152, 153, 5, 154, 155, 78, 727, 728, 729, 730, 731, 732, 733, 734, 735, 736, 737, 738, 739, 740, 741, 742, 743, 744, 745] (by decide +kernel) (by decide +kernel)
set_option maxRecDepth 20000 in
theorem gL_law_X7_restore : GoodIn wsL_law (wsV RL 66 RX7 yX7_restore wsX7_restore) := goodIn_app (goodIn_of _ (by decide +kernel)) ggL_law_X7_restore
set_option maxRecDepth 20000 in
theorem ggL_law_X6_photo : GoodIn wsL_law wsX6_photo := goodIn_r _ [426, 15, 102, 38, 427, 220, 221, 222, 14, 223, 107, 94, 95, 2, 96, 428, 429, 430, 431, 43, 432, 433, 434, 435, 244, 245, 246, 247, 436, 437, 438, 439, 37, 440, 441, 442, 443, 72, 444, 445, 446, 447, 448, 449, 450, 451, 452, 453, 454, 455, 456, 457, 458, 459, 460, 461, 462, 463, 464, 465, 466, 467, 468, 469, 267, 470, 471, 472, 473, 474, 475, 476, 477, 478, 479, 480, 481, 280, 281, 282, 283, 284, 285, 352, 273, 274, 718, 719, 720, 721, 722, 723, 724, 725, 726, 746, 747, 762, 763, 764, 765] (by decide +kernel) (by decide +kernel)
set_option maxRecDepth 20000 in
theorem gL_law_X6_photo : GoodIn wsL_law (wsV RL 67 RX6 yX6_photo wsX6_photo) := goodIn_app (goodIn_of _ (by decide +kernel)) ggL_law_X6_photo
set_option maxRecDepth 20000 in
theorem ggL_law_X7_photo : GoodIn wsL_law wsX7_photo := goodIn_r _ [485, 486, 228, 229, 230, 5, 231, 77, 136, 137, 138, 147, 148, 149, 150, 487, 488, 489, 490, 309, 310, 311, 312, 491, 492, 493, 494, 495, 496, 497, 498, 499, 500, 501, 502, 503, 504, 505, 506, 507, 336, 337, 338, 727, 728, 729, 730, 731, 732, 733, 734, 735, 736, 737, 738, 739, 740, 741, 742, 743, 744, 745] (by decide +kernel) (by decide +kernel)
set_option maxRecDepth 20000 in
theorem gL_law_X7_photo : GoodIn wsL_law (wsV RL 71 RX7 yX7_photo wsX7_photo) := goodIn_app (goodIn_of _ (by decide +kernel)) ggL_law_X7_photo
set_option maxRecDepth 20000 in
theorem ggL_law_X6_arc : GoodIn wsL_law wsX6_arc := goodIn_r _ [511, 512, 513, 514, 30, 515, 516, 517, 2, 518, 15, 220, 221, 222, 14, 223, 107, 519, 520, 521, 522, 523, 524, 94, 95, 96, 525, 526, 527, 528, 343, 245, 246, 247, 43, 529, 530, 531, 532, 533, 472, 267, 473, 534, 535, 536, 537, 254, 255, 29, 256, 257, 258, 259, 538, 276, 277, 278, 59, 264, 539, 270, 271, 272, 540, 541, 542, 543, 266, 268, 544, 545, 546, 547, 548, 549, 550, 718, 719, 720, 721, 722, 723, 724, 725, 726, 746, 747, 754, 755, 756, 757] (by decide +kernel) (by decide +kernel)
set_option maxRecDepth 20000 in
theorem gL_law_X6_arc : GoodIn wsL_law (wsV RL 72 RX6 yX6_arc wsX6_arc) := goodIn_app (goodIn_of _ (by decide +kernel)) ggL_law_X6_arc
set_option maxRecDepth 20000 in
theorem ggL_law_X7_arc : GoodIn wsL_law wsX7_arc := goodIn_r _ [554, 555, 556, 557, 228, 229, 230, 5, 231, 77, 136, 137, 138, 558, 559, 560, 561, 562, 563, 564, 565, 566, 567, 568, 309, 310, 311, 312, 147, 148, 149, 150, 329, 330, 331, 332, 325, 326, 327, 328, 569, 570, 571, 572, 333, 334, 335, 727, 728, 729, 730, 731, 732, 733, 734, 735, 736, 737, 738, 739, 740, 741, 742, 743, 744, 745] (by decide +kernel) (by decide +kernel)
set_option maxRecDepth 20000 in
theorem gL_law_X7_arc : GoodIn wsL_law (wsV RL 76 RX7 yX7_arc wsX7_arc) := goodIn_app (goodIn_of _ (by decide +kernel)) ggL_law_X7_arc
set_option maxRecDepth 20000 in
theorem ggL_law_X6_hits : GoodIn wsL_law wsX6_hits := goodIn_r _ [576, 15, 30, 515, 516, 517, 2, 518, 220, 221, 222, 14, 223, 107, 519, 520, 521, 525, 526, 527, 528, 343, 245, 246, 247, 43, 529, 530, 531, 532, 533, 472, 267, 473, 534, 535, 536, 537, 254, 255, 29, 256, 257, 258, 259, 240, 241, 242, 243, 244, 290, 261, 262, 263, 59, 252, 264, 265, 266, 268, 269, 270, 271, 272, 273, 274, 275, 276, 277, 278, 718, 719, 720, 721, 722, 723, 724, 725, 726, 746, 747, 754, 755, 756, 757] (by decide +kernel) (by decide +kernel)
set_option maxRecDepth 20000 in
theorem gL_law_X6_hits : GoodIn wsL_law (wsV RL 77 RX6 yX6_hits wsX6_hits) := goodIn_app (goodIn_of _ (by decide +kernel)) ggL_law_X6_hits
set_option maxRecDepth 20000 in
theorem ggL_law_X7_hits : GoodIn wsL_law wsX7_hits := goodIn_r _ [580, 228, 229, 230, 5, 231, 77, 136, 137, 138, 561, 562, 563, 564, 565, 566, 567, 568, 309, 310, 311, 312, 147, 148, 149, 150, 317, 318, 319, 320, 321, 322, 323, 324, 325, 326, 327, 328, 329, 330, 331, 332, 333, 334, 335, 727, 728, 729, 730, 731, 732, 733, 734, 735, 736, 737, 738, 739, 740, 741, 742, 743, 744, 745] (by decide +kernel) (by decide +kernel)
set_option maxRecDepth 20000 in
theorem gL_law_X7_hits : GoodIn wsL_law (wsV RL 80 RX7 yX7_hits wsX7_hits) := goodIn_app (goodIn_of _ (by decide +kernel)) ggL_law_X7_hits
set_option maxRecDepth 20000 in
theorem ggL_law_X6_best : GoodIn wsL_law wsX6_best := goodIn_r _ [584, 15, 30, 94, 95, 2, 96, 240, 241, 242, 14, 243, 107, 244, 245, 246, 247, 43, 248, 249, 250, 29, 251, 59, 252, 253, 254, 255, 256, 257, 258, 259, 260, 261, 262, 263, 264, 265, 266, 267, 268, 269, 270, 271, 272, 273, 274, 275, 276, 277, 278, 279, 280, 281, 282, 283, 284, 285, 286, 287, 288, 289, 290, 291, 585, 586, 587, 588, 718, 719, 720, 721, 722, 723, 724, 725, 726, 746, 747, 754, 755, 756, 757] (by decide +kernel) (by decide +kernel)
set_option maxRecDepth 20000 in
theorem gL_law_X6_best : GoodIn wsL_law (wsV RL 81 RX6 yX6_best wsX6_best) := goodIn_app (goodIn_of _ (by decide +kernel)) ggL_law_X6_best
set_option maxRecDepth 20000 in
theorem ggL_law_X7_best : GoodIn wsL_law wsX7_best := goodIn_r _ [592, 80, 136, 137, 5, 138, 301, 302, 303, 304, 305, 306, 307, 308, 77, 309, 310, 311, 312, 147, 148, 149, 150, 313, 314, 315, 316, 300, 317, 318, 319, 320, 321, 322, 323, 324, 325, 326, 327, 328, 329, 330, 331, 332, 333, 334, 335, 336, 337, 338, 296, 297, 298, 299, 727, 728, 729, 730, 731, 732, 733, 734, 735, 736, 737, 738, 739, 740, 741, 742, 743, 744, 745] (by decide +kernel) (by decide +kernel)
set_option maxRecDepth 20000 in
theorem gL_law_X7_best : GoodIn wsL_law (wsV RL 84 RX7 yX7_best wsX7_best) := goodIn_app (goodIn_of _ (by decide +kernel)) ggL_law_X7_best
set_option maxRecDepth 20000 in
theorem ggL_law_X6_bestAt : GoodIn wsL_law wsX6_bestAt := goodIn_r _ [596, 513, 30, 15, 514, 522, 523, 2, 524, 94, 95, 96, 240, 241, 242, 14, 243, 107, 244, 245, 246, 247, 43, 248, 249, 250, 29, 251, 59, 252, 253, 254, 255, 256, 257, 258, 259, 260, 261, 262, 263, 264, 265, 266, 267, 268, 269, 270, 271, 272, 273, 274, 275, 276, 277, 278, 279, 280, 281, 282, 283, 284, 285, 286, 287, 288, 289, 538, 539, 540, 541, 542, 543, 544, 545, 546, 547, 548, 549, 550, 718, 719, 720, 721, 722, 723, 724, 725, 726, 746, 747, 754, 755, 756, 757] (by decide +kernel) (by decide +kernel)
set_option maxRecDepth 20000 in
theorem gL_law_X6_bestAt : GoodIn wsL_law (wsV RL 85 RX6 yX6_bestAt wsX6_bestAt) := goodIn_app (goodIn_of _ (by decide +kernel)) ggL_law_X6_bestAt
set_option maxRecDepth 20000 in
theorem ggL_law_X7_bestAt : GoodIn wsL_law wsX7_bestAt := goodIn_r _ [600, 556, 80, 557, 558, 559, 5, 560, 136, 137, 138, 301, 302, 303, 304, 305, 306, 307, 308, 77, 309, 310, 311, 312, 147, 148, 149, 150, 313, 314, 315, 316, 300, 317, 318, 319, 320, 321, 322, 323, 324, 325, 326, 327, 328, 329, 330, 331, 332, 333, 334, 335, 336, 337, 338, 569, 570, 571, 555, 572, 727, 728, 729, 730, 731, 732, 733, 734, 735, 736, 737, 738, 739, 740, 741, 742, 743, 744, 745] (by decide +kernel) (by decide +kernel)
set_option maxRecDepth 20000 in
theorem gL_law_X7_bestAt : GoodIn wsL_law (wsV RL 89 RX7 yX7_bestAt wsX7_bestAt) := goodIn_app (goodIn_of _ (by decide +kernel)) ggL_law_X7_bestAt
set_option maxRecDepth 20000 in
theorem ggL_law_X6_lands : GoodIn wsL_law wsX6_lands := goodIn_r _ [604, 30, 15, 102, 605, 240, 241, 242, 14, 243, 107, 244, 245, 246, 247, 43, 248, 249, 250, 29, 251, 59, 252, 253, 254, 255, 256, 257, 258, 259, 260, 261, 262, 263, 264, 265, 266, 267, 268, 269, 270, 271, 272, 273, 2, 274, 275, 276, 277, 278, 279, 280, 281, 282, 283, 284, 285, 286, 287, 288, 289, 538, 718, 719, 720, 721, 722, 723, 724, 725, 726, 746, 747, 754, 755, 756, 757] (by decide +kernel) (by decide +kernel)
set_option maxRecDepth 20000 in
theorem gL_law_X6_lands : GoodIn wsL_law (wsV RL 90 RX6 yX6_lands wsX6_lands) := goodIn_app (goodIn_of _ (by decide +kernel)) ggL_law_X6_lands
set_option maxRecDepth 20000 in
theorem ggL_law_X7_lands : GoodIn wsL_law wsX7_lands := goodIn_r _ [609, 80, 301, 302, 303, 5, 304, 305, 306, 307, 308, 77, 309, 310, 311, 312, 147, 148, 149, 150, 313, 314, 315, 316, 300, 317, 318, 319, 320, 321, 322, 323, 324, 325, 326, 327, 328, 329, 330, 331, 332, 333, 334, 335, 336, 337, 338, 727, 728, 729, 730, 731, 732, 733, 734, 735, 736, 737, 738, 739, 740, 741, 742, 743, 744, 745] (by decide +kernel) (by decide +kernel)
set_option maxRecDepth 20000 in
theorem gL_law_X7_lands : GoodIn wsL_law (wsV RL 93 RX7 yX7_lands wsX7_lands) := goodIn_app (goodIn_of _ (by decide +kernel)) ggL_law_X7_lands
set_option maxRecDepth 20000 in
theorem ggL_law_X6_track : GoodIn wsL_law wsX6_track := goodIn_r _ [613, 34, 30, 94, 95, 2, 96, 614, 615, 616, 33, 617, 64, 66, 618, 65, 619, 245, 246, 14, 247, 43, 620, 621, 622, 623, 624, 625, 626, 627, 628, 241, 242, 243, 107, 244, 629, 630, 631, 632, 67, 633, 249, 250, 29, 251, 59, 252, 253, 254, 255, 256, 257, 258, 259, 260, 261, 262, 263, 264, 265, 266, 267, 268, 269, 270, 271, 272, 273, 274, 275, 276, 277, 278, 279, 280, 281, 282, 283, 284, 285, 286, 287, 288, 289, 634, 635, 636, 637, 638, 639, 640, 641, 642, 643, 644, 645, 248, 585, 586, 587, 588, 718, 719, 720, 721, 722, 723, 724, 725, 726, 758, 759, 760, 761, 746, 747, 754, 755, 756, 757] (by decide +kernel) (by decide +kernel)
set_option maxRecDepth 20000 in
theorem gL_law_X6_track : GoodIn wsL_law (wsV RL 94 RX6 yX6_track wsX6_track) := goodIn_app (goodIn_of _ (by decide +kernel)) ggL_law_X6_track
set_option maxRecDepth 20000 in
theorem ggL_law_X7_track : GoodIn wsL_law wsX7_track := goodIn_r _ [649, 650, 82, 83, 80, 136, 137, 5, 138, 651, 652, 653, 654, 81, 655, 656, 657, 658, 77, 309, 310, 311, 312, 147, 148, 149, 150, 659, 660, 661, 662, 300, 663, 664, 665, 666, 313, 314, 315, 316, 317, 318, 319, 320, 321, 322, 323, 324, 325, 326, 327, 328, 329, 330, 331, 332, 333, 334, 335, 336, 337, 338, 727, 728, 729, 730, 731, 732, 733, 734, 735, 736, 737, 738, 739, 740, 741, 742, 743, 744, 745] (by decide +kernel) (by decide +kernel)
set_option maxRecDepth 20000 in
theorem gL_law_X7_track : GoodIn wsL_law (wsV RL 97 RX7 yX7_track wsX7_track) := goodIn_app (goodIn_of _ (by decide +kernel)) ggL_law_X7_track
set_option maxRecDepth 20000 in
theorem ggL_law_X6_fitsFrom : GoodIn wsL_law wsX6_fitsFrom := goodIn_r _ [670, 15, 101, 34, 220, 221, 222, 14, 223, 107, 343, 245, 246, 247, 43, 671, 625, 626, 33, 627, 66, 628, 241, 242, 243, 244, 672, 630, 631, 632, 67, 633, 249, 250, 29, 251, 59, 252, 253, 254, 255, 256, 257, 258, 259, 260, 261, 262, 263, 264, 265, 266, 267, 268, 269, 270, 271, 272, 273, 2, 274, 275, 276, 277, 278, 279, 280, 281, 282, 283, 284, 285, 286, 287, 288, 289, 634, 291, 718, 719, 720, 721, 722, 723, 724, 725, 726, 746, 747, 758, 759, 760, 761, 754, 755, 756, 757] (by decide +kernel) (by decide +kernel)
set_option maxRecDepth 20000 in
theorem gL_law_X6_fitsFrom : GoodIn wsL_law (wsV RL 98 RX6 yX6_fitsFrom wsX6_fitsFrom) := goodIn_app (goodIn_of _ (by decide +kernel)) ggL_law_X6_fitsFrom
set_option maxRecDepth 20000 in
theorem ggL_law_X7_fitsFrom : GoodIn wsL_law wsX7_fitsFrom := goodIn_r _ [676, 83, 650, 228, 229, 230, 5, 231, 77, 136, 137, 138, 309, 310, 311, 312, 147, 148, 149, 150, 655, 656, 657, 658, 659, 660, 661, 662, 300, 663, 664, 665, 666, 313, 314, 315, 316, 80, 317, 318, 319, 320, 321, 322, 323, 324, 325, 326, 327, 328, 329, 330, 331, 332, 333, 334, 335, 336, 337, 338, 727, 728, 729, 730, 731, 732, 733, 734, 735, 736, 737, 738, 739, 740, 741, 742, 743, 744, 745] (by decide +kernel) (by decide +kernel)
set_option maxRecDepth 20000 in
theorem gL_law_X7_fitsFrom : GoodIn wsL_law (wsV RL 101 RX7 yX7_fitsFrom wsX7_fitsFrom) := goodIn_app (goodIn_of _ (by decide +kernel)) ggL_law_X7_fitsFrom
set_option maxRecDepth 20000 in
theorem ggL_law_X6_spin : GoodIn wsL_law wsX6_spin := goodIn_r _ [680, 38, 681, 682, 427, 94, 95, 2, 96, 437, 438, 439, 37, 440, 441, 442, 443, 72, 444, 445, 446, 14, 447, 107, 448, 433, 434, 435, 244, 245, 246, 247, 43, 436, 429, 430, 431, 449, 450, 451, 452, 453, 454, 455, 456, 457, 458, 459, 460, 461, 462, 463, 464, 465, 466, 467, 468, 469, 267, 470, 471, 472, 473, 474, 475, 476, 477, 478, 479, 480, 481, 280, 281, 282, 283, 284, 285, 291, 718, 719, 720, 721, 722, 723, 724, 725, 726, 762, 763, 764, 765, 746, 747] (by decide +kernel) (by decide +kernel)
set_option maxRecDepth 20000 in
theorem gL_law_X6_spin : GoodIn wsL_law (wsV RL 102 RX6 yX6_spin wsX6_spin) := goodIn_app (goodIn_of _ (by decide +kernel)) ggL_law_X6_spin
set_option maxRecDepth 20000 in
theorem ggL_law_X7_spin : GoodIn wsL_law wsX7_spin := goodIn_r _ [686, 495, 496, 486, 136, 137, 5, 138, 491, 492, 493, 494, 77, 487, 488, 489, 490, 309, 310, 311, 312, 147, 148, 149, 150, 497, 498, 499, 500, 501, 502, 503, 504, 505, 506, 507, 336, 337, 338, 727, 728, 729, 730, 731, 732, 733, 734, 735, 736, 737, 738, 739, 740, 741, 742, 743, 744, 745] (by decide +kernel) (by decide +kernel)
set_option maxRecDepth 20000 in
theorem gL_law_X7_spin : GoodIn wsL_law (wsV RL 105 RX7 yX7_spin wsX7_spin) := goodIn_app (goodIn_of _ (by decide +kernel)) ggL_law_X7_spin
set_option maxRecDepth 20000 in
theorem ggL_law_X6_fits : GoodIn wsL_law wsX6_fits := goodIn_r _ [690, 38, 94, 95, 2, 96, 691, 460, 461, 37, 462, 72, 453, 463, 433, 434, 14, 435, 244, 245, 246, 247, 43, 436, 429, 430, 431, 464, 465, 466, 467, 454, 468, 469, 267, 470, 471, 472, 473, 474, 475, 476, 477, 478, 479, 480, 291, 280, 281, 282, 283, 284, 285, 718, 719, 720, 721, 722, 723, 724, 725, 726, 762, 763, 764, 765, 746, 747] (by decide +kernel) (by decide +kernel)
set_option maxRecDepth 20000 in
theorem gL_law_X6_fits : GoodIn wsL_law (wsV RL 106 RX6 yX6_fits wsX6_fits) := goodIn_app (goodIn_of _ (by decide +kernel)) ggL_law_X6_fits
set_option maxRecDepth 20000 in
theorem ggL_law_X7_fits : GoodIn wsL_law wsX7_fits := goodIn_r _ [695, 136, 137, 5, 138, 497, 498, 499, 500, 77, 487, 488, 489, 490, 309, 310, 311, 312, 147, 148, 149, 150, 501, 502, 503, 504, 505, 506, 507, 336, 337, 338, 727, 728, 729, 730, 731, 732, 733, 734, 735, 736, 737, 738, 739, 740, 741, 742, 743, 744, 745] (by decide +kernel) (by decide +kernel)
set_option maxRecDepth 20000 in
theorem gL_law_X7_fits : GoodIn wsL_law (wsV RL 109 RX7 yX7_fits wsX7_fits) := goodIn_app (goodIn_of _ (by decide +kernel)) ggL_law_X7_fits
set_option maxRecDepth 20000 in
theorem ggL_law_X6_angleAt : GoodIn wsL_law wsX6_angleAt := goodIn_r _ [699, 38, 681, 682, 94, 95, 2, 96, 437, 438, 439, 37, 440, 441, 442, 443, 72, 444, 445, 446, 14, 447, 107, 448, 433, 434, 435, 244, 245, 246, 247, 43, 436, 429, 430, 431, 449, 450, 451, 452, 453, 454, 455, 456, 457, 458, 459, 460, 461, 462, 463, 464, 465, 466, 467, 468, 469, 267, 470, 471, 472, 473, 474, 475, 476, 477, 478, 479, 480, 481, 280, 281, 282, 283, 284, 285, 700, 718, 719, 720, 721, 722, 723, 724, 725, 726, 762, 763, 764, 765, 746, 747] (by decide +kernel) (by decide +kernel)
set_option maxRecDepth 20000 in
theorem gL_law_X6_angleAt : GoodIn wsL_law (wsV RL 110 RX6 yX6_angleAt wsX6_angleAt) := goodIn_app (goodIn_of _ (by decide +kernel)) ggL_law_X6_angleAt
set_option maxRecDepth 20000 in
theorem ggL_law_X7_angleAt : GoodIn wsL_law wsX7_angleAt := goodIn_r _ [704, 495, 496, 136, 137, 5, 138, 491, 492, 493, 494, 77, 486, 487, 488, 489, 490, 309, 310, 311, 312, 147, 148, 149, 150, 497, 498, 499, 500, 501, 502, 503, 504, 505, 506, 507, 336, 337, 338, 727, 728, 729, 730, 731, 732, 733, 734, 735, 736, 737, 738, 739, 740, 741, 742, 743, 744, 745] (by decide +kernel) (by decide +kernel)
set_option maxRecDepth 20000 in
theorem gL_law_X7_angleAt : GoodIn wsL_law (wsV RL 113 RX7 yX7_angleAt wsX7_angleAt) := goodIn_app (goodIn_of _ (by decide +kernel)) ggL_law_X7_angleAt
set_option maxRecDepth 20000 in
theorem ggL_law_X6_count : GoodIn wsL_law wsX6_count := goodIn_r _ [708, 15, 101, 34, 20, 395, 24, 374, 240, 241, 242, 14, 243, 107, 244, 245, 246, 247, 43, 709, 445, 446, 447, 448, 433, 434, 435, 436, 429, 430, 431, 614, 615, 616, 33, 617, 64, 66, 618, 65, 619, 620, 621, 622, 623, 624, 625, 626, 627, 628, 629, 630, 631, 632, 67, 633, 249, 250, 29, 251, 59, 252, 253, 254, 255, 256, 257, 258, 259, 260, 261, 262, 263, 264, 265, 266, 267, 268, 269, 270, 271, 272, 273, 2, 274, 275, 276, 277, 278, 279, 280, 281, 282, 283, 284, 285, 286, 287, 288, 289, 634, 718, 719, 720, 721, 722, 723, 724, 725, 726, 746, 747, 748, 749, 750, 751, 752, 753, 758, 759, 760, 761, 754, 755, 756, 757] (by decide +kernel) (by decide +kernel)
set_option maxRecDepth 20000 in
theorem gL_law_X6_count : GoodIn wsL_law (wsV RL 114 RX6 yX6_count wsX6_count) := goodIn_app (goodIn_of _ (by decide +kernel)) ggL_law_X6_count
set_option maxRecDepth 20000 in
theorem ggL_law_X7_count : GoodIn wsL_law wsX7_count := goodIn_r _ [713, 77, 81, 155, 199, 305, 306, 307, 5, 308, 309, 310, 311, 312, 147, 148, 149, 150, 714, 715, 716, 717, 487, 488, 489, 490, 651, 652, 653, 654, 650, 82, 655, 656, 657, 658, 83, 659, 660, 661, 662, 300, 663, 664, 665, 666, 313, 314, 315, 316, 80, 317, 318, 319, 320, 321, 322, 323, 324, 325, 326, 327, 328, 329, 330, 331, 332, 333, 334, 335, 336, 337, 338, 727, 728, 729, 730, 731, 732, 733, 734, 735, 736, 737, 738, 739, 740, 741, 742, 743, 744, 745] (by decide +kernel) (by decide +kernel)
set_option maxRecDepth 20000 in
theorem gL_law_X7_count : GoodIn wsL_law (wsV RL 117 RX7 yX7_count wsX7_count) := goodIn_app (goodIn_of _ (by decide +kernel)) ggL_law_X7_count
