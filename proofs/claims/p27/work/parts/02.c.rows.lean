theorem dX6_undo_0 : decode cX6_undo 0 = .ok (.aload_n 0, 1) := by decide +kernel
theorem dX6_undo_1 : decode cX6_undo 1 = .ok (.getfield 22, 3) := by decide +kernel
theorem dX6_undo_4 : decode cX6_undo 4 = .ok (.aload_n 0, 1) := by decide +kernel
theorem dX6_undo_5 : decode cX6_undo 5 = .ok (.getfield 10, 3) := by decide +kernel
theorem dX6_undo_8 : decode cX6_undo 8 = .ok (.invokevirtual 136, 3) := by decide +kernel
theorem dX6_undo_11 : decode cX6_undo 11 = .ok (.ifCond .eq 13, 3) := by decide +kernel
theorem dX6_undo_14 : decode cX6_undo 14 = .ok (.aload_n 0, 1) := by decide +kernel
theorem dX6_undo_15 : decode cX6_undo 15 = .ok (.getfield 22, 3) := by decide +kernel
theorem dX6_undo_18 : decode cX6_undo 18 = .ok (.getfield 140, 3) := by decide +kernel
theorem dX6_undo_21 : decode cX6_undo 21 = .ok (.goto 5, 3) := by decide +kernel
theorem dX6_undo_24 : decode cX6_undo 24 = .ok (.bipush (-5), 2) := by decide +kernel
theorem dX6_undo_26 : decode cX6_undo 26 = .ok (.ireturn, 1) := by decide +kernel
set_option maxRecDepth 20000 in
theorem ggX6_restore_X1_record : GoodIn wsX6_restore wsX1_record := goodIn_r _ [10, 11, 12, 13, 14, 15, 9, 16, 17, 18, 19, 20, 21, 22, 23, 24, 25, 26, 27, 40, 41, 38, 39] (by decide +kernel) (by decide +kernel)
set_option maxRecDepth 20000 in
theorem gX6_restore_X1_record : GoodIn wsX6_restore (wsV RX6 94 RX1 yX1_record wsX1_record) := goodIn_app (goodIn_of _ (by decide +kernel)) ggX6_restore_X1_record
set_option maxRecDepth 20000 in
theorem ggX6_restore_X2_copyFrom : GoodIn wsX6_restore wsX2_copyFrom := goodIn_r _ [21, 22, 23, 24, 25, 26, 27, 38, 39] (by decide +kernel) (by decide +kernel)
set_option maxRecDepth 20000 in
theorem gX6_restore_X2_copyFrom : GoodIn wsX6_restore (wsV RX6 141 RX2 yX2_copyFrom wsX2_copyFrom) := goodIn_app (goodIn_of _ (by decide +kernel)) ggX6_restore_X2_copyFrom
theorem dX6_restore_0 : decode cX6_restore 0 = .ok (.aload_n 0, 1) := by decide +kernel
theorem dX6_restore_1 : decode cX6_restore 1 = .ok (.getfield 144, 3) := by decide +kernel
theorem dX6_restore_4 : decode cX6_restore 4 = .ok (.ifCond .ne 6, 3) := by decide +kernel
theorem dX6_restore_7 : decode cX6_restore 7 = .ok (.bipush (-5), 2) := by decide +kernel
theorem dX6_restore_9 : decode cX6_restore 9 = .ok (.ireturn, 1) := by decide +kernel
theorem dX6_restore_10 : decode cX6_restore 10 = .ok (.aload_n 0, 1) := by decide +kernel
theorem dX6_restore_11 : decode cX6_restore 11 = .ok (.getfield 22, 3) := by decide +kernel
theorem dX6_restore_14 : decode cX6_restore 14 = .ok (.aload_n 0, 1) := by decide +kernel
theorem dX6_restore_15 : decode cX6_restore 15 = .ok (.getfield 10, 3) := by decide +kernel
theorem dX6_restore_18 : decode cX6_restore 18 = .ok (.invokevirtual 94, 3) := by decide +kernel
theorem dX6_restore_21 : decode cX6_restore 21 = .ok (.aload_n 0, 1) := by decide +kernel
theorem dX6_restore_22 : decode cX6_restore 22 = .ok (.getfield 10, 3) := by decide +kernel
theorem dX6_restore_25 : decode cX6_restore 25 = .ok (.aload_n 0, 1) := by decide +kernel
theorem dX6_restore_26 : decode cX6_restore 26 = .ok (.getfield 16, 3) := by decide +kernel
theorem dX6_restore_29 : decode cX6_restore 29 = .ok (.invokevirtual 141, 3) := by decide +kernel
theorem dX6_restore_32 : decode cX6_restore 32 = .ok (.aload_n 0, 1) := by decide +kernel
theorem dX6_restore_33 : decode cX6_restore 33 = .ok (.getfield 10, 3) := by decide +kernel
theorem dX6_restore_36 : decode cX6_restore 36 = .ok (.getfield 118, 3) := by decide +kernel
theorem dX6_restore_39 : decode cX6_restore 39 = .ok (.ireturn, 1) := by decide +kernel
set_option maxRecDepth 20000 in
theorem ggX6_photo_X2_holds : GoodIn wsX6_photo wsX2_holds := goodIn_r _ [9, 10, 95, 96] (by decide +kernel) (by decide +kernel)
set_option maxRecDepth 20000 in
theorem gX6_photo_X2_holds : GoodIn wsX6_photo (wsV RX6 82 RX2 yX2_holds wsX2_holds) := goodIn_app (goodIn_of _ (by decide +kernel)) ggX6_photo_X2_holds
set_option maxRecDepth 20000 in
theorem ggX6_photo_X6_isWithin : GoodIn wsX6_photo wsX6_isWithin := goodIn_r _ [14] (by decide +kernel) (by decide +kernel)
set_option maxRecDepth 20000 in
theorem gX6_photo_X6_isWithin : GoodIn wsX6_photo (va_wsS RX6 86 yX6_isWithin wsX6_isWithin) := goodIn_app (goodIn_of _ (by decide +kernel)) ggX6_photo_X6_isWithin
set_option maxRecDepth 20000 in
theorem ggX6_photo_X2_hasAngle : GoodIn wsX6_photo wsX2_hasAngle := goodIn_r _ [18, 19, 95, 96] (by decide +kernel) (by decide +kernel)
set_option maxRecDepth 20000 in
theorem gX6_photo_X2_hasAngle : GoodIn wsX6_photo (wsV RX6 147 RX2 yX2_hasAngle wsX2_hasAngle) := goodIn_app (goodIn_of _ (by decide +kernel)) ggX6_photo_X2_hasAngle
set_option maxRecDepth 20000 in
theorem ggX6_photo_X2_isMarked : GoodIn wsX6_photo wsX2_isMarked := goodIn_r _ [23, 24, 25, 26, 8, 27, 19, 28, 16, 17, 18, 95, 96] (by decide +kernel) (by decide +kernel)
set_option maxRecDepth 20000 in
theorem gX6_photo_X2_isMarked : GoodIn wsX6_photo (wsV RX6 150 RX2 yX2_isMarked wsX2_isMarked) := goodIn_app (goodIn_of _ (by decide +kernel)) ggX6_photo_X2_isMarked
set_option maxRecDepth 20000 in
theorem ggX6_photo_X3_search : GoodIn wsX6_photo wsX3_search := goodIn_r _ [33, 34, 35, 36, 37, 38, 39, 40, 8, 41, 10, 42, 21, 22, 23, 24, 25, 26, 27, 19, 28, 16, 17, 18, 43, 44, 45, 32, 46, 47, 48, 49, 50, 51, 52, 53, 54, 55, 56, 57, 58, 59, 60, 61, 62, 63, 64, 65, 66, 67, 68, 69, 70, 71, 72, 73, 74, 75, 76, 77, 78, 79, 80, 81, 82, 97, 98, 99, 100, 95, 96] (by decide +kernel) (by decide +kernel)
set_option maxRecDepth 20000 in
theorem gX6_photo_X3_search : GoodIn wsX6_photo (wsV RX6 153 RX3 yX3_search wsX3_search) := goodIn_app (goodIn_of _ (by decide +kernel)) ggX6_photo_X3_search
set_option maxRecDepth 20000 in
theorem ggX6_photo_X6_isIn : GoodIn wsX6_photo wsX6_isIn := goodIn_r _ [85] (by decide +kernel) (by decide +kernel)
set_option maxRecDepth 20000 in
theorem gX6_photo_X6_isIn : GoodIn wsX6_photo (va_wsS RX6 121 yX6_isIn wsX6_isIn) := goodIn_app (goodIn_of _ (by decide +kernel)) ggX6_photo_X6_isIn
theorem dX6_photo_0 : decode cX6_photo 0 = .ok (.aload_n 0, 1) := by decide +kernel
theorem dX6_photo_1 : decode cX6_photo 1 = .ok (.getfield 10, 3) := by decide +kernel
theorem dX6_photo_4 : decode cX6_photo 4 = .ok (.iload_n 1, 1) := by decide +kernel
theorem dX6_photo_5 : decode cX6_photo 5 = .ok (.invokevirtual 82, 3) := by decide +kernel
theorem dX6_photo_8 : decode cX6_photo 8 = .ok (.ifCond .ne 5, 3) := by decide +kernel
theorem dX6_photo_11 : decode cX6_photo 11 = .ok (.iconst (-1), 1) := by decide +kernel
theorem dX6_photo_12 : decode cX6_photo 12 = .ok (.ireturn, 1) := by decide +kernel
theorem dX6_photo_13 : decode cX6_photo 13 = .ok (.iload_n 2, 1) := by decide +kernel
theorem dX6_photo_14 : decode cX6_photo 14 = .ok (.iconst 0, 1) := by decide +kernel
theorem dX6_photo_15 : decode cX6_photo 15 = .ok (.bipush 7, 2) := by decide +kernel
theorem dX6_photo_17 : decode cX6_photo 17 = .ok (.invokestatic 86, 3) := by decide +kernel
theorem dX6_photo_20 : decode cX6_photo 20 = .ok (.ifCond .ne 6, 3) := by decide +kernel
theorem dX6_photo_23 : decode cX6_photo 23 = .ok (.bipush (-2), 2) := by decide +kernel
theorem dX6_photo_25 : decode cX6_photo 25 = .ok (.ireturn, 1) := by decide +kernel
theorem dX6_photo_26 : decode cX6_photo 26 = .ok (.iload_n 2, 1) := by decide +kernel
theorem dX6_photo_27 : decode cX6_photo 27 = .ok (.tableswitch 129 1 7 #[41, 41, 129, 57, 57, 129, 85], 41) := by decide +kernel
theorem dX6_photo_68 : decode cX6_photo 68 = .ok (.aload_n 0, 1) := by decide +kernel
theorem dX6_photo_69 : decode cX6_photo 69 = .ok (.getfield 10, 3) := by decide +kernel
theorem dX6_photo_72 : decode cX6_photo 72 = .ok (.getfield 90, 3) := by decide +kernel
theorem dX6_photo_75 : decode cX6_photo 75 = .ok (.iload_n 2, 1) := by decide +kernel
theorem dX6_photo_76 : decode cX6_photo 76 = .ok (.aaload, 1) := by decide +kernel
theorem dX6_photo_77 : decode cX6_photo 77 = .ok (.iload_n 1, 1) := by decide +kernel
theorem dX6_photo_78 : decode cX6_photo 78 = .ok (.iaload, 1) := by decide +kernel
theorem dX6_photo_79 : decode cX6_photo 79 = .ok (.sipush 1000, 3) := by decide +kernel
theorem dX6_photo_82 : decode cX6_photo 82 = .ok (.iadd, 1) := by decide +kernel
theorem dX6_photo_83 : decode cX6_photo 83 = .ok (.ireturn, 1) := by decide +kernel
theorem dX6_photo_84 : decode cX6_photo 84 = .ok (.aload_n 0, 1) := by decide +kernel
theorem dX6_photo_85 : decode cX6_photo 85 = .ok (.getfield 10, 3) := by decide +kernel
theorem dX6_photo_88 : decode cX6_photo 88 = .ok (.iload_n 1, 1) := by decide +kernel
theorem dX6_photo_89 : decode cX6_photo 89 = .ok (.invokevirtual 147, 3) := by decide +kernel
theorem dX6_photo_92 : decode cX6_photo 92 = .ok (.ifCond .eq 17, 3) := by decide +kernel
theorem dX6_photo_95 : decode cX6_photo 95 = .ok (.aload_n 0, 1) := by decide +kernel
theorem dX6_photo_96 : decode cX6_photo 96 = .ok (.getfield 10, 3) := by decide +kernel
theorem dX6_photo_99 : decode cX6_photo 99 = .ok (.getfield 90, 3) := by decide +kernel
theorem dX6_photo_102 : decode cX6_photo 102 = .ok (.iload_n 2, 1) := by decide +kernel
theorem dX6_photo_103 : decode cX6_photo 103 = .ok (.aaload, 1) := by decide +kernel
theorem dX6_photo_104 : decode cX6_photo 104 = .ok (.iload_n 1, 1) := by decide +kernel
theorem dX6_photo_105 : decode cX6_photo 105 = .ok (.iaload, 1) := by decide +kernel
theorem dX6_photo_106 : decode cX6_photo 106 = .ok (.goto 5, 3) := by decide +kernel
theorem dX6_photo_109 : decode cX6_photo 109 = .ok (.bipush (-5), 2) := by decide +kernel
theorem dX6_photo_111 : decode cX6_photo 111 = .ok (.ireturn, 1) := by decide +kernel
theorem dX6_photo_112 : decode cX6_photo 112 = .ok (.aload_n 0, 1) := by decide +kernel
theorem dX6_photo_113 : decode cX6_photo 113 = .ok (.getfield 10, 3) := by decide +kernel
theorem dX6_photo_116 : decode cX6_photo 116 = .ok (.iload_n 1, 1) := by decide +kernel
theorem dX6_photo_117 : decode cX6_photo 117 = .ok (.invokevirtual 150, 3) := by decide +kernel
theorem dX6_photo_120 : decode cX6_photo 120 = .ok (.ifCond .eq 13, 3) := by decide +kernel
theorem dX6_photo_123 : decode cX6_photo 123 = .ok (.aload_n 0, 1) := by decide +kernel
theorem dX6_photo_124 : decode cX6_photo 124 = .ok (.getfield 58, 3) := by decide +kernel
theorem dX6_photo_127 : decode cX6_photo 127 = .ok (.invokevirtual 153, 3) := by decide +kernel
theorem dX6_photo_130 : decode cX6_photo 130 = .ok (.ifCond .ne 6, 3) := by decide +kernel
theorem dX6_photo_133 : decode cX6_photo 133 = .ok (.bipush (-5), 2) := by decide +kernel
theorem dX6_photo_135 : decode cX6_photo 135 = .ok (.ireturn, 1) := by decide +kernel
theorem dX6_photo_136 : decode cX6_photo 136 = .ok (.aload_n 0, 1) := by decide +kernel
theorem dX6_photo_137 : decode cX6_photo 137 = .ok (.getfield 58, 3) := by decide +kernel
theorem dX6_photo_140 : decode cX6_photo 140 = .ok (.getfield 156, 3) := by decide +kernel
theorem dX6_photo_143 : decode cX6_photo 143 = .ok (.iload_n 1, 1) := by decide +kernel
theorem dX6_photo_144 : decode cX6_photo 144 = .ok (.invokestatic 121, 3) := by decide +kernel
theorem dX6_photo_147 : decode cX6_photo 147 = .ok (.ifCond .eq 7, 3) := by decide +kernel
theorem dX6_photo_150 : decode cX6_photo 150 = .ok (.iconst 1, 1) := by decide +kernel
theorem dX6_photo_151 : decode cX6_photo 151 = .ok (.goto 4, 3) := by decide +kernel
theorem dX6_photo_154 : decode cX6_photo 154 = .ok (.iconst 0, 1) := by decide +kernel
theorem dX6_photo_155 : decode cX6_photo 155 = .ok (.ireturn, 1) := by decide +kernel
theorem dX6_photo_156 : decode cX6_photo 156 = .ok (.aload_n 0, 1) := by decide +kernel
theorem dX6_photo_157 : decode cX6_photo 157 = .ok (.getfield 10, 3) := by decide +kernel
theorem dX6_photo_160 : decode cX6_photo 160 = .ok (.getfield 90, 3) := by decide +kernel
theorem dX6_photo_163 : decode cX6_photo 163 = .ok (.iload_n 2, 1) := by decide +kernel
theorem dX6_photo_164 : decode cX6_photo 164 = .ok (.aaload, 1) := by decide +kernel
theorem dX6_photo_165 : decode cX6_photo 165 = .ok (.iload_n 1, 1) := by decide +kernel
theorem dX6_photo_166 : decode cX6_photo 166 = .ok (.iaload, 1) := by decide +kernel
theorem dX6_photo_167 : decode cX6_photo 167 = .ok (.ireturn, 1) := by decide +kernel
set_option maxRecDepth 20000 in
theorem ggX6_arc_X6_areHeld : GoodIn wsX6_arc wsX6_areHeld := goodIn_r _ [9, 10, 11, 12, 13, 14, 15, 16, 77, 78, 79, 80, 81, 82, 83, 84, 85, 86, 87] (by decide +kernel) (by decide +kernel)
set_option maxRecDepth 20000 in
theorem gX6_arc_X6_areHeld : GoodIn wsX6_arc (wsV RX6 159 RX6 yX6_areHeld wsX6_areHeld) := goodIn_app (goodIn_of _ (by decide +kernel)) ggX6_arc_X6_areHeld
set_option maxRecDepth 20000 in
theorem ggX6_arc_X6_areAnySame : GoodIn wsX6_arc wsX6_areAnySame := goodIn_r _ [19] (by decide +kernel) (by decide +kernel)
set_option maxRecDepth 20000 in
theorem gX6_arc_X6_areAnySame : GoodIn wsX6_arc (va_wsS RX6 164 yX6_areAnySame wsX6_areAnySame) := goodIn_app (goodIn_of _ (by decide +kernel)) ggX6_arc_X6_areAnySame
set_option maxRecDepth 20000 in
theorem ggX6_arc_X6_isAskForFraction : GoodIn wsX6_arc wsX6_isAskForFraction := goodIn_r _ [22, 23, 24, 8, 25] (by decide +kernel) (by decide +kernel)
set_option maxRecDepth 20000 in
theorem gX6_arc_X6_isAskForFraction : GoodIn wsX6_arc (va_wsS RX6 167 yX6_isAskForFraction wsX6_isAskForFraction) := goodIn_app (goodIn_of _ (by decide +kernel)) ggX6_arc_X6_isAskForFraction
set_option maxRecDepth 20000 in
theorem ggX6_arc_X6_areUsable : GoodIn wsX6_arc wsX6_areUsable := goodIn_r _ [29, 10, 30, 31, 32, 14, 33, 34, 77, 78, 79, 80, 81, 82, 83, 84, 85, 86, 87] (by decide +kernel) (by decide +kernel)
set_option maxRecDepth 20000 in
theorem gX6_arc_X6_areUsable : GoodIn wsX6_arc (wsV RX6 172 RX6 yX6_areUsable wsX6_areUsable) := goodIn_app (goodIn_of _ (by decide +kernel)) ggX6_arc_X6_areUsable
set_option maxRecDepth 20000 in
theorem ggX6_arc_X6_layInOrder : GoodIn wsX6_arc wsX6_layInOrder := goodIn_r _ [38, 39, 40, 41, 42, 43, 44, 45, 4, 46, 47, 48, 49, 50, 51, 52, 53, 77, 78, 79, 80, 81, 82, 83, 84, 85, 88, 89, 90, 91] (by decide +kernel) (by decide +kernel)
set_option maxRecDepth 20000 in
theorem gX6_arc_X6_layInOrder : GoodIn wsX6_arc (wsV RX6 177 RX6 yX6_layInOrder wsX6_layInOrder) := goodIn_app (goodIn_of _ (by decide +kernel)) ggX6_arc_X6_layInOrder
set_option maxRecDepth 20000 in
theorem ggX6_arc_X0_upper : GoodIn wsX6_arc wsX0_upper := goodIn_r _ [57, 58, 59, 51, 52, 53, 88, 89, 90, 91, 86, 87] (by decide +kernel) (by decide +kernel)
set_option maxRecDepth 20000 in
theorem gX6_arc_X0_upper : GoodIn wsX6_arc (wsV RX6 181 RX0 yX0_upper wsX0_upper) := goodIn_app (goodIn_of _ (by decide +kernel)) ggX6_arc_X0_upper
set_option maxRecDepth 20000 in
theorem ggX6_arc_X0_lower : GoodIn wsX6_arc wsX0_lower := goodIn_r _ [63, 58, 59, 51, 52, 53, 88, 89, 90, 91, 86, 87] (by decide +kernel) (by decide +kernel)
set_option maxRecDepth 20000 in
theorem gX6_arc_X0_lower : GoodIn wsX6_arc (wsV RX6 185 RX0 yX0_lower wsX0_lower) := goodIn_app (goodIn_of _ (by decide +kernel)) ggX6_arc_X0_lower
set_option maxRecDepth 20000 in
theorem ggX6_arc_X6_partOf : GoodIn wsX6_arc wsX6_partOf := goodIn_r _ [66, 67, 68, 41, 69, 70, 71, 72, 73, 74, 75, 8, 76] (by decide +kernel) (by decide +kernel)
set_option maxRecDepth 20000 in
theorem gX6_arc_X6_partOf : GoodIn wsX6_arc (va_wsS RX6 189 yX6_partOf wsX6_partOf) := goodIn_app (goodIn_of _ (by decide +kernel)) ggX6_arc_X6_partOf
theorem dX6_arc_0 : decode cX6_arc 0 = .ok (.aload_n 0, 1) := by decide +kernel
theorem dX6_arc_1 : decode cX6_arc 1 = .ok (.iload_n 1, 1) := by decide +kernel
theorem dX6_arc_2 : decode cX6_arc 2 = .ok (.iload_n 2, 1) := by decide +kernel
theorem dX6_arc_3 : decode cX6_arc 3 = .ok (.iload_n 3, 1) := by decide +kernel
theorem dX6_arc_4 : decode cX6_arc 4 = .ok (.invokevirtual 159, 3) := by decide +kernel
theorem dX6_arc_7 : decode cX6_arc 7 = .ok (.ifCond .ne 7, 3) := by decide +kernel
theorem dX6_arc_10 : decode cX6_arc 10 = .ok (.ldc2_w 162, 3) := by decide +kernel
theorem dX6_arc_13 : decode cX6_arc 13 = .ok (.lreturn, 1) := by decide +kernel
theorem dX6_arc_14 : decode cX6_arc 14 = .ok (.iload_n 1, 1) := by decide +kernel
theorem dX6_arc_15 : decode cX6_arc 15 = .ok (.iload_n 2, 1) := by decide +kernel
theorem dX6_arc_16 : decode cX6_arc 16 = .ok (.iload_n 3, 1) := by decide +kernel
theorem dX6_arc_17 : decode cX6_arc 17 = .ok (.invokestatic 164, 3) := by decide +kernel
theorem dX6_arc_20 : decode cX6_arc 20 = .ok (.ifCond .ne 15, 3) := by decide +kernel
theorem dX6_arc_23 : decode cX6_arc 23 = .ok (.iload 4, 2) := by decide +kernel
theorem dX6_arc_25 : decode cX6_arc 25 = .ok (.iload 5, 2) := by decide +kernel
theorem dX6_arc_27 : decode cX6_arc 27 = .ok (.iload 6, 2) := by decide +kernel
theorem dX6_arc_29 : decode cX6_arc 29 = .ok (.invokestatic 167, 3) := by decide +kernel
theorem dX6_arc_32 : decode cX6_arc 32 = .ok (.ifCond .ne 7, 3) := by decide +kernel
theorem dX6_arc_35 : decode cX6_arc 35 = .ok (.ldc2_w 170, 3) := by decide +kernel
theorem dX6_arc_38 : decode cX6_arc 38 = .ok (.lreturn, 1) := by decide +kernel
theorem dX6_arc_39 : decode cX6_arc 39 = .ok (.aload_n 0, 1) := by decide +kernel
theorem dX6_arc_40 : decode cX6_arc 40 = .ok (.iload_n 1, 1) := by decide +kernel
theorem dX6_arc_41 : decode cX6_arc 41 = .ok (.iload_n 2, 1) := by decide +kernel
theorem dX6_arc_42 : decode cX6_arc 42 = .ok (.iload_n 3, 1) := by decide +kernel
theorem dX6_arc_43 : decode cX6_arc 43 = .ok (.invokevirtual 172, 3) := by decide +kernel
theorem dX6_arc_46 : decode cX6_arc 46 = .ok (.ifCond .ne 7, 3) := by decide +kernel
theorem dX6_arc_49 : decode cX6_arc 49 = .ok (.ldc2_w 175, 3) := by decide +kernel
theorem dX6_arc_52 : decode cX6_arc 52 = .ok (.lreturn, 1) := by decide +kernel
theorem dX6_arc_53 : decode cX6_arc 53 = .ok (.aload_n 0, 1) := by decide +kernel
theorem dX6_arc_54 : decode cX6_arc 54 = .ok (.iload_n 1, 1) := by decide +kernel
theorem dX6_arc_55 : decode cX6_arc 55 = .ok (.iload_n 2, 1) := by decide +kernel
theorem dX6_arc_56 : decode cX6_arc 56 = .ok (.iload_n 3, 1) := by decide +kernel
theorem dX6_arc_57 : decode cX6_arc 57 = .ok (.invokevirtual 177, 3) := by decide +kernel
theorem dX6_arc_60 : decode cX6_arc 60 = .ok (.aload_n 0, 1) := by decide +kernel
theorem dX6_arc_61 : decode cX6_arc 61 = .ok (.getfield 42, 3) := by decide +kernel
theorem dX6_arc_64 : decode cX6_arc 64 = .ok (.iload 5, 2) := by decide +kernel
theorem dX6_arc_66 : decode cX6_arc 66 = .ok (.iload 4, 2) := by decide +kernel
theorem dX6_arc_68 : decode cX6_arc 68 = .ok (.i2l, 1) := by decide +kernel
theorem dX6_arc_69 : decode cX6_arc 69 = .ok (.invokevirtual 181, 3) := by decide +kernel
theorem dX6_arc_72 : decode cX6_arc 72 = .ok (.aload_n 0, 1) := by decide +kernel
theorem dX6_arc_73 : decode cX6_arc 73 = .ok (.getfield 42, 3) := by decide +kernel
theorem dX6_arc_76 : decode cX6_arc 76 = .ok (.invokevirtual 185, 3) := by decide +kernel
theorem dX6_arc_79 : decode cX6_arc 79 = .ok (.iload 6, 2) := by decide +kernel
theorem dX6_arc_81 : decode cX6_arc 81 = .ok (.invokestatic 189, 3) := by decide +kernel
theorem dX6_arc_84 : decode cX6_arc 84 = .ok (.lreturn, 1) := by decide +kernel
set_option maxRecDepth 20000 in
theorem ggX6_hits_X6_areHeld : GoodIn wsX6_hits wsX6_areHeld := goodIn_r _ [7, 1, 8, 9, 10, 11, 12, 13, 70, 71, 72, 73, 74, 75, 76, 77, 78, 79, 80] (by decide +kernel) (by decide +kernel)
set_option maxRecDepth 20000 in
theorem gX6_hits_X6_areHeld : GoodIn wsX6_hits (wsV RX6 159 RX6 yX6_areHeld wsX6_areHeld) := goodIn_app (goodIn_of _ (by decide +kernel)) ggX6_hits_X6_areHeld
set_option maxRecDepth 20000 in
theorem ggX6_hits_X6_areAnySame : GoodIn wsX6_hits wsX6_areAnySame := goodIn_r _ [16] (by decide +kernel) (by decide +kernel)
set_option maxRecDepth 20000 in
theorem gX6_hits_X6_areAnySame : GoodIn wsX6_hits (va_wsS RX6 164 yX6_areAnySame wsX6_areAnySame) := goodIn_app (goodIn_of _ (by decide +kernel)) ggX6_hits_X6_areAnySame
set_option maxRecDepth 20000 in
theorem ggX6_hits_X6_areUsable : GoodIn wsX6_hits wsX6_areUsable := goodIn_r _ [20, 1, 21, 22, 23, 11, 24, 25, 70, 71, 72, 73, 74, 75, 76, 77, 78, 79, 80] (by decide +kernel) (by decide +kernel)
set_option maxRecDepth 20000 in
theorem gX6_hits_X6_areUsable : GoodIn wsX6_hits (wsV RX6 172 RX6 yX6_areUsable wsX6_areUsable) := goodIn_app (goodIn_of _ (by decide +kernel)) ggX6_hits_X6_areUsable
set_option maxRecDepth 20000 in
theorem ggX6_hits_X6_layInOrder : GoodIn wsX6_hits wsX6_layInOrder := goodIn_r _ [29, 30, 31, 32, 33, 34, 35, 36, 2, 37, 38, 39, 40, 41, 42, 43, 44, 70, 71, 72, 73, 74, 75, 76, 77, 78, 81, 82, 83, 84] (by decide +kernel) (by decide +kernel)
set_option maxRecDepth 20000 in
theorem gX6_hits_X6_layInOrder : GoodIn wsX6_hits (wsV RX6 177 RX6 yX6_layInOrder wsX6_layInOrder) := goodIn_app (goodIn_of _ (by decide +kernel)) ggX6_hits_X6_layInOrder
set_option maxRecDepth 20000 in
theorem ggX6_hits_X2_usable : GoodIn wsX6_hits wsX2_usable := goodIn_r _ [48, 13, 49, 22, 23, 11, 24, 25, 79, 80] (by decide +kernel) (by decide +kernel)
set_option maxRecDepth 20000 in
theorem gX6_hits_X2_usable : GoodIn wsX6_hits (wsV RX6 109 RX2 yX2_usable wsX2_usable) := goodIn_app (goodIn_of _ (by decide +kernel)) ggX6_hits_X2_usable
set_option maxRecDepth 20000 in
theorem ggX6_hits_X0_missedOf : GoodIn wsX6_hits wsX0_missedOf := goodIn_r _ [53, 54, 55, 56, 57, 58, 32, 59, 60, 61, 62, 40, 63, 42, 43, 44, 64, 6, 65, 66, 67, 68, 69, 81, 82, 83, 84, 79, 80] (by decide +kernel) (by decide +kernel)
set_option maxRecDepth 20000 in
theorem gX6_hits_X0_missedOf : GoodIn wsX6_hits (wsV RX6 115 RX0 yX0_missedOf wsX0_missedOf) := goodIn_app (goodIn_of _ (by decide +kernel)) ggX6_hits_X0_missedOf
theorem dX6_hits_0 : decode cX6_hits 0 = .ok (.aload_n 0, 1) := by decide +kernel
theorem dX6_hits_1 : decode cX6_hits 1 = .ok (.iload_n 1, 1) := by decide +kernel
theorem dX6_hits_2 : decode cX6_hits 2 = .ok (.iload_n 2, 1) := by decide +kernel
theorem dX6_hits_3 : decode cX6_hits 3 = .ok (.iload_n 3, 1) := by decide +kernel
theorem dX6_hits_4 : decode cX6_hits 4 = .ok (.invokevirtual 159, 3) := by decide +kernel
theorem dX6_hits_7 : decode cX6_hits 7 = .ok (.ifCond .ne 5, 3) := by decide +kernel
theorem dX6_hits_10 : decode cX6_hits 10 = .ok (.iconst (-1), 1) := by decide +kernel
theorem dX6_hits_11 : decode cX6_hits 11 = .ok (.ireturn, 1) := by decide +kernel
theorem dX6_hits_12 : decode cX6_hits 12 = .ok (.iload_n 1, 1) := by decide +kernel
theorem dX6_hits_13 : decode cX6_hits 13 = .ok (.iload_n 2, 1) := by decide +kernel
theorem dX6_hits_14 : decode cX6_hits 14 = .ok (.iload_n 3, 1) := by decide +kernel
theorem dX6_hits_15 : decode cX6_hits 15 = .ok (.invokestatic 164, 3) := by decide +kernel
theorem dX6_hits_18 : decode cX6_hits 18 = .ok (.ifCond .eq 6, 3) := by decide +kernel
theorem dX6_hits_21 : decode cX6_hits 21 = .ok (.bipush (-2), 2) := by decide +kernel
theorem dX6_hits_23 : decode cX6_hits 23 = .ok (.ireturn, 1) := by decide +kernel
theorem dX6_hits_24 : decode cX6_hits 24 = .ok (.aload_n 0, 1) := by decide +kernel
theorem dX6_hits_25 : decode cX6_hits 25 = .ok (.iload_n 1, 1) := by decide +kernel
theorem dX6_hits_26 : decode cX6_hits 26 = .ok (.iload_n 2, 1) := by decide +kernel
theorem dX6_hits_27 : decode cX6_hits 27 = .ok (.iload_n 3, 1) := by decide +kernel
theorem dX6_hits_28 : decode cX6_hits 28 = .ok (.invokevirtual 172, 3) := by decide +kernel
theorem dX6_hits_31 : decode cX6_hits 31 = .ok (.ifCond .ne 6, 3) := by decide +kernel
theorem dX6_hits_34 : decode cX6_hits 34 = .ok (.bipush (-4), 2) := by decide +kernel
theorem dX6_hits_36 : decode cX6_hits 36 = .ok (.ireturn, 1) := by decide +kernel
theorem dX6_hits_37 : decode cX6_hits 37 = .ok (.aload_n 0, 1) := by decide +kernel
theorem dX6_hits_38 : decode cX6_hits 38 = .ok (.iload_n 1, 1) := by decide +kernel
theorem dX6_hits_39 : decode cX6_hits 39 = .ok (.iload_n 2, 1) := by decide +kernel
theorem dX6_hits_40 : decode cX6_hits 40 = .ok (.iload_n 3, 1) := by decide +kernel
theorem dX6_hits_41 : decode cX6_hits 41 = .ok (.invokevirtual 177, 3) := by decide +kernel
theorem dX6_hits_44 : decode cX6_hits 44 = .ok (.aload_n 0, 1) := by decide +kernel
theorem dX6_hits_45 : decode cX6_hits 45 = .ok (.getfield 10, 3) := by decide +kernel
theorem dX6_hits_48 : decode cX6_hits 48 = .ok (.invokevirtual 109, 3) := by decide +kernel
theorem dX6_hits_51 : decode cX6_hits 51 = .ok (.istore 4, 2) := by decide +kernel
theorem dX6_hits_53 : decode cX6_hits 53 = .ok (.iload 4, 2) := by decide +kernel
theorem dX6_hits_55 : decode cX6_hits 55 = .ok (.aload_n 0, 1) := by decide +kernel
theorem dX6_hits_56 : decode cX6_hits 56 = .ok (.getfield 42, 3) := by decide +kernel
theorem dX6_hits_59 : decode cX6_hits 59 = .ok (.iload 4, 2) := by decide +kernel
theorem dX6_hits_61 : decode cX6_hits 61 = .ok (.invokevirtual 115, 3) := by decide +kernel
theorem dX6_hits_64 : decode cX6_hits 64 = .ok (.iconst (-1), 1) := by decide +kernel
theorem dX6_hits_65 : decode cX6_hits 65 = .ok (.ixor, 1) := by decide +kernel
theorem dX6_hits_66 : decode cX6_hits 66 = .ok (.iand, 1) := by decide +kernel
theorem dX6_hits_67 : decode cX6_hits 67 = .ok (.ireturn, 1) := by decide +kernel
set_option maxRecDepth 20000 in
theorem ggX6_best_X6_isWithin : GoodIn wsX6_best wsX6_isWithin := goodIn_r _ [6] (by decide +kernel) (by decide +kernel)
set_option maxRecDepth 20000 in
theorem gX6_best_X6_isWithin : GoodIn wsX6_best (va_wsS RX6 86 yX6_isWithin wsX6_isWithin) := goodIn_app (goodIn_of _ (by decide +kernel)) ggX6_best_X6_isWithin
set_option maxRecDepth 20000 in
theorem ggX6_best_X2_usable : GoodIn wsX6_best wsX2_usable := goodIn_r _ [11, 12, 13, 14, 15, 10, 16, 17, 77, 78] (by decide +kernel) (by decide +kernel)
set_option maxRecDepth 20000 in
theorem gX6_best_X2_usable : GoodIn wsX6_best (wsV RX6 109 RX2 yX2_usable wsX2_usable) := goodIn_app (goodIn_of _ (by decide +kernel)) ggX6_best_X2_usable
set_option maxRecDepth 20000 in
theorem ggX6_best_X0_layBest : GoodIn wsX6_best wsX0_layBest := goodIn_r _ [22, 23, 24, 25, 26, 27, 21, 28, 29, 30, 31, 32, 33, 34, 35, 36, 37, 38, 39, 40, 41, 42, 43, 44, 45, 5, 46, 47, 48, 49, 50, 51, 52, 53, 54, 55, 56, 57, 58, 59, 60, 61, 79, 80, 81, 82, 77, 78] (by decide +kernel) (by decide +kernel)
set_option maxRecDepth 20000 in
theorem gX6_best_X0_layBest : GoodIn wsX6_best (wsV RX6 112 RX0 yX0_layBest wsX0_layBest) := goodIn_app (goodIn_of _ (by decide +kernel)) ggX6_best_X0_layBest
set_option maxRecDepth 20000 in
theorem ggX6_best_X0_missedOf : GoodIn wsX6_best wsX0_missedOf := goodIn_r _ [35, 23, 24, 36, 37, 38, 39, 40, 41, 42, 43, 21, 44, 29, 30, 31, 45, 5, 46, 47, 48, 49, 50, 79, 80, 81, 82, 77, 78] (by decide +kernel) (by decide +kernel)
set_option maxRecDepth 20000 in
theorem gX6_best_X0_missedOf : GoodIn wsX6_best (wsV RX6 115 RX0 yX0_missedOf wsX0_missedOf) := goodIn_app (goodIn_of _ (by decide +kernel)) ggX6_best_X0_missedOf
set_option maxRecDepth 20000 in
theorem ggX6_best_J6_bitCount_0f7a4 : GoodIn wsX6_best wsJ6_bitCount_0f7a4 := goodIn_r _ [54, 55, 56, 57] (by decide +kernel) (by decide +kernel)
set_option maxRecDepth 20000 in
theorem gX6_best_J6_bitCount_0f7a4 : GoodIn wsX6_best (va_wsS RX6 100 yJ6_bitCount_0f7a4 wsJ6_bitCount_0f7a4) := goodIn_app (goodIn_of _ (by decide +kernel)) ggX6_best_J6_bitCount_0f7a4
set_option maxRecDepth 20000 in
theorem ggX6_best_X0_photoOf : GoodIn wsX6_best wsX0_photoOf := goodIn_r _ [67, 29, 30, 31, 79, 80, 81, 82] (by decide +kernel) (by decide +kernel)
set_option maxRecDepth 20000 in
theorem gX6_best_X0_photoOf : GoodIn wsX6_best (wsV RX6 193 RX0 yX0_photoOf wsX0_photoOf) := goodIn_app (goodIn_of _ (by decide +kernel)) ggX6_best_X0_photoOf
theorem dX6_best_0 : decode cX6_best 0 = .ok (.iload_n 1, 1) := by decide +kernel
theorem dX6_best_1 : decode cX6_best 1 = .ok (.iconst 0, 1) := by decide +kernel
theorem dX6_best_2 : decode cX6_best 2 = .ok (.iconst 4, 1) := by decide +kernel
theorem dX6_best_3 : decode cX6_best 3 = .ok (.invokestatic 86, 3) := by decide +kernel
theorem dX6_best_6 : decode cX6_best 6 = .ok (.ifCond .ne 6, 3) := by decide +kernel
theorem dX6_best_9 : decode cX6_best 9 = .ok (.bipush (-2), 2) := by decide +kernel
theorem dX6_best_11 : decode cX6_best 11 = .ok (.ireturn, 1) := by decide +kernel
theorem dX6_best_12 : decode cX6_best 12 = .ok (.aload_n 0, 1) := by decide +kernel
theorem dX6_best_13 : decode cX6_best 13 = .ok (.getfield 10, 3) := by decide +kernel
theorem dX6_best_16 : decode cX6_best 16 = .ok (.invokevirtual 109, 3) := by decide +kernel
theorem dX6_best_19 : decode cX6_best 19 = .ok (.istore_n 2, 1) := by decide +kernel
theorem dX6_best_20 : decode cX6_best 20 = .ok (.aload_n 0, 1) := by decide +kernel
theorem dX6_best_21 : decode cX6_best 21 = .ok (.getfield 42, 3) := by decide +kernel
theorem dX6_best_24 : decode cX6_best 24 = .ok (.iload_n 2, 1) := by decide +kernel
theorem dX6_best_25 : decode cX6_best 25 = .ok (.invokevirtual 112, 3) := by decide +kernel
theorem dX6_best_28 : decode cX6_best 28 = .ok (.ifCond .ne 6, 3) := by decide +kernel
theorem dX6_best_31 : decode cX6_best 31 = .ok (.bipush (-4), 2) := by decide +kernel
theorem dX6_best_33 : decode cX6_best 33 = .ok (.ireturn, 1) := by decide +kernel
theorem dX6_best_34 : decode cX6_best 34 = .ok (.iload_n 1, 1) := by decide +kernel
theorem dX6_best_35 : decode cX6_best 35 = .ok (.lookupswitch 46 #[(3, 25), (4, 37)], 25) := by decide +kernel
theorem dX6_best_60 : decode cX6_best 60 = .ok (.aload_n 0, 1) := by decide +kernel
theorem dX6_best_61 : decode cX6_best 61 = .ok (.getfield 42, 3) := by decide +kernel
theorem dX6_best_64 : decode cX6_best 64 = .ok (.iload_n 2, 1) := by decide +kernel
theorem dX6_best_65 : decode cX6_best 65 = .ok (.invokevirtual 115, 3) := by decide +kernel
theorem dX6_best_68 : decode cX6_best 68 = .ok (.invokestatic 100, 3) := by decide +kernel
theorem dX6_best_71 : decode cX6_best 71 = .ok (.ireturn, 1) := by decide +kernel
theorem dX6_best_72 : decode cX6_best 72 = .ok (.aload_n 0, 1) := by decide +kernel
theorem dX6_best_73 : decode cX6_best 73 = .ok (.getfield 42, 3) := by decide +kernel
theorem dX6_best_76 : decode cX6_best 76 = .ok (.iload_n 2, 1) := by decide +kernel
theorem dX6_best_77 : decode cX6_best 77 = .ok (.invokevirtual 115, 3) := by decide +kernel
theorem dX6_best_80 : decode cX6_best 80 = .ok (.ireturn, 1) := by decide +kernel
theorem dX6_best_81 : decode cX6_best 81 = .ok (.aload_n 0, 1) := by decide +kernel
theorem dX6_best_82 : decode cX6_best 82 = .ok (.getfield 42, 3) := by decide +kernel
theorem dX6_best_85 : decode cX6_best 85 = .ok (.iload_n 1, 1) := by decide +kernel
theorem dX6_best_86 : decode cX6_best 86 = .ok (.invokevirtual 193, 3) := by decide +kernel
theorem dX6_best_89 : decode cX6_best 89 = .ok (.ireturn, 1) := by decide +kernel
set_option maxRecDepth 20000 in
theorem ggX6_bestAt_X6_isAskForFraction : GoodIn wsX6_bestAt wsX6_isAskForFraction := goodIn_r _ [8, 9, 10, 7, 11] (by decide +kernel) (by decide +kernel)
set_option maxRecDepth 20000 in
theorem gX6_bestAt_X6_isAskForFraction : GoodIn wsX6_bestAt (va_wsS RX6 167 yX6_isAskForFraction wsX6_isAskForFraction) := goodIn_app (goodIn_of _ (by decide +kernel)) ggX6_bestAt_X6_isAskForFraction
set_option maxRecDepth 20000 in
theorem ggX6_bestAt_X2_usable : GoodIn wsX6_bestAt wsX2_usable := goodIn_r _ [16, 17, 18, 19, 20, 15, 21, 22, 89, 90] (by decide +kernel) (by decide +kernel)
set_option maxRecDepth 20000 in
theorem gX6_bestAt_X2_usable : GoodIn wsX6_bestAt (wsV RX6 109 RX2 yX2_usable wsX2_usable) := goodIn_app (goodIn_of _ (by decide +kernel)) ggX6_bestAt_X2_usable
set_option maxRecDepth 20000 in
theorem ggX6_bestAt_X0_layBest : GoodIn wsX6_bestAt wsX0_layBest := goodIn_r _ [27, 28, 29, 30, 31, 32, 26, 33, 34, 35, 36, 37, 38, 39, 40, 41, 42, 43, 44, 45, 46, 47, 48, 49, 50, 7, 51, 52, 53, 54, 55, 56, 57, 58, 59, 60, 61, 62, 63, 64, 65, 66, 91, 92, 93, 94, 89, 90] (by decide +kernel) (by decide +kernel)
set_option maxRecDepth 20000 in
theorem gX6_bestAt_X0_layBest : GoodIn wsX6_bestAt (wsV RX6 112 RX0 yX0_layBest wsX0_layBest) := goodIn_app (goodIn_of _ (by decide +kernel)) ggX6_bestAt_X0_layBest
set_option maxRecDepth 20000 in
theorem ggX6_bestAt_X0_upper : GoodIn wsX6_bestAt wsX0_upper := goodIn_r _ [55, 28, 41, 34, 35, 36, 91, 92, 93, 94, 89, 90] (by decide +kernel) (by decide +kernel)
set_option maxRecDepth 20000 in
theorem gX6_bestAt_X0_upper : GoodIn wsX6_bestAt (wsV RX6 181 RX0 yX0_upper wsX0_upper) := goodIn_app (goodIn_of _ (by decide +kernel)) ggX6_bestAt_X0_upper
set_option maxRecDepth 20000 in
theorem ggX6_bestAt_X0_lower : GoodIn wsX6_bestAt wsX0_lower := goodIn_r _ [49, 28, 41, 34, 35, 36, 91, 92, 93, 94, 89, 90] (by decide +kernel) (by decide +kernel)
set_option maxRecDepth 20000 in
theorem gX6_bestAt_X0_lower : GoodIn wsX6_bestAt (wsV RX6 185 RX0 yX0_lower wsX0_lower) := goodIn_app (goodIn_of _ (by decide +kernel)) ggX6_bestAt_X0_lower
set_option maxRecDepth 20000 in
theorem ggX6_bestAt_X6_partOf : GoodIn wsX6_bestAt wsX6_partOf := goodIn_r _ [71, 72, 43, 44, 45, 73, 74, 75, 76, 77, 78, 7, 79] (by decide +kernel) (by decide +kernel)
set_option maxRecDepth 20000 in
theorem gX6_bestAt_X6_partOf : GoodIn wsX6_bestAt (va_wsS RX6 189 yX6_partOf wsX6_partOf) := goodIn_app (goodIn_of _ (by decide +kernel)) ggX6_bestAt_X6_partOf
theorem dX6_bestAt_0 : decode cX6_bestAt 0 = .ok (.iload_n 1, 1) := by decide +kernel
theorem dX6_bestAt_1 : decode cX6_bestAt 1 = .ok (.iload_n 2, 1) := by decide +kernel
theorem dX6_bestAt_2 : decode cX6_bestAt 2 = .ok (.iload_n 3, 1) := by decide +kernel
theorem dX6_bestAt_3 : decode cX6_bestAt 3 = .ok (.invokestatic 167, 3) := by decide +kernel
theorem dX6_bestAt_6 : decode cX6_bestAt 6 = .ok (.ifCond .ne 7, 3) := by decide +kernel
theorem dX6_bestAt_9 : decode cX6_bestAt 9 = .ok (.ldc2_w 170, 3) := by decide +kernel
theorem dX6_bestAt_12 : decode cX6_bestAt 12 = .ok (.lreturn, 1) := by decide +kernel
theorem dX6_bestAt_13 : decode cX6_bestAt 13 = .ok (.aload_n 0, 1) := by decide +kernel
theorem dX6_bestAt_14 : decode cX6_bestAt 14 = .ok (.getfield 42, 3) := by decide +kernel
theorem dX6_bestAt_17 : decode cX6_bestAt 17 = .ok (.aload_n 0, 1) := by decide +kernel
theorem dX6_bestAt_18 : decode cX6_bestAt 18 = .ok (.getfield 10, 3) := by decide +kernel
theorem dX6_bestAt_21 : decode cX6_bestAt 21 = .ok (.invokevirtual 109, 3) := by decide +kernel
theorem dX6_bestAt_24 : decode cX6_bestAt 24 = .ok (.invokevirtual 112, 3) := by decide +kernel
theorem dX6_bestAt_27 : decode cX6_bestAt 27 = .ok (.ifCond .ne 7, 3) := by decide +kernel
theorem dX6_bestAt_30 : decode cX6_bestAt 30 = .ok (.ldc2_w 175, 3) := by decide +kernel
theorem dX6_bestAt_33 : decode cX6_bestAt 33 = .ok (.lreturn, 1) := by decide +kernel
theorem dX6_bestAt_34 : decode cX6_bestAt 34 = .ok (.aload_n 0, 1) := by decide +kernel
theorem dX6_bestAt_35 : decode cX6_bestAt 35 = .ok (.getfield 42, 3) := by decide +kernel
theorem dX6_bestAt_38 : decode cX6_bestAt 38 = .ok (.iload_n 2, 1) := by decide +kernel
theorem dX6_bestAt_39 : decode cX6_bestAt 39 = .ok (.iload_n 1, 1) := by decide +kernel
theorem dX6_bestAt_40 : decode cX6_bestAt 40 = .ok (.i2l, 1) := by decide +kernel
theorem dX6_bestAt_41 : decode cX6_bestAt 41 = .ok (.invokevirtual 181, 3) := by decide +kernel
theorem dX6_bestAt_44 : decode cX6_bestAt 44 = .ok (.aload_n 0, 1) := by decide +kernel
theorem dX6_bestAt_45 : decode cX6_bestAt 45 = .ok (.getfield 42, 3) := by decide +kernel
theorem dX6_bestAt_48 : decode cX6_bestAt 48 = .ok (.invokevirtual 185, 3) := by decide +kernel
theorem dX6_bestAt_51 : decode cX6_bestAt 51 = .ok (.iload_n 3, 1) := by decide +kernel
theorem dX6_bestAt_52 : decode cX6_bestAt 52 = .ok (.invokestatic 189, 3) := by decide +kernel
theorem dX6_bestAt_55 : decode cX6_bestAt 55 = .ok (.lreturn, 1) := by decide +kernel
set_option maxRecDepth 20000 in
theorem ggX6_lands_X2_usable : GoodIn wsX6_lands wsX2_usable := goodIn_r _ [9, 10, 11, 12, 13, 8, 14, 15, 71, 72] (by decide +kernel) (by decide +kernel)
set_option maxRecDepth 20000 in
theorem gX6_lands_X2_usable : GoodIn wsX6_lands (wsV RX6 109 RX2 yX2_usable wsX2_usable) := goodIn_app (goodIn_of _ (by decide +kernel)) ggX6_lands_X2_usable
set_option maxRecDepth 20000 in
theorem ggX6_lands_X0_layBest : GoodIn wsX6_lands wsX0_layBest := goodIn_r _ [20, 21, 22, 23, 24, 25, 19, 26, 27, 28, 29, 30, 31, 32, 33, 34, 35, 36, 37, 38, 39, 40, 41, 42, 43, 44, 45, 46, 47, 48, 49, 50, 51, 52, 53, 54, 55, 56, 57, 58, 59, 60, 73, 74, 75, 76, 71, 72] (by decide +kernel) (by decide +kernel)
set_option maxRecDepth 20000 in
theorem gX6_lands_X0_layBest : GoodIn wsX6_lands (wsV RX6 112 RX0 yX0_layBest wsX0_layBest) := goodIn_app (goodIn_of _ (by decide +kernel)) ggX6_lands_X0_layBest
set_option maxRecDepth 20000 in
theorem ggX6_lands_X0_upper : GoodIn wsX6_lands wsX0_upper := goodIn_r _ [49, 21, 34, 27, 28, 29, 73, 74, 75, 76, 71, 72] (by decide +kernel) (by decide +kernel)
set_option maxRecDepth 20000 in
theorem gX6_lands_X0_upper : GoodIn wsX6_lands (wsV RX6 181 RX0 yX0_upper wsX0_upper) := goodIn_app (goodIn_of _ (by decide +kernel)) ggX6_lands_X0_upper
theorem dX6_lands_0 : decode cX6_lands 0 = .ok (.aload_n 0, 1) := by decide +kernel
theorem dX6_lands_1 : decode cX6_lands 1 = .ok (.getfield 42, 3) := by decide +kernel
theorem dX6_lands_4 : decode cX6_lands 4 = .ok (.aload_n 0, 1) := by decide +kernel
theorem dX6_lands_5 : decode cX6_lands 5 = .ok (.getfield 10, 3) := by decide +kernel
theorem dX6_lands_8 : decode cX6_lands 8 = .ok (.invokevirtual 109, 3) := by decide +kernel
theorem dX6_lands_11 : decode cX6_lands 11 = .ok (.invokevirtual 112, 3) := by decide +kernel
theorem dX6_lands_14 : decode cX6_lands 14 = .ok (.ifCond .ne 6, 3) := by decide +kernel
theorem dX6_lands_17 : decode cX6_lands 17 = .ok (.bipush (-4), 2) := by decide +kernel
theorem dX6_lands_19 : decode cX6_lands 19 = .ok (.ireturn, 1) := by decide +kernel
theorem dX6_lands_20 : decode cX6_lands 20 = .ok (.aload_n 0, 1) := by decide +kernel
theorem dX6_lands_21 : decode cX6_lands 21 = .ok (.getfield 10, 3) := by decide +kernel
theorem dX6_lands_24 : decode cX6_lands 24 = .ok (.getfield 90, 3) := by decide +kernel
theorem dX6_lands_27 : decode cX6_lands 27 = .ok (.iconst 0, 1) := by decide +kernel
theorem dX6_lands_28 : decode cX6_lands 28 = .ok (.aaload, 1) := by decide +kernel
theorem dX6_lands_29 : decode cX6_lands 29 = .ok (.aload_n 0, 1) := by decide +kernel
theorem dX6_lands_30 : decode cX6_lands 30 = .ok (.getfield 42, 3) := by decide +kernel
theorem dX6_lands_33 : decode cX6_lands 33 = .ok (.getfield 196, 3) := by decide +kernel
theorem dX6_lands_36 : decode cX6_lands 36 = .ok (.iaload, 1) := by decide +kernel
theorem dX6_lands_37 : decode cX6_lands 37 = .ok (.istore_n 1, 1) := by decide +kernel
theorem dX6_lands_38 : decode cX6_lands 38 = .ok (.iload_n 1, 1) := by decide +kernel
theorem dX6_lands_39 : decode cX6_lands 39 = .ok (.bipush 99, 2) := by decide +kernel
theorem dX6_lands_41 : decode cX6_lands 41 = .ok (.if_icmp .gt 26, 3) := by decide +kernel
theorem dX6_lands_44 : decode cX6_lands 44 = .ok (.aload_n 0, 1) := by decide +kernel
theorem dX6_lands_45 : decode cX6_lands 45 = .ok (.getfield 42, 3) := by decide +kernel
theorem dX6_lands_48 : decode cX6_lands 48 = .ok (.iconst 1, 1) := by decide +kernel
theorem dX6_lands_49 : decode cX6_lands 49 = .ok (.iload_n 1, 1) := by decide +kernel
theorem dX6_lands_50 : decode cX6_lands 50 = .ok (.i2l, 1) := by decide +kernel
theorem dX6_lands_51 : decode cX6_lands 51 = .ok (.invokevirtual 181, 3) := by decide +kernel
theorem dX6_lands_54 : decode cX6_lands 54 = .ok (.lconst 0, 1) := by decide +kernel
theorem dX6_lands_55 : decode cX6_lands 55 = .ok (.lcmp, 1) := by decide +kernel
theorem dX6_lands_56 : decode cX6_lands 56 = .ok (.ifCond .gt 5, 3) := by decide +kernel
theorem dX6_lands_59 : decode cX6_lands 59 = .ok (.iload_n 1, 1) := by decide +kernel
theorem dX6_lands_60 : decode cX6_lands 60 = .ok (.ireturn, 1) := by decide +kernel
theorem dX6_lands_61 : decode cX6_lands 61 = .ok (.iinc 1 1, 3) := by decide +kernel
theorem dX6_lands_64 : decode cX6_lands 64 = .ok (.goto (-26), 3) := by decide +kernel
theorem dX6_lands_67 : decode cX6_lands 67 = .ok (.bipush (-5), 2) := by decide +kernel
theorem dX6_lands_69 : decode cX6_lands 69 = .ok (.ireturn, 1) := by decide +kernel
set_option maxRecDepth 20000 in
theorem ggX6_track_X6_isWithin : GoodIn wsX6_track wsX6_isWithin := goodIn_r _ [6] (by decide +kernel) (by decide +kernel)
set_option maxRecDepth 20000 in
theorem gX6_track_X6_isWithin : GoodIn wsX6_track (va_wsS RX6 86 yX6_isWithin wsX6_isWithin) := goodIn_app (goodIn_of _ (by decide +kernel)) ggX6_track_X6_isWithin
set_option maxRecDepth 20000 in
theorem ggX6_track_X5_plan : GoodIn wsX6_track wsX5_plan := goodIn_r _ [11, 12, 13, 14, 15, 16, 17, 18, 19, 20, 21, 22, 23, 24, 10, 25, 26, 27, 28, 29, 30, 31, 32, 33, 34, 35, 36, 37, 38, 39, 40, 41, 42, 43, 44, 45, 46, 47, 48, 49, 50, 51, 52, 53, 54, 55, 56, 57, 58, 59, 60, 61, 62, 63, 64, 65, 66, 67, 68, 5, 69, 70, 71, 72, 73, 74, 75, 76, 77, 78, 79, 80, 81, 82, 83, 84, 85, 111, 112, 113, 114, 115, 116, 117, 118, 119, 120] (by decide +kernel) (by decide +kernel)
set_option maxRecDepth 20000 in
theorem gX6_track_X5_plan : GoodIn wsX6_track (wsV RX6 199 RX5 yX5_plan wsX5_plan) := goodIn_app (goodIn_of _ (by decide +kernel)) ggX6_track_X5_plan
set_option maxRecDepth 20000 in
theorem ggX6_track_X5_rowAt : GoodIn wsX6_track wsX5_rowAt := goodIn_r _ [89, 13, 14, 15, 26, 27, 28, 10, 29, 30, 31, 32, 19, 33, 34, 35, 17, 18, 20, 21, 111, 112, 113, 114, 115, 116] (by decide +kernel) (by decide +kernel)
set_option maxRecDepth 20000 in
theorem gX6_track_X5_rowAt : GoodIn wsX6_track (wsV RX6 202 RX5 yX5_rowAt wsX5_rowAt) := goodIn_app (goodIn_of _ (by decide +kernel)) ggX6_track_X5_rowAt
set_option maxRecDepth 20000 in
theorem ggX6_track_J6_numberOfTrailingZeros_0f7a4 : GoodIn wsX6_track wsJ6_numberOfTrailingZeros_0f7a4 := goodIn_r _ [92, 93] (by decide +kernel) (by decide +kernel)
set_option maxRecDepth 20000 in
theorem gX6_track_J6_numberOfTrailingZeros_0f7a4 : GoodIn wsX6_track (va_wsS RX6 205 yJ6_numberOfTrailingZeros_0f7a4 wsJ6_numberOfTrailingZeros_0f7a4) := goodIn_app (goodIn_of _ (by decide +kernel)) ggX6_track_J6_numberOfTrailingZeros_0f7a4
set_option maxRecDepth 20000 in
theorem ggX6_track_J6_numberOfLeadingZeros_0f7a4 : GoodIn wsX6_track wsJ6_numberOfLeadingZeros_0f7a4 := goodIn_r _ [96, 93] (by decide +kernel) (by decide +kernel)
set_option maxRecDepth 20000 in
theorem gX6_track_J6_numberOfLeadingZeros_0f7a4 : GoodIn wsX6_track (va_wsS RX6 208 yJ6_numberOfLeadingZeros_0f7a4 wsJ6_numberOfLeadingZeros_0f7a4) := goodIn_app (goodIn_of _ (by decide +kernel)) ggX6_track_J6_numberOfLeadingZeros_0f7a4
set_option maxRecDepth 20000 in
theorem ggX6_track_X0_layBest : GoodIn wsX6_track wsX0_layBest := goodIn_r _ [45, 46, 47, 48, 49, 50, 44, 51, 52, 53, 54, 55, 56, 57, 58, 59, 60, 61, 62, 63, 64, 65, 66, 67, 68, 5, 69, 70, 71, 72, 73, 74, 75, 76, 77, 78, 79, 80, 81, 82, 83, 84, 117, 118, 119, 120, 115, 116] (by decide +kernel) (by decide +kernel)
set_option maxRecDepth 20000 in
theorem gX6_track_X0_layBest : GoodIn wsX6_track (wsV RX6 112 RX0 yX0_layBest wsX0_layBest) := goodIn_app (goodIn_of _ (by decide +kernel)) ggX6_track_X0_layBest
set_option maxRecDepth 20000 in
theorem ggX6_track_X0_photoOf : GoodIn wsX6_track wsX0_photoOf := goodIn_r _ [101, 52, 53, 54, 117, 118, 119, 120] (by decide +kernel) (by decide +kernel)
set_option maxRecDepth 20000 in
theorem gX6_track_X0_photoOf : GoodIn wsX6_track (wsV RX6 193 RX0 yX0_photoOf wsX0_photoOf) := goodIn_app (goodIn_of _ (by decide +kernel)) ggX6_track_X0_photoOf
theorem dX6_track_0 : decode cX6_track 0 = .ok (.iload_n 1, 1) := by decide +kernel
theorem dX6_track_1 : decode cX6_track 1 = .ok (.ifCond .lt 12, 3) := by decide +kernel
theorem dX6_track_4 : decode cX6_track 4 = .ok (.iload_n 2, 1) := by decide +kernel
theorem dX6_track_5 : decode cX6_track 5 = .ok (.iconst 0, 1) := by decide +kernel
theorem dX6_track_6 : decode cX6_track 6 = .ok (.iconst 5, 1) := by decide +kernel
theorem dX6_track_7 : decode cX6_track 7 = .ok (.invokestatic 86, 3) := by decide +kernel
theorem dX6_track_10 : decode cX6_track 10 = .ok (.ifCond .ne 6, 3) := by decide +kernel
theorem dX6_track_13 : decode cX6_track 13 = .ok (.bipush (-2), 2) := by decide +kernel
theorem dX6_track_15 : decode cX6_track 15 = .ok (.ireturn, 1) := by decide +kernel
theorem dX6_track_16 : decode cX6_track 16 = .ok (.iload_n 1, 1) := by decide +kernel
theorem dX6_track_17 : decode cX6_track 17 = .ok (.aload_n 0, 1) := by decide +kernel
theorem dX6_track_18 : decode cX6_track 18 = .ok (.getfield 51, 3) := by decide +kernel
theorem dX6_track_21 : decode cX6_track 21 = .ok (.invokevirtual 199, 3) := by decide +kernel
theorem dX6_track_24 : decode cX6_track 24 = .ok (.if_icmp .lt 6, 3) := by decide +kernel
theorem dX6_track_27 : decode cX6_track 27 = .ok (.bipush (-5), 2) := by decide +kernel
theorem dX6_track_29 : decode cX6_track 29 = .ok (.ireturn, 1) := by decide +kernel
theorem dX6_track_30 : decode cX6_track 30 = .ok (.aload_n 0, 1) := by decide +kernel
theorem dX6_track_31 : decode cX6_track 31 = .ok (.getfield 51, 3) := by decide +kernel
theorem dX6_track_34 : decode cX6_track 34 = .ok (.iload_n 1, 1) := by decide +kernel
theorem dX6_track_35 : decode cX6_track 35 = .ok (.invokevirtual 202, 3) := by decide +kernel
theorem dX6_track_38 : decode cX6_track 38 = .ok (.istore_n 3, 1) := by decide +kernel
theorem dX6_track_39 : decode cX6_track 39 = .ok (.iload_n 2, 1) := by decide +kernel
theorem dX6_track_40 : decode cX6_track 40 = .ok (.tableswitch 43 0 2 #[28, 33, 41], 28) := by decide +kernel
theorem dX6_track_68 : decode cX6_track 68 = .ok (.iload_n 3, 1) := by decide +kernel
theorem dX6_track_69 : decode cX6_track 69 = .ok (.invokestatic 205, 3) := by decide +kernel
theorem dX6_track_72 : decode cX6_track 72 = .ok (.ireturn, 1) := by decide +kernel
theorem dX6_track_73 : decode cX6_track 73 = .ok (.bipush 31, 2) := by decide +kernel
theorem dX6_track_75 : decode cX6_track 75 = .ok (.iload_n 3, 1) := by decide +kernel
theorem dX6_track_76 : decode cX6_track 76 = .ok (.invokestatic 208, 3) := by decide +kernel
theorem dX6_track_79 : decode cX6_track 79 = .ok (.isub, 1) := by decide +kernel
theorem dX6_track_80 : decode cX6_track 80 = .ok (.ireturn, 1) := by decide +kernel
theorem dX6_track_81 : decode cX6_track 81 = .ok (.iload_n 3, 1) := by decide +kernel
theorem dX6_track_82 : decode cX6_track 82 = .ok (.ireturn, 1) := by decide +kernel
theorem dX6_track_83 : decode cX6_track 83 = .ok (.aload_n 0, 1) := by decide +kernel
theorem dX6_track_84 : decode cX6_track 84 = .ok (.getfield 42, 3) := by decide +kernel
theorem dX6_track_87 : decode cX6_track 87 = .ok (.iload_n 3, 1) := by decide +kernel
theorem dX6_track_88 : decode cX6_track 88 = .ok (.invokevirtual 112, 3) := by decide +kernel
theorem dX6_track_91 : decode cX6_track 91 = .ok (.ifCond .eq 16, 3) := by decide +kernel
theorem dX6_track_94 : decode cX6_track 94 = .ok (.aload_n 0, 1) := by decide +kernel
theorem dX6_track_95 : decode cX6_track 95 = .ok (.getfield 42, 3) := by decide +kernel
theorem dX6_track_98 : decode cX6_track 98 = .ok (.iload_n 2, 1) := by decide +kernel
theorem dX6_track_99 : decode cX6_track 99 = .ok (.iconst 3, 1) := by decide +kernel
theorem dX6_track_100 : decode cX6_track 100 = .ok (.isub, 1) := by decide +kernel
theorem dX6_track_101 : decode cX6_track 101 = .ok (.invokevirtual 193, 3) := by decide +kernel
theorem dX6_track_104 : decode cX6_track 104 = .ok (.goto 5, 3) := by decide +kernel
theorem dX6_track_107 : decode cX6_track 107 = .ok (.bipush (-5), 2) := by decide +kernel
theorem dX6_track_109 : decode cX6_track 109 = .ok (.ireturn, 1) := by decide +kernel
set_option maxRecDepth 20000 in
theorem ggX6_fitsFrom_X2_holds : GoodIn wsX6_fitsFrom wsX2_holds := goodIn_r _ [8, 9, 87, 88] (by decide +kernel) (by decide +kernel)
set_option maxRecDepth 20000 in
theorem gX6_fitsFrom_X2_holds : GoodIn wsX6_fitsFrom (wsV RX6 82 RX2 yX2_holds wsX2_holds) := goodIn_app (goodIn_of _ (by decide +kernel)) ggX6_fitsFrom_X2_holds
set_option maxRecDepth 20000 in
theorem ggX6_fitsFrom_X2_isUsable : GoodIn wsX6_fitsFrom wsX2_isUsable := goodIn_r _ [13, 14, 87, 88] (by decide +kernel) (by decide +kernel)
set_option maxRecDepth 20000 in
theorem gX6_fitsFrom_X2_isUsable : GoodIn wsX6_fitsFrom (wsV RX6 106 RX2 yX2_isUsable wsX2_isUsable) := goodIn_app (goodIn_of _ (by decide +kernel)) ggX6_fitsFrom_X2_isUsable
set_option maxRecDepth 20000 in
theorem ggX6_fitsFrom_X5_between : GoodIn wsX6_fitsFrom wsX5_between := goodIn_r _ [19, 20, 21, 22, 23, 7, 24, 9, 25, 11, 12, 13, 14, 89, 90, 91, 92, 87, 88] (by decide +kernel) (by decide +kernel)
set_option maxRecDepth 20000 in
theorem gX6_fitsFrom_X5_between : GoodIn wsX6_fitsFrom (wsV RX6 211 RX5 yX5_between wsX5_between) := goodIn_app (goodIn_of _ (by decide +kernel)) ggX6_fitsFrom_X5_between
set_option maxRecDepth 20000 in
theorem ggX6_fitsFrom_X5_isFitting : GoodIn wsX6_fitsFrom wsX5_isFitting := goodIn_r _ [29, 30, 31, 32, 33, 34, 35, 36, 37, 38, 39, 40, 41, 42, 43, 44, 45, 46, 47, 48, 49, 50, 51, 52, 53, 54, 55, 56, 57, 58, 59, 60, 61, 62, 63, 64, 65, 66, 67, 68, 69, 70, 71, 72, 73, 74, 75, 76, 89, 90, 91, 92, 93, 94, 95, 96, 87, 88] (by decide +kernel) (by decide +kernel)
set_option maxRecDepth 20000 in
theorem gX6_fitsFrom_X5_isFitting : GoodIn wsX6_fitsFrom (wsV RX6 215 RX5 yX5_isFitting wsX5_isFitting) := goodIn_app (goodIn_of _ (by decide +kernel)) ggX6_fitsFrom_X5_isFitting
set_option maxRecDepth 20000 in
theorem ggX6_fitsFrom_J6_bitCount_0f7a4 : GoodIn wsX6_fitsFrom wsJ6_bitCount_0f7a4 := goodIn_r _ [68, 69, 70, 71] (by decide +kernel) (by decide +kernel)
set_option maxRecDepth 20000 in
theorem gX6_fitsFrom_J6_bitCount_0f7a4 : GoodIn wsX6_fitsFrom (va_wsS RX6 100 yJ6_bitCount_0f7a4 wsJ6_bitCount_0f7a4) := goodIn_app (goodIn_of _ (by decide +kernel)) ggX6_fitsFrom_J6_bitCount_0f7a4
theorem dX6_fitsFrom_0 : decode cX6_fitsFrom 0 = .ok (.aload_n 0, 1) := by decide +kernel
theorem dX6_fitsFrom_1 : decode cX6_fitsFrom 1 = .ok (.getfield 10, 3) := by decide +kernel
theorem dX6_fitsFrom_4 : decode cX6_fitsFrom 4 = .ok (.iload_n 1, 1) := by decide +kernel
theorem dX6_fitsFrom_5 : decode cX6_fitsFrom 5 = .ok (.invokevirtual 82, 3) := by decide +kernel
theorem dX6_fitsFrom_8 : decode cX6_fitsFrom 8 = .ok (.ifCond .ne 5, 3) := by decide +kernel
theorem dX6_fitsFrom_11 : decode cX6_fitsFrom 11 = .ok (.iconst (-1), 1) := by decide +kernel
theorem dX6_fitsFrom_12 : decode cX6_fitsFrom 12 = .ok (.ireturn, 1) := by decide +kernel
theorem dX6_fitsFrom_13 : decode cX6_fitsFrom 13 = .ok (.aload_n 0, 1) := by decide +kernel
theorem dX6_fitsFrom_14 : decode cX6_fitsFrom 14 = .ok (.getfield 10, 3) := by decide +kernel
theorem dX6_fitsFrom_17 : decode cX6_fitsFrom 17 = .ok (.iload_n 1, 1) := by decide +kernel
theorem dX6_fitsFrom_18 : decode cX6_fitsFrom 18 = .ok (.invokevirtual 106, 3) := by decide +kernel
theorem dX6_fitsFrom_21 : decode cX6_fitsFrom 21 = .ok (.ifCond .ne 6, 3) := by decide +kernel
theorem dX6_fitsFrom_24 : decode cX6_fitsFrom 24 = .ok (.bipush (-4), 2) := by decide +kernel
theorem dX6_fitsFrom_26 : decode cX6_fitsFrom 26 = .ok (.ireturn, 1) := by decide +kernel
theorem dX6_fitsFrom_27 : decode cX6_fitsFrom 27 = .ok (.aload_n 0, 1) := by decide +kernel
theorem dX6_fitsFrom_28 : decode cX6_fitsFrom 28 = .ok (.getfield 10, 3) := by decide +kernel
theorem dX6_fitsFrom_31 : decode cX6_fitsFrom 31 = .ok (.getfield 118, 3) := by decide +kernel
theorem dX6_fitsFrom_34 : decode cX6_fitsFrom 34 = .ok (.istore_n 2, 1) := by decide +kernel
theorem dX6_fitsFrom_35 : decode cX6_fitsFrom 35 = .ok (.iload_n 2, 1) := by decide +kernel
theorem dX6_fitsFrom_36 : decode cX6_fitsFrom 36 = .ok (.iload_n 1, 1) := by decide +kernel
theorem dX6_fitsFrom_37 : decode cX6_fitsFrom 37 = .ok (.iconst 1, 1) := by decide +kernel
theorem dX6_fitsFrom_38 : decode cX6_fitsFrom 38 = .ok (.iadd, 1) := by decide +kernel
theorem dX6_fitsFrom_39 : decode cX6_fitsFrom 39 = .ok (.if_icmp .le 35, 3) := by decide +kernel
theorem dX6_fitsFrom_42 : decode cX6_fitsFrom 42 = .ok (.aload_n 0, 1) := by decide +kernel
theorem dX6_fitsFrom_43 : decode cX6_fitsFrom 43 = .ok (.getfield 51, 3) := by decide +kernel
theorem dX6_fitsFrom_46 : decode cX6_fitsFrom 46 = .ok (.iload_n 1, 1) := by decide +kernel
theorem dX6_fitsFrom_47 : decode cX6_fitsFrom 47 = .ok (.iload_n 2, 1) := by decide +kernel
theorem dX6_fitsFrom_48 : decode cX6_fitsFrom 48 = .ok (.invokevirtual 211, 3) := by decide +kernel
theorem dX6_fitsFrom_51 : decode cX6_fitsFrom 51 = .ok (.istore_n 3, 1) := by decide +kernel
theorem dX6_fitsFrom_52 : decode cX6_fitsFrom 52 = .ok (.aload_n 0, 1) := by decide +kernel
theorem dX6_fitsFrom_53 : decode cX6_fitsFrom 53 = .ok (.getfield 51, 3) := by decide +kernel
theorem dX6_fitsFrom_56 : decode cX6_fitsFrom 56 = .ok (.iload_n 3, 1) := by decide +kernel
theorem dX6_fitsFrom_57 : decode cX6_fitsFrom 57 = .ok (.invokevirtual 215, 3) := by decide +kernel
theorem dX6_fitsFrom_60 : decode cX6_fitsFrom 60 = .ok (.ifCond .eq 8, 3) := by decide +kernel
theorem dX6_fitsFrom_63 : decode cX6_fitsFrom 63 = .ok (.iload_n 3, 1) := by decide +kernel
theorem dX6_fitsFrom_64 : decode cX6_fitsFrom 64 = .ok (.invokestatic 100, 3) := by decide +kernel
theorem dX6_fitsFrom_67 : decode cX6_fitsFrom 67 = .ok (.ireturn, 1) := by decide +kernel
theorem dX6_fitsFrom_68 : decode cX6_fitsFrom 68 = .ok (.iinc 2 (-1), 3) := by decide +kernel
theorem dX6_fitsFrom_71 : decode cX6_fitsFrom 71 = .ok (.goto (-36), 3) := by decide +kernel
theorem dX6_fitsFrom_74 : decode cX6_fitsFrom 74 = .ok (.iconst 1, 1) := by decide +kernel
theorem dX6_fitsFrom_75 : decode cX6_fitsFrom 75 = .ok (.ireturn, 1) := by decide +kernel
set_option maxRecDepth 20000 in
theorem ggX6_spin_X6_isWithin : GoodIn wsX6_spin wsX6_isWithin := goodIn_r _ [8] (by decide +kernel) (by decide +kernel)
set_option maxRecDepth 20000 in
theorem gX6_spin_X6_isWithin : GoodIn wsX6_spin (va_wsS RX6 86 yX6_isWithin wsX6_isWithin) := goodIn_app (goodIn_of _ (by decide +kernel)) ggX6_spin_X6_isWithin
set_option maxRecDepth 20000 in
theorem ggX6_spin_X3_search : GoodIn wsX6_spin wsX3_search := goodIn_r _ [13, 14, 15, 16, 17, 18, 19, 20, 21, 22, 23, 24, 25, 26, 27, 28, 29, 30, 31, 32, 33, 34, 35, 36, 37, 38, 39, 12, 40, 41, 42, 43, 44, 45, 46, 47, 48, 49, 50, 51, 52, 53, 54, 55, 56, 57, 58, 59, 60, 61, 62, 63, 64, 65, 66, 67, 68, 69, 70, 71, 72, 73, 74, 75, 76, 87, 88, 89, 90, 91, 92] (by decide +kernel) (by decide +kernel)
set_option maxRecDepth 20000 in
theorem gX6_spin_X3_search : GoodIn wsX6_spin (wsV RX6 153 RX3 yX3_search wsX3_search) := goodIn_app (goodIn_of _ (by decide +kernel)) ggX6_spin_X3_search
set_option maxRecDepth 20000 in
theorem ggX6_spin_J6_bitCount_0f7a4 : GoodIn wsX6_spin wsJ6_bitCount_0f7a4 := goodIn_r _ [73, 74, 75, 76] (by decide +kernel) (by decide +kernel)
set_option maxRecDepth 20000 in
theorem gX6_spin_J6_bitCount_0f7a4 : GoodIn wsX6_spin (va_wsS RX6 100 yJ6_bitCount_0f7a4 wsJ6_bitCount_0f7a4) := goodIn_app (goodIn_of _ (by decide +kernel)) ggX6_spin_J6_bitCount_0f7a4
theorem dX6_spin_0 : decode cX6_spin 0 = .ok (.iload_n 1, 1) := by decide +kernel
theorem dX6_spin_1 : decode cX6_spin 1 = .ok (.iconst 0, 1) := by decide +kernel
theorem dX6_spin_2 : decode cX6_spin 2 = .ok (.iconst 3, 1) := by decide +kernel
theorem dX6_spin_3 : decode cX6_spin 3 = .ok (.invokestatic 86, 3) := by decide +kernel
theorem dX6_spin_6 : decode cX6_spin 6 = .ok (.ifCond .ne 6, 3) := by decide +kernel
theorem dX6_spin_9 : decode cX6_spin 9 = .ok (.bipush (-2), 2) := by decide +kernel
theorem dX6_spin_11 : decode cX6_spin 11 = .ok (.ireturn, 1) := by decide +kernel
theorem dX6_spin_12 : decode cX6_spin 12 = .ok (.aload_n 0, 1) := by decide +kernel
theorem dX6_spin_13 : decode cX6_spin 13 = .ok (.getfield 58, 3) := by decide +kernel
theorem dX6_spin_16 : decode cX6_spin 16 = .ok (.invokevirtual 153, 3) := by decide +kernel
theorem dX6_spin_19 : decode cX6_spin 19 = .ok (.ifCond .ne 6, 3) := by decide +kernel
theorem dX6_spin_22 : decode cX6_spin 22 = .ok (.bipush (-4), 2) := by decide +kernel
theorem dX6_spin_24 : decode cX6_spin 24 = .ok (.ireturn, 1) := by decide +kernel
theorem dX6_spin_25 : decode cX6_spin 25 = .ok (.iload_n 1, 1) := by decide +kernel
theorem dX6_spin_26 : decode cX6_spin 26 = .ok (.tableswitch 57 0 2 #[26, 38, 46], 26) := by decide +kernel
theorem dX6_spin_52 : decode cX6_spin 52 = .ok (.aload_n 0, 1) := by decide +kernel
theorem dX6_spin_53 : decode cX6_spin 53 = .ok (.getfield 58, 3) := by decide +kernel
theorem dX6_spin_56 : decode cX6_spin 56 = .ok (.getfield 218, 3) := by decide +kernel
theorem dX6_spin_59 : decode cX6_spin 59 = .ok (.sipush 200, 3) := by decide +kernel
theorem dX6_spin_62 : decode cX6_spin 62 = .ok (.iadd, 1) := by decide +kernel
theorem dX6_spin_63 : decode cX6_spin 63 = .ok (.ireturn, 1) := by decide +kernel
theorem dX6_spin_64 : decode cX6_spin 64 = .ok (.aload_n 0, 1) := by decide +kernel
theorem dX6_spin_65 : decode cX6_spin 65 = .ok (.getfield 58, 3) := by decide +kernel
theorem dX6_spin_68 : decode cX6_spin 68 = .ok (.getfield 221, 3) := by decide +kernel
theorem dX6_spin_71 : decode cX6_spin 71 = .ok (.ireturn, 1) := by decide +kernel
theorem dX6_spin_72 : decode cX6_spin 72 = .ok (.aload_n 0, 1) := by decide +kernel
theorem dX6_spin_73 : decode cX6_spin 73 = .ok (.getfield 58, 3) := by decide +kernel
theorem dX6_spin_76 : decode cX6_spin 76 = .ok (.getfield 156, 3) := by decide +kernel
theorem dX6_spin_79 : decode cX6_spin 79 = .ok (.invokestatic 100, 3) := by decide +kernel
theorem dX6_spin_82 : decode cX6_spin 82 = .ok (.ireturn, 1) := by decide +kernel
theorem dX6_spin_83 : decode cX6_spin 83 = .ok (.aload_n 0, 1) := by decide +kernel
theorem dX6_spin_84 : decode cX6_spin 84 = .ok (.getfield 58, 3) := by decide +kernel
theorem dX6_spin_87 : decode cX6_spin 87 = .ok (.getfield 156, 3) := by decide +kernel
theorem dX6_spin_90 : decode cX6_spin 90 = .ok (.ireturn, 1) := by decide +kernel
set_option maxRecDepth 20000 in
theorem ggX6_fits_X6_isWithin : GoodIn wsX6_fits wsX6_isWithin := goodIn_r _ [5] (by decide +kernel) (by decide +kernel)
set_option maxRecDepth 20000 in
theorem gX6_fits_X6_isWithin : GoodIn wsX6_fits (va_wsS RX6 86 yX6_isWithin wsX6_isWithin) := goodIn_app (goodIn_of _ (by decide +kernel)) ggX6_fits_X6_isWithin
set_option maxRecDepth 20000 in
theorem ggX6_fits_X3_fittedBy : GoodIn wsX6_fits wsX3_fittedBy := goodIn_r _ [10, 11, 12, 13, 14, 15, 16, 17, 18, 19, 20, 21, 22, 23, 24, 25, 26, 27, 28, 29, 9, 30, 31, 32, 33, 34, 35, 36, 37, 38, 39, 40, 41, 42, 43, 44, 45, 62, 63, 64, 65, 66, 67] (by decide +kernel) (by decide +kernel)
set_option maxRecDepth 20000 in
theorem gX6_fits_X3_fittedBy : GoodIn wsX6_fits (wsV RX6 224 RX3 yX3_fittedBy wsX3_fittedBy) := goodIn_app (goodIn_of _ (by decide +kernel)) ggX6_fits_X3_fittedBy
set_option maxRecDepth 20000 in
theorem ggX6_fits_J6_bitCount_0f7a4 : GoodIn wsX6_fits wsJ6_bitCount_0f7a4 := goodIn_r _ [49, 50, 51, 52] (by decide +kernel) (by decide +kernel)
set_option maxRecDepth 20000 in
theorem gX6_fits_J6_bitCount_0f7a4 : GoodIn wsX6_fits (va_wsS RX6 100 yJ6_bitCount_0f7a4 wsJ6_bitCount_0f7a4) := goodIn_app (goodIn_of _ (by decide +kernel)) ggX6_fits_J6_bitCount_0f7a4
theorem dX6_fits_0 : decode cX6_fits 0 = .ok (.iload_n 1, 1) := by decide +kernel
theorem dX6_fits_1 : decode cX6_fits 1 = .ok (.sipush (-179), 3) := by decide +kernel
theorem dX6_fits_4 : decode cX6_fits 4 = .ok (.sipush 180, 3) := by decide +kernel
theorem dX6_fits_7 : decode cX6_fits 7 = .ok (.invokestatic 86, 3) := by decide +kernel
theorem dX6_fits_10 : decode cX6_fits 10 = .ok (.ifCond .eq 14, 3) := by decide +kernel
theorem dX6_fits_13 : decode cX6_fits 13 = .ok (.iload_n 2, 1) := by decide +kernel
theorem dX6_fits_14 : decode cX6_fits 14 = .ok (.iconst 0, 1) := by decide +kernel
theorem dX6_fits_15 : decode cX6_fits 15 = .ok (.sipush 359, 3) := by decide +kernel
theorem dX6_fits_18 : decode cX6_fits 18 = .ok (.invokestatic 86, 3) := by decide +kernel
theorem dX6_fits_21 : decode cX6_fits 21 = .ok (.ifCond .ne 6, 3) := by decide +kernel
theorem dX6_fits_24 : decode cX6_fits 24 = .ok (.bipush (-2), 2) := by decide +kernel
theorem dX6_fits_26 : decode cX6_fits 26 = .ok (.ireturn, 1) := by decide +kernel
theorem dX6_fits_27 : decode cX6_fits 27 = .ok (.aload_n 0, 1) := by decide +kernel
theorem dX6_fits_28 : decode cX6_fits 28 = .ok (.getfield 58, 3) := by decide +kernel
theorem dX6_fits_31 : decode cX6_fits 31 = .ok (.iload_n 1, 1) := by decide +kernel
theorem dX6_fits_32 : decode cX6_fits 32 = .ok (.iload_n 2, 1) := by decide +kernel
theorem dX6_fits_33 : decode cX6_fits 33 = .ok (.invokevirtual 224, 3) := by decide +kernel
theorem dX6_fits_36 : decode cX6_fits 36 = .ok (.invokestatic 100, 3) := by decide +kernel
theorem dX6_fits_39 : decode cX6_fits 39 = .ok (.ireturn, 1) := by decide +kernel
set_option maxRecDepth 20000 in
theorem ggX6_angleAt_X6_isWithin : GoodIn wsX6_angleAt wsX6_isWithin := goodIn_r _ [7] (by decide +kernel) (by decide +kernel)
set_option maxRecDepth 20000 in
theorem gX6_angleAt_X6_isWithin : GoodIn wsX6_angleAt (va_wsS RX6 86 yX6_isWithin wsX6_isWithin) := goodIn_app (goodIn_of _ (by decide +kernel)) ggX6_angleAt_X6_isWithin
set_option maxRecDepth 20000 in
theorem ggX6_angleAt_X3_search : GoodIn wsX6_angleAt wsX3_search := goodIn_r _ [12, 13, 14, 15, 16, 17, 18, 19, 20, 21, 22, 23, 24, 25, 26, 27, 28, 29, 30, 31, 32, 33, 34, 35, 36, 37, 38, 11, 39, 40, 41, 42, 43, 44, 45, 46, 47, 48, 49, 50, 51, 52, 53, 54, 55, 56, 57, 58, 59, 60, 61, 62, 63, 64, 65, 66, 67, 68, 69, 70, 71, 72, 73, 74, 75, 86, 87, 88, 89, 90, 91] (by decide +kernel) (by decide +kernel)
set_option maxRecDepth 20000 in
theorem gX6_angleAt_X3_search : GoodIn wsX6_angleAt (wsV RX6 153 RX3 yX3_search wsX3_search) := goodIn_app (goodIn_of _ (by decide +kernel)) ggX6_angleAt_X3_search
set_option maxRecDepth 20000 in
theorem ggX6_angleAt_X3_angleOf : GoodIn wsX6_angleAt wsX3_angleOf := goodIn_r _ [64, 65, 66, 67, 68] (by decide +kernel) (by decide +kernel)
set_option maxRecDepth 20000 in
theorem gX6_angleAt_X3_angleOf : GoodIn wsX6_angleAt (va_wsS RX6 227 yX3_angleOf wsX3_angleOf) := goodIn_app (goodIn_of _ (by decide +kernel)) ggX6_angleAt_X3_angleOf
theorem dX6_angleAt_0 : decode cX6_angleAt 0 = .ok (.iload_n 1, 1) := by decide +kernel
theorem dX6_angleAt_1 : decode cX6_angleAt 1 = .ok (.iconst 0, 1) := by decide +kernel
theorem dX6_angleAt_2 : decode cX6_angleAt 2 = .ok (.bipush 99, 2) := by decide +kernel
theorem dX6_angleAt_4 : decode cX6_angleAt 4 = .ok (.invokestatic 86, 3) := by decide +kernel
theorem dX6_angleAt_7 : decode cX6_angleAt 7 = .ok (.ifCond .ne 6, 3) := by decide +kernel
theorem dX6_angleAt_10 : decode cX6_angleAt 10 = .ok (.bipush (-2), 2) := by decide +kernel
theorem dX6_angleAt_12 : decode cX6_angleAt 12 = .ok (.ireturn, 1) := by decide +kernel
theorem dX6_angleAt_13 : decode cX6_angleAt 13 = .ok (.aload_n 0, 1) := by decide +kernel
theorem dX6_angleAt_14 : decode cX6_angleAt 14 = .ok (.getfield 58, 3) := by decide +kernel
theorem dX6_angleAt_17 : decode cX6_angleAt 17 = .ok (.invokevirtual 153, 3) := by decide +kernel
theorem dX6_angleAt_20 : decode cX6_angleAt 20 = .ok (.ifCond .ne 6, 3) := by decide +kernel
theorem dX6_angleAt_23 : decode cX6_angleAt 23 = .ok (.bipush (-4), 2) := by decide +kernel
theorem dX6_angleAt_25 : decode cX6_angleAt 25 = .ok (.ireturn, 1) := by decide +kernel
theorem dX6_angleAt_26 : decode cX6_angleAt 26 = .ok (.aload_n 0, 1) := by decide +kernel
theorem dX6_angleAt_27 : decode cX6_angleAt 27 = .ok (.getfield 58, 3) := by decide +kernel
theorem dX6_angleAt_30 : decode cX6_angleAt 30 = .ok (.getfield 218, 3) := by decide +kernel
theorem dX6_angleAt_33 : decode cX6_angleAt 33 = .ok (.aload_n 0, 1) := by decide +kernel
theorem dX6_angleAt_34 : decode cX6_angleAt 34 = .ok (.getfield 58, 3) := by decide +kernel
theorem dX6_angleAt_37 : decode cX6_angleAt 37 = .ok (.getfield 221, 3) := by decide +kernel
theorem dX6_angleAt_40 : decode cX6_angleAt 40 = .ok (.iload_n 1, 1) := by decide +kernel
theorem dX6_angleAt_41 : decode cX6_angleAt 41 = .ok (.invokestatic 227, 3) := by decide +kernel
theorem dX6_angleAt_44 : decode cX6_angleAt 44 = .ok (.ireturn, 1) := by decide +kernel
set_option maxRecDepth 20000 in
theorem ggX6_count_X2_usable : GoodIn wsX6_count wsX2_usable := goodIn_r _ [12, 13, 14, 15, 16, 11, 17, 18, 110, 111] (by decide +kernel) (by decide +kernel)
set_option maxRecDepth 20000 in
theorem gX6_count_X2_usable : GoodIn wsX6_count (wsV RX6 109 RX2 yX2_usable wsX2_usable) := goodIn_app (goodIn_of _ (by decide +kernel)) ggX6_count_X2_usable
set_option maxRecDepth 20000 in
theorem ggX6_count_X2_marked : GoodIn wsX6_count wsX2_marked := goodIn_r _ [22, 13, 23, 24, 25, 11, 26, 14, 15, 16, 17, 18, 27, 28, 29, 30, 110, 111] (by decide +kernel) (by decide +kernel)
set_option maxRecDepth 20000 in
theorem gX6_count_X2_marked : GoodIn wsX6_count (wsV RX6 231 RX2 yX2_marked wsX2_marked) := goodIn_app (goodIn_of _ (by decide +kernel)) ggX6_count_X2_marked
set_option maxRecDepth 20000 in
theorem ggX6_count_X5_plan : GoodIn wsX6_count wsX5_plan := goodIn_r _ [35, 36, 37, 38, 39, 40, 15, 16, 11, 17, 18, 41, 42, 43, 34, 44, 45, 46, 47, 48, 49, 9, 10, 12, 13, 14, 50, 51, 52, 53, 54, 55, 56, 57, 58, 59, 60, 61, 62, 63, 64, 65, 66, 67, 68, 69, 70, 71, 72, 73, 74, 75, 76, 77, 78, 79, 80, 81, 82, 83, 84, 85, 86, 87, 88, 89, 90, 91, 92, 93, 94, 95, 96, 97, 98, 99, 100, 118, 119, 120, 121, 110, 111, 122, 123, 124, 125] (by decide +kernel) (by decide +kernel)
set_option maxRecDepth 20000 in
theorem gX6_count_X5_plan : GoodIn wsX6_count (wsV RX6 199 RX5 yX5_plan wsX5_plan) := goodIn_app (goodIn_of _ (by decide +kernel)) ggX6_count_X5_plan
theorem dX6_count_0 : decode cX6_count 0 = .ok (.iload_n 1, 1) := by decide +kernel
theorem dX6_count_1 : decode cX6_count 1 = .ok (.tableswitch 87 0 5 #[39, 47, 55, 63, 71, 79], 39) := by decide +kernel
theorem dX6_count_40 : decode cX6_count 40 = .ok (.aload_n 0, 1) := by decide +kernel
theorem dX6_count_41 : decode cX6_count 41 = .ok (.getfield 10, 3) := by decide +kernel
theorem dX6_count_44 : decode cX6_count 44 = .ok (.getfield 118, 3) := by decide +kernel
theorem dX6_count_47 : decode cX6_count 47 = .ok (.ireturn, 1) := by decide +kernel
theorem dX6_count_48 : decode cX6_count 48 = .ok (.aload_n 0, 1) := by decide +kernel
theorem dX6_count_49 : decode cX6_count 49 = .ok (.getfield 10, 3) := by decide +kernel
theorem dX6_count_52 : decode cX6_count 52 = .ok (.invokevirtual 109, 3) := by decide +kernel
theorem dX6_count_55 : decode cX6_count 55 = .ok (.ireturn, 1) := by decide +kernel
theorem dX6_count_56 : decode cX6_count 56 = .ok (.aload_n 0, 1) := by decide +kernel
theorem dX6_count_57 : decode cX6_count 57 = .ok (.getfield 10, 3) := by decide +kernel
theorem dX6_count_60 : decode cX6_count 60 = .ok (.invokevirtual 231, 3) := by decide +kernel
theorem dX6_count_63 : decode cX6_count 63 = .ok (.ireturn, 1) := by decide +kernel
theorem dX6_count_64 : decode cX6_count 64 = .ok (.aload_n 0, 1) := by decide +kernel
theorem dX6_count_65 : decode cX6_count 65 = .ok (.getfield 51, 3) := by decide +kernel
theorem dX6_count_68 : decode cX6_count 68 = .ok (.invokevirtual 199, 3) := by decide +kernel
theorem dX6_count_71 : decode cX6_count 71 = .ok (.ireturn, 1) := by decide +kernel
theorem dX6_count_72 : decode cX6_count 72 = .ok (.aload_n 0, 1) := by decide +kernel
theorem dX6_count_73 : decode cX6_count 73 = .ok (.getfield 22, 3) := by decide +kernel
theorem dX6_count_76 : decode cX6_count 76 = .ok (.getfield 140, 3) := by decide +kernel
theorem dX6_count_79 : decode cX6_count 79 = .ok (.ireturn, 1) := by decide +kernel
theorem dX6_count_80 : decode cX6_count 80 = .ok (.aload_n 0, 1) := by decide +kernel
theorem dX6_count_81 : decode cX6_count 81 = .ok (.getfield 29, 3) := by decide +kernel
theorem dX6_count_84 : decode cX6_count 84 = .ok (.getfield 133, 3) := by decide +kernel
theorem dX6_count_87 : decode cX6_count 87 = .ok (.ireturn, 1) := by decide +kernel
theorem dX6_count_88 : decode cX6_count 88 = .ok (.bipush (-2), 2) := by decide +kernel
theorem dX6_count_90 : decode cX6_count 90 = .ok (.ireturn, 1) := by decide +kernel
theorem dX6_isWithin_0 : decode cX6_isWithin 0 = .ok (.iload_n 0, 1) := by decide +kernel
theorem dX6_isWithin_1 : decode cX6_isWithin 1 = .ok (.iload_n 1, 1) := by decide +kernel
theorem dX6_isWithin_2 : decode cX6_isWithin 2 = .ok (.if_icmp .lt 12, 3) := by decide +kernel
theorem dX6_isWithin_5 : decode cX6_isWithin 5 = .ok (.iload_n 0, 1) := by decide +kernel
theorem dX6_isWithin_6 : decode cX6_isWithin 6 = .ok (.iload_n 2, 1) := by decide +kernel
theorem dX6_isWithin_7 : decode cX6_isWithin 7 = .ok (.if_icmp .gt 7, 3) := by decide +kernel
theorem dX6_isWithin_10 : decode cX6_isWithin 10 = .ok (.iconst 1, 1) := by decide +kernel
theorem dX6_isWithin_11 : decode cX6_isWithin 11 = .ok (.goto 4, 3) := by decide +kernel
theorem dX6_isWithin_14 : decode cX6_isWithin 14 = .ok (.iconst 0, 1) := by decide +kernel
theorem dX6_isWithin_15 : decode cX6_isWithin 15 = .ok (.ireturn, 1) := by decide +kernel
theorem dX6_isIn_0 : decode cX6_isIn 0 = .ok (.iload_n 0, 1) := by decide +kernel
theorem dX6_isIn_1 : decode cX6_isIn 1 = .ok (.iconst 1, 1) := by decide +kernel
theorem dX6_isIn_2 : decode cX6_isIn 2 = .ok (.iload_n 1, 1) := by decide +kernel
theorem dX6_isIn_3 : decode cX6_isIn 3 = .ok (.ishl, 1) := by decide +kernel
theorem dX6_isIn_4 : decode cX6_isIn 4 = .ok (.iand, 1) := by decide +kernel
theorem dX6_isIn_5 : decode cX6_isIn 5 = .ok (.ifCond .eq 7, 3) := by decide +kernel
theorem dX6_isIn_8 : decode cX6_isIn 8 = .ok (.iconst 1, 1) := by decide +kernel
theorem dX6_isIn_9 : decode cX6_isIn 9 = .ok (.goto 4, 3) := by decide +kernel
theorem dX6_isIn_12 : decode cX6_isIn 12 = .ok (.iconst 0, 1) := by decide +kernel
theorem dX6_isIn_13 : decode cX6_isIn 13 = .ok (.ireturn, 1) := by decide +kernel
set_option maxRecDepth 20000 in
theorem ggX6_toldIsInRange_X6_isWithin : GoodIn wsX6_toldIsInRange wsX6_isWithin := goodIn_r _ [5] (by decide +kernel) (by decide +kernel)
set_option maxRecDepth 20000 in
theorem gX6_toldIsInRange_X6_isWithin : GoodIn wsX6_toldIsInRange (va_wsS RX6 86 yX6_isWithin wsX6_isWithin) := goodIn_app (goodIn_of _ (by decide +kernel)) ggX6_toldIsInRange_X6_isWithin
theorem dX6_toldIsInRange_0 : decode cX6_toldIsInRange 0 = .ok (.aload_n 0, 1) := by decide +kernel
theorem dX6_toldIsInRange_1 : decode cX6_toldIsInRange 1 = .ok (.getfield 33, 3) := by decide +kernel
theorem dX6_toldIsInRange_4 : decode cX6_toldIsInRange 4 = .ok (.iconst 0, 1) := by decide +kernel
theorem dX6_toldIsInRange_5 : decode cX6_toldIsInRange 5 = .ok (.iaload, 1) := by decide +kernel
theorem dX6_toldIsInRange_6 : decode cX6_toldIsInRange 6 = .ok (.iconst 0, 1) := by decide +kernel
theorem dX6_toldIsInRange_7 : decode cX6_toldIsInRange 7 = .ok (.bipush 99, 2) := by decide +kernel
theorem dX6_toldIsInRange_9 : decode cX6_toldIsInRange 9 = .ok (.invokestatic 86, 3) := by decide +kernel
theorem dX6_toldIsInRange_12 : decode cX6_toldIsInRange 12 = .ok (.ifCond .eq 89, 3) := by decide +kernel
theorem dX6_toldIsInRange_15 : decode cX6_toldIsInRange 15 = .ok (.aload_n 0, 1) := by decide +kernel
theorem dX6_toldIsInRange_16 : decode cX6_toldIsInRange 16 = .ok (.getfield 33, 3) := by decide +kernel
theorem dX6_toldIsInRange_19 : decode cX6_toldIsInRange 19 = .ok (.iconst 1, 1) := by decide +kernel
theorem dX6_toldIsInRange_20 : decode cX6_toldIsInRange 20 = .ok (.iaload, 1) := by decide +kernel
theorem dX6_toldIsInRange_21 : decode cX6_toldIsInRange 21 = .ok (.sipush (-400), 3) := by decide +kernel
theorem dX6_toldIsInRange_24 : decode cX6_toldIsInRange 24 = .ok (.sipush 400, 3) := by decide +kernel
theorem dX6_toldIsInRange_27 : decode cX6_toldIsInRange 27 = .ok (.invokestatic 86, 3) := by decide +kernel
theorem dX6_toldIsInRange_30 : decode cX6_toldIsInRange 30 = .ok (.ifCond .eq 71, 3) := by decide +kernel
theorem dX6_toldIsInRange_33 : decode cX6_toldIsInRange 33 = .ok (.aload_n 0, 1) := by decide +kernel
theorem dX6_toldIsInRange_34 : decode cX6_toldIsInRange 34 = .ok (.getfield 33, 3) := by decide +kernel
theorem dX6_toldIsInRange_37 : decode cX6_toldIsInRange 37 = .ok (.iconst 2, 1) := by decide +kernel
theorem dX6_toldIsInRange_38 : decode cX6_toldIsInRange 38 = .ok (.iaload, 1) := by decide +kernel
theorem dX6_toldIsInRange_39 : decode cX6_toldIsInRange 39 = .ok (.sipush (-400), 3) := by decide +kernel
theorem dX6_toldIsInRange_42 : decode cX6_toldIsInRange 42 = .ok (.sipush 400, 3) := by decide +kernel
theorem dX6_toldIsInRange_45 : decode cX6_toldIsInRange 45 = .ok (.invokestatic 86, 3) := by decide +kernel
theorem dX6_toldIsInRange_48 : decode cX6_toldIsInRange 48 = .ok (.ifCond .eq 53, 3) := by decide +kernel
theorem dX6_toldIsInRange_51 : decode cX6_toldIsInRange 51 = .ok (.aload_n 0, 1) := by decide +kernel
theorem dX6_toldIsInRange_52 : decode cX6_toldIsInRange 52 = .ok (.getfield 33, 3) := by decide +kernel
theorem dX6_toldIsInRange_55 : decode cX6_toldIsInRange 55 = .ok (.iconst 3, 1) := by decide +kernel
theorem dX6_toldIsInRange_56 : decode cX6_toldIsInRange 56 = .ok (.iaload, 1) := by decide +kernel
theorem dX6_toldIsInRange_57 : decode cX6_toldIsInRange 57 = .ok (.iconst 0, 1) := by decide +kernel
theorem dX6_toldIsInRange_58 : decode cX6_toldIsInRange 58 = .ok (.bipush 40, 2) := by decide +kernel
theorem dX6_toldIsInRange_60 : decode cX6_toldIsInRange 60 = .ok (.invokestatic 86, 3) := by decide +kernel
theorem dX6_toldIsInRange_63 : decode cX6_toldIsInRange 63 = .ok (.ifCond .eq 38, 3) := by decide +kernel
theorem dX6_toldIsInRange_66 : decode cX6_toldIsInRange 66 = .ok (.aload_n 0, 1) := by decide +kernel
theorem dX6_toldIsInRange_67 : decode cX6_toldIsInRange 67 = .ok (.getfield 33, 3) := by decide +kernel
theorem dX6_toldIsInRange_70 : decode cX6_toldIsInRange 70 = .ok (.iconst 4, 1) := by decide +kernel
theorem dX6_toldIsInRange_71 : decode cX6_toldIsInRange 71 = .ok (.iaload, 1) := by decide +kernel
theorem dX6_toldIsInRange_72 : decode cX6_toldIsInRange 72 = .ok (.iconst 0, 1) := by decide +kernel
theorem dX6_toldIsInRange_73 : decode cX6_toldIsInRange 73 = .ok (.sipush 360, 3) := by decide +kernel
theorem dX6_toldIsInRange_76 : decode cX6_toldIsInRange 76 = .ok (.invokestatic 86, 3) := by decide +kernel
theorem dX6_toldIsInRange_79 : decode cX6_toldIsInRange 79 = .ok (.ifCond .eq 22, 3) := by decide +kernel
theorem dX6_toldIsInRange_82 : decode cX6_toldIsInRange 82 = .ok (.aload_n 0, 1) := by decide +kernel
theorem dX6_toldIsInRange_83 : decode cX6_toldIsInRange 83 = .ok (.getfield 33, 3) := by decide +kernel
theorem dX6_toldIsInRange_86 : decode cX6_toldIsInRange 86 = .ok (.iconst 5, 1) := by decide +kernel
theorem dX6_toldIsInRange_87 : decode cX6_toldIsInRange 87 = .ok (.iaload, 1) := by decide +kernel
theorem dX6_toldIsInRange_88 : decode cX6_toldIsInRange 88 = .ok (.iconst 0, 1) := by decide +kernel
theorem dX6_toldIsInRange_89 : decode cX6_toldIsInRange 89 = .ok (.bipush 60, 2) := by decide +kernel
theorem dX6_toldIsInRange_91 : decode cX6_toldIsInRange 91 = .ok (.invokestatic 86, 3) := by decide +kernel
theorem dX6_toldIsInRange_94 : decode cX6_toldIsInRange 94 = .ok (.ifCond .eq 7, 3) := by decide +kernel
theorem dX6_toldIsInRange_97 : decode cX6_toldIsInRange 97 = .ok (.iconst 1, 1) := by decide +kernel
theorem dX6_toldIsInRange_98 : decode cX6_toldIsInRange 98 = .ok (.goto 4, 3) := by decide +kernel
theorem dX6_toldIsInRange_101 : decode cX6_toldIsInRange 101 = .ok (.iconst 0, 1) := by decide +kernel
theorem dX6_toldIsInRange_102 : decode cX6_toldIsInRange 102 = .ok (.ireturn, 1) := by decide +kernel
set_option maxRecDepth 20000 in
theorem ggX6_addTold_X2_numberAt : GoodIn wsX6_addTold wsX2_numberAt := goodIn_r _ [10, 11, 12, 45, 46] (by decide +kernel) (by decide +kernel)
set_option maxRecDepth 20000 in
theorem gX6_addTold_X2_numberAt : GoodIn wsX6_addTold (wsV RX6 234 RX2 yX2_numberAt wsX2_numberAt) := goodIn_app (goodIn_of _ (by decide +kernel)) ggX6_addTold_X2_numberAt
set_option maxRecDepth 20000 in
theorem ggX6_addTold_X1_record : GoodIn wsX6_addTold wsX1_record := goodIn_r _ [17, 18, 19, 20, 21, 22, 16, 23, 24, 25, 26, 9, 27, 12, 28, 29, 30, 31, 11, 47, 48, 45, 46] (by decide +kernel) (by decide +kernel)
set_option maxRecDepth 20000 in
theorem gX6_addTold_X1_record : GoodIn wsX6_addTold (wsV RX6 94 RX1 yX1_record wsX1_record) := goodIn_app (goodIn_of _ (by decide +kernel)) ggX6_addTold_X1_record
set_option maxRecDepth 20000 in
theorem ggX6_addTold_X2_insert : GoodIn wsX6_addTold wsX2_insert := goodIn_r _ [35, 11, 12, 28, 29, 30, 31, 45, 46] (by decide +kernel) (by decide +kernel)
set_option maxRecDepth 20000 in
theorem gX6_addTold_X2_insert : GoodIn wsX6_addTold (wsV RX6 237 RX2 yX2_insert wsX2_insert) := goodIn_app (goodIn_of _ (by decide +kernel)) ggX6_addTold_X2_insert
theorem dX6_addTold_0 : decode cX6_addTold 0 = .ok (.aload_n 0, 1) := by decide +kernel
theorem dX6_addTold_1 : decode cX6_addTold 1 = .ok (.getfield 10, 3) := by decide +kernel
theorem dX6_addTold_4 : decode cX6_addTold 4 = .ok (.aload_n 0, 1) := by decide +kernel
theorem dX6_addTold_5 : decode cX6_addTold 5 = .ok (.getfield 33, 3) := by decide +kernel
theorem dX6_addTold_8 : decode cX6_addTold 8 = .ok (.iconst 0, 1) := by decide +kernel
theorem dX6_addTold_9 : decode cX6_addTold 9 = .ok (.iaload, 1) := by decide +kernel
theorem dX6_addTold_10 : decode cX6_addTold 10 = .ok (.invokevirtual 234, 3) := by decide +kernel
theorem dX6_addTold_13 : decode cX6_addTold 13 = .ok (.istore_n 1, 1) := by decide +kernel
theorem dX6_addTold_14 : decode cX6_addTold 14 = .ok (.iload_n 1, 1) := by decide +kernel
theorem dX6_addTold_15 : decode cX6_addTold 15 = .ok (.aload_n 0, 1) := by decide +kernel
theorem dX6_addTold_16 : decode cX6_addTold 16 = .ok (.getfield 10, 3) := by decide +kernel
theorem dX6_addTold_19 : decode cX6_addTold 19 = .ok (.getfield 118, 3) := by decide +kernel
theorem dX6_addTold_22 : decode cX6_addTold 22 = .ok (.if_icmp .ge 26, 3) := by decide +kernel
theorem dX6_addTold_25 : decode cX6_addTold 25 = .ok (.aload_n 0, 1) := by decide +kernel
theorem dX6_addTold_26 : decode cX6_addTold 26 = .ok (.getfield 10, 3) := by decide +kernel
theorem dX6_addTold_29 : decode cX6_addTold 29 = .ok (.getfield 90, 3) := by decide +kernel
theorem dX6_addTold_32 : decode cX6_addTold 32 = .ok (.iconst 0, 1) := by decide +kernel
theorem dX6_addTold_33 : decode cX6_addTold 33 = .ok (.aaload, 1) := by decide +kernel
theorem dX6_addTold_34 : decode cX6_addTold 34 = .ok (.iload_n 1, 1) := by decide +kernel
theorem dX6_addTold_35 : decode cX6_addTold 35 = .ok (.iaload, 1) := by decide +kernel
theorem dX6_addTold_36 : decode cX6_addTold 36 = .ok (.aload_n 0, 1) := by decide +kernel
theorem dX6_addTold_37 : decode cX6_addTold 37 = .ok (.getfield 33, 3) := by decide +kernel
theorem dX6_addTold_40 : decode cX6_addTold 40 = .ok (.iconst 0, 1) := by decide +kernel
theorem dX6_addTold_41 : decode cX6_addTold 41 = .ok (.iaload, 1) := by decide +kernel
theorem dX6_addTold_42 : decode cX6_addTold 42 = .ok (.if_icmp .ne 6, 3) := by decide +kernel
theorem dX6_addTold_45 : decode cX6_addTold 45 = .ok (.bipush (-4), 2) := by decide +kernel
theorem dX6_addTold_47 : decode cX6_addTold 47 = .ok (.ireturn, 1) := by decide +kernel
theorem dX6_addTold_48 : decode cX6_addTold 48 = .ok (.aload_n 0, 1) := by decide +kernel
theorem dX6_addTold_49 : decode cX6_addTold 49 = .ok (.getfield 10, 3) := by decide +kernel
theorem dX6_addTold_52 : decode cX6_addTold 52 = .ok (.getfield 118, 3) := by decide +kernel
theorem dX6_addTold_55 : decode cX6_addTold 55 = .ok (.bipush 10, 2) := by decide +kernel
theorem dX6_addTold_57 : decode cX6_addTold 57 = .ok (.if_icmp .lt 6, 3) := by decide +kernel
theorem dX6_addTold_60 : decode cX6_addTold 60 = .ok (.bipush (-3), 2) := by decide +kernel
theorem dX6_addTold_62 : decode cX6_addTold 62 = .ok (.ireturn, 1) := by decide +kernel
theorem dX6_addTold_63 : decode cX6_addTold 63 = .ok (.aload_n 0, 1) := by decide +kernel
theorem dX6_addTold_64 : decode cX6_addTold 64 = .ok (.getfield 22, 3) := by decide +kernel
theorem dX6_addTold_67 : decode cX6_addTold 67 = .ok (.aload_n 0, 1) := by decide +kernel
theorem dX6_addTold_68 : decode cX6_addTold 68 = .ok (.getfield 10, 3) := by decide +kernel
theorem dX6_addTold_71 : decode cX6_addTold 71 = .ok (.invokevirtual 94, 3) := by decide +kernel
theorem dX6_addTold_74 : decode cX6_addTold 74 = .ok (.aload_n 0, 1) := by decide +kernel
theorem dX6_addTold_75 : decode cX6_addTold 75 = .ok (.getfield 10, 3) := by decide +kernel
theorem dX6_addTold_78 : decode cX6_addTold 78 = .ok (.iload_n 1, 1) := by decide +kernel
theorem dX6_addTold_79 : decode cX6_addTold 79 = .ok (.aload_n 0, 1) := by decide +kernel
theorem dX6_addTold_80 : decode cX6_addTold 80 = .ok (.getfield 33, 3) := by decide +kernel
theorem dX6_addTold_83 : decode cX6_addTold 83 = .ok (.invokevirtual 237, 3) := by decide +kernel
theorem dX6_addTold_86 : decode cX6_addTold 86 = .ok (.iload_n 1, 1) := by decide +kernel
theorem dX6_addTold_87 : decode cX6_addTold 87 = .ok (.ireturn, 1) := by decide +kernel
set_option maxRecDepth 20000 in
theorem ggX6_missedByBest_X2_usable : GoodIn wsX6_missedByBest wsX2_usable := goodIn_r _ [7, 8, 9, 10, 11, 6, 12, 13, 69, 70] (by decide +kernel) (by decide +kernel)
set_option maxRecDepth 20000 in
theorem gX6_missedByBest_X2_usable : GoodIn wsX6_missedByBest (wsV RX6 109 RX2 yX2_usable wsX2_usable) := goodIn_app (goodIn_of _ (by decide +kernel)) ggX6_missedByBest_X2_usable
set_option maxRecDepth 20000 in
theorem ggX6_missedByBest_X0_layBest : GoodIn wsX6_missedByBest wsX0_layBest := goodIn_r _ [18, 19, 20, 21, 22, 23, 17, 24, 25, 26, 27, 28, 29, 30, 31, 32, 33, 34, 35, 36, 37, 38, 39, 40, 41, 42, 43, 44, 45, 46, 47, 48, 49, 50, 51, 52, 53, 54, 55, 56, 57, 58, 71, 72, 73, 74, 69, 70] (by decide +kernel) (by decide +kernel)
set_option maxRecDepth 20000 in
theorem gX6_missedByBest_X0_layBest : GoodIn wsX6_missedByBest (wsV RX6 112 RX0 yX0_layBest wsX0_layBest) := goodIn_app (goodIn_of _ (by decide +kernel)) ggX6_missedByBest_X0_layBest
set_option maxRecDepth 20000 in
theorem ggX6_missedByBest_X0_missedOf : GoodIn wsX6_missedByBest wsX0_missedOf := goodIn_r _ [31, 19, 20, 32, 33, 34, 35, 36, 37, 38, 39, 17, 40, 25, 26, 27, 41, 42, 43, 44, 45, 46, 47, 71, 72, 73, 74, 69, 70] (by decide +kernel) (by decide +kernel)
set_option maxRecDepth 20000 in
theorem gX6_missedByBest_X0_missedOf : GoodIn wsX6_missedByBest (wsV RX6 115 RX0 yX0_missedOf wsX0_missedOf) := goodIn_app (goodIn_of _ (by decide +kernel)) ggX6_missedByBest_X0_missedOf
theorem dX6_missedByBest_0 : decode cX6_missedByBest 0 = .ok (.aload_n 0, 1) := by decide +kernel
theorem dX6_missedByBest_1 : decode cX6_missedByBest 1 = .ok (.getfield 10, 3) := by decide +kernel
theorem dX6_missedByBest_4 : decode cX6_missedByBest 4 = .ok (.invokevirtual 109, 3) := by decide +kernel
theorem dX6_missedByBest_7 : decode cX6_missedByBest 7 = .ok (.istore_n 1, 1) := by decide +kernel
theorem dX6_missedByBest_8 : decode cX6_missedByBest 8 = .ok (.aload_n 0, 1) := by decide +kernel
theorem dX6_missedByBest_9 : decode cX6_missedByBest 9 = .ok (.getfield 42, 3) := by decide +kernel
theorem dX6_missedByBest_12 : decode cX6_missedByBest 12 = .ok (.iload_n 1, 1) := by decide +kernel
theorem dX6_missedByBest_13 : decode cX6_missedByBest 13 = .ok (.invokevirtual 112, 3) := by decide +kernel
theorem dX6_missedByBest_16 : decode cX6_missedByBest 16 = .ok (.ifCond .eq 14, 3) := by decide +kernel
theorem dX6_missedByBest_19 : decode cX6_missedByBest 19 = .ok (.aload_n 0, 1) := by decide +kernel
theorem dX6_missedByBest_20 : decode cX6_missedByBest 20 = .ok (.getfield 42, 3) := by decide +kernel
theorem dX6_missedByBest_23 : decode cX6_missedByBest 23 = .ok (.iload_n 1, 1) := by decide +kernel
theorem dX6_missedByBest_24 : decode cX6_missedByBest 24 = .ok (.invokevirtual 115, 3) := by decide +kernel
theorem dX6_missedByBest_27 : decode cX6_missedByBest 27 = .ok (.goto 4, 3) := by decide +kernel
theorem dX6_missedByBest_30 : decode cX6_missedByBest 30 = .ok (.iconst 0, 1) := by decide +kernel
theorem dX6_missedByBest_31 : decode cX6_missedByBest 31 = .ok (.ireturn, 1) := by decide +kernel
set_option maxRecDepth 20000 in
theorem ggX6_areHeld_X2_holds : GoodIn wsX6_areHeld wsX2_holds := goodIn_r _ [6, 7, 17, 18] (by decide +kernel) (by decide +kernel)
set_option maxRecDepth 20000 in
theorem gX6_areHeld_X2_holds : GoodIn wsX6_areHeld (wsV RX6 82 RX2 yX2_holds wsX2_holds) := goodIn_app (goodIn_of _ (by decide +kernel)) ggX6_areHeld_X2_holds
theorem dX6_areHeld_0 : decode cX6_areHeld 0 = .ok (.aload_n 0, 1) := by decide +kernel
theorem dX6_areHeld_1 : decode cX6_areHeld 1 = .ok (.getfield 10, 3) := by decide +kernel
theorem dX6_areHeld_4 : decode cX6_areHeld 4 = .ok (.iload_n 1, 1) := by decide +kernel
theorem dX6_areHeld_5 : decode cX6_areHeld 5 = .ok (.invokevirtual 82, 3) := by decide +kernel
theorem dX6_areHeld_8 : decode cX6_areHeld 8 = .ok (.ifCond .eq 29, 3) := by decide +kernel
theorem dX6_areHeld_11 : decode cX6_areHeld 11 = .ok (.aload_n 0, 1) := by decide +kernel
theorem dX6_areHeld_12 : decode cX6_areHeld 12 = .ok (.getfield 10, 3) := by decide +kernel
theorem dX6_areHeld_15 : decode cX6_areHeld 15 = .ok (.iload_n 2, 1) := by decide +kernel
theorem dX6_areHeld_16 : decode cX6_areHeld 16 = .ok (.invokevirtual 82, 3) := by decide +kernel
theorem dX6_areHeld_19 : decode cX6_areHeld 19 = .ok (.ifCond .eq 18, 3) := by decide +kernel
theorem dX6_areHeld_22 : decode cX6_areHeld 22 = .ok (.aload_n 0, 1) := by decide +kernel
theorem dX6_areHeld_23 : decode cX6_areHeld 23 = .ok (.getfield 10, 3) := by decide +kernel
theorem dX6_areHeld_26 : decode cX6_areHeld 26 = .ok (.iload_n 3, 1) := by decide +kernel
theorem dX6_areHeld_27 : decode cX6_areHeld 27 = .ok (.invokevirtual 82, 3) := by decide +kernel
theorem dX6_areHeld_30 : decode cX6_areHeld 30 = .ok (.ifCond .eq 7, 3) := by decide +kernel
theorem dX6_areHeld_33 : decode cX6_areHeld 33 = .ok (.iconst 1, 1) := by decide +kernel
theorem dX6_areHeld_34 : decode cX6_areHeld 34 = .ok (.goto 4, 3) := by decide +kernel
theorem dX6_areHeld_37 : decode cX6_areHeld 37 = .ok (.iconst 0, 1) := by decide +kernel
theorem dX6_areHeld_38 : decode cX6_areHeld 38 = .ok (.ireturn, 1) := by decide +kernel
set_option maxRecDepth 20000 in
theorem ggX6_areUsable_X2_isUsable : GoodIn wsX6_areUsable wsX2_isUsable := goodIn_r _ [6, 7, 17, 18] (by decide +kernel) (by decide +kernel)
set_option maxRecDepth 20000 in
theorem gX6_areUsable_X2_isUsable : GoodIn wsX6_areUsable (wsV RX6 106 RX2 yX2_isUsable wsX2_isUsable) := goodIn_app (goodIn_of _ (by decide +kernel)) ggX6_areUsable_X2_isUsable
theorem dX6_areUsable_0 : decode cX6_areUsable 0 = .ok (.aload_n 0, 1) := by decide +kernel
theorem dX6_areUsable_1 : decode cX6_areUsable 1 = .ok (.getfield 10, 3) := by decide +kernel
theorem dX6_areUsable_4 : decode cX6_areUsable 4 = .ok (.iload_n 1, 1) := by decide +kernel
theorem dX6_areUsable_5 : decode cX6_areUsable 5 = .ok (.invokevirtual 106, 3) := by decide +kernel
theorem dX6_areUsable_8 : decode cX6_areUsable 8 = .ok (.ifCond .eq 29, 3) := by decide +kernel
theorem dX6_areUsable_11 : decode cX6_areUsable 11 = .ok (.aload_n 0, 1) := by decide +kernel
theorem dX6_areUsable_12 : decode cX6_areUsable 12 = .ok (.getfield 10, 3) := by decide +kernel
theorem dX6_areUsable_15 : decode cX6_areUsable 15 = .ok (.iload_n 2, 1) := by decide +kernel
theorem dX6_areUsable_16 : decode cX6_areUsable 16 = .ok (.invokevirtual 106, 3) := by decide +kernel
theorem dX6_areUsable_19 : decode cX6_areUsable 19 = .ok (.ifCond .eq 18, 3) := by decide +kernel
theorem dX6_areUsable_22 : decode cX6_areUsable 22 = .ok (.aload_n 0, 1) := by decide +kernel
theorem dX6_areUsable_23 : decode cX6_areUsable 23 = .ok (.getfield 10, 3) := by decide +kernel
theorem dX6_areUsable_26 : decode cX6_areUsable 26 = .ok (.iload_n 3, 1) := by decide +kernel
theorem dX6_areUsable_27 : decode cX6_areUsable 27 = .ok (.invokevirtual 106, 3) := by decide +kernel
theorem dX6_areUsable_30 : decode cX6_areUsable 30 = .ok (.ifCond .eq 7, 3) := by decide +kernel
theorem dX6_areUsable_33 : decode cX6_areUsable 33 = .ok (.iconst 1, 1) := by decide +kernel
theorem dX6_areUsable_34 : decode cX6_areUsable 34 = .ok (.goto 4, 3) := by decide +kernel
theorem dX6_areUsable_37 : decode cX6_areUsable 37 = .ok (.iconst 0, 1) := by decide +kernel
theorem dX6_areUsable_38 : decode cX6_areUsable 38 = .ok (.ireturn, 1) := by decide +kernel
theorem dX6_areAnySame_0 : decode cX6_areAnySame 0 = .ok (.iload_n 0, 1) := by decide +kernel
theorem dX6_areAnySame_1 : decode cX6_areAnySame 1 = .ok (.iload_n 1, 1) := by decide +kernel
theorem dX6_areAnySame_2 : decode cX6_areAnySame 2 = .ok (.if_icmp .eq 13, 3) := by decide +kernel
theorem dX6_areAnySame_5 : decode cX6_areAnySame 5 = .ok (.iload_n 0, 1) := by decide +kernel
theorem dX6_areAnySame_6 : decode cX6_areAnySame 6 = .ok (.iload_n 2, 1) := by decide +kernel
theorem dX6_areAnySame_7 : decode cX6_areAnySame 7 = .ok (.if_icmp .eq 8, 3) := by decide +kernel
theorem dX6_areAnySame_10 : decode cX6_areAnySame 10 = .ok (.iload_n 1, 1) := by decide +kernel
theorem dX6_areAnySame_11 : decode cX6_areAnySame 11 = .ok (.iload_n 2, 1) := by decide +kernel
theorem dX6_areAnySame_12 : decode cX6_areAnySame 12 = .ok (.if_icmp .ne 7, 3) := by decide +kernel
theorem dX6_areAnySame_15 : decode cX6_areAnySame 15 = .ok (.iconst 1, 1) := by decide +kernel
theorem dX6_areAnySame_16 : decode cX6_areAnySame 16 = .ok (.goto 4, 3) := by decide +kernel
theorem dX6_areAnySame_19 : decode cX6_areAnySame 19 = .ok (.iconst 0, 1) := by decide +kernel
theorem dX6_areAnySame_20 : decode cX6_areAnySame 20 = .ok (.ireturn, 1) := by decide +kernel
set_option maxRecDepth 20000 in
theorem ggX6_isAskForFraction_X6_isWithin : GoodIn wsX6_isAskForFraction wsX6_isWithin := goodIn_r _ [4] (by decide +kernel) (by decide +kernel)
set_option maxRecDepth 20000 in
theorem gX6_isAskForFraction_X6_isWithin : GoodIn wsX6_isAskForFraction (va_wsS RX6 86 yX6_isWithin wsX6_isWithin) := goodIn_app (goodIn_of _ (by decide +kernel)) ggX6_isAskForFraction_X6_isWithin
theorem dX6_isAskForFraction_0 : decode cX6_isAskForFraction 0 = .ok (.iload_n 0, 1) := by decide +kernel
theorem dX6_isAskForFraction_1 : decode cX6_isAskForFraction 1 = .ok (.iconst 0, 1) := by decide +kernel
theorem dX6_isAskForFraction_2 : decode cX6_isAskForFraction 2 = .ok (.bipush 99, 2) := by decide +kernel
theorem dX6_isAskForFraction_4 : decode cX6_isAskForFraction 4 = .ok (.invokestatic 86, 3) := by decide +kernel
theorem dX6_isAskForFraction_7 : decode cX6_isAskForFraction 7 = .ok (.ifCond .eq 25, 3) := by decide +kernel
theorem dX6_isAskForFraction_10 : decode cX6_isAskForFraction 10 = .ok (.iload_n 1, 1) := by decide +kernel
theorem dX6_isAskForFraction_11 : decode cX6_isAskForFraction 11 = .ok (.iconst 0, 1) := by decide +kernel
theorem dX6_isAskForFraction_12 : decode cX6_isAskForFraction 12 = .ok (.iconst 1, 1) := by decide +kernel
theorem dX6_isAskForFraction_13 : decode cX6_isAskForFraction 13 = .ok (.invokestatic 86, 3) := by decide +kernel
theorem dX6_isAskForFraction_16 : decode cX6_isAskForFraction 16 = .ok (.ifCond .eq 16, 3) := by decide +kernel
theorem dX6_isAskForFraction_19 : decode cX6_isAskForFraction 19 = .ok (.iload_n 2, 1) := by decide +kernel
theorem dX6_isAskForFraction_20 : decode cX6_isAskForFraction 20 = .ok (.iconst 0, 1) := by decide +kernel
theorem dX6_isAskForFraction_21 : decode cX6_isAskForFraction 21 = .ok (.iconst 1, 1) := by decide +kernel
theorem dX6_isAskForFraction_22 : decode cX6_isAskForFraction 22 = .ok (.invokestatic 86, 3) := by decide +kernel
theorem dX6_isAskForFraction_25 : decode cX6_isAskForFraction 25 = .ok (.ifCond .eq 7, 3) := by decide +kernel
theorem dX6_isAskForFraction_28 : decode cX6_isAskForFraction 28 = .ok (.iconst 1, 1) := by decide +kernel
theorem dX6_isAskForFraction_29 : decode cX6_isAskForFraction 29 = .ok (.goto 4, 3) := by decide +kernel
theorem dX6_isAskForFraction_32 : decode cX6_isAskForFraction 32 = .ok (.iconst 0, 1) := by decide +kernel
theorem dX6_isAskForFraction_33 : decode cX6_isAskForFraction 33 = .ok (.ireturn, 1) := by decide +kernel
set_option maxRecDepth 20000 in
theorem ggX6_layInOrder_X0_lay : GoodIn wsX6_layInOrder wsX0_lay := goodIn_r _ [13, 14, 15, 16, 26, 27, 28, 29] (by decide +kernel) (by decide +kernel)
set_option maxRecDepth 20000 in
theorem gX6_layInOrder_X0_lay : GoodIn wsX6_layInOrder (wsV RX6 249 RX0 yX0_lay wsX0_lay) := goodIn_app (goodIn_of _ (by decide +kernel)) ggX6_layInOrder_X0_lay
