theorem dX6_layInOrder_0 : decode cX6_layInOrder 0 = .ok (.iload_n 1, 1) := by decide +kernel
theorem dX6_layInOrder_1 : decode cX6_layInOrder 1 = .ok (.iload_n 2, 1) := by decide +kernel
theorem dX6_layInOrder_2 : decode cX6_layInOrder 2 = .ok (.iload_n 3, 1) := by decide +kernel
theorem dX6_layInOrder_3 : decode cX6_layInOrder 3 = .ok (.invokestatic 241, 3) := by decide +kernel
theorem dX6_layInOrder_6 : decode cX6_layInOrder 6 = .ok (.invokestatic 241, 3) := by decide +kernel
theorem dX6_layInOrder_9 : decode cX6_layInOrder 9 = .ok (.istore 4, 2) := by decide +kernel
theorem dX6_layInOrder_11 : decode cX6_layInOrder 11 = .ok (.iload_n 1, 1) := by decide +kernel
theorem dX6_layInOrder_12 : decode cX6_layInOrder 12 = .ok (.iload_n 2, 1) := by decide +kernel
theorem dX6_layInOrder_13 : decode cX6_layInOrder 13 = .ok (.iload_n 3, 1) := by decide +kernel
theorem dX6_layInOrder_14 : decode cX6_layInOrder 14 = .ok (.invokestatic 246, 3) := by decide +kernel
theorem dX6_layInOrder_17 : decode cX6_layInOrder 17 = .ok (.invokestatic 246, 3) := by decide +kernel
theorem dX6_layInOrder_20 : decode cX6_layInOrder 20 = .ok (.istore 5, 2) := by decide +kernel
theorem dX6_layInOrder_22 : decode cX6_layInOrder 22 = .ok (.aload_n 0, 1) := by decide +kernel
theorem dX6_layInOrder_23 : decode cX6_layInOrder 23 = .ok (.getfield 42, 3) := by decide +kernel
theorem dX6_layInOrder_26 : decode cX6_layInOrder 26 = .ok (.iload 4, 2) := by decide +kernel
theorem dX6_layInOrder_28 : decode cX6_layInOrder 28 = .ok (.iload_n 1, 1) := by decide +kernel
theorem dX6_layInOrder_29 : decode cX6_layInOrder 29 = .ok (.iload_n 2, 1) := by decide +kernel
theorem dX6_layInOrder_30 : decode cX6_layInOrder 30 = .ok (.iadd, 1) := by decide +kernel
theorem dX6_layInOrder_31 : decode cX6_layInOrder 31 = .ok (.iload_n 3, 1) := by decide +kernel
theorem dX6_layInOrder_32 : decode cX6_layInOrder 32 = .ok (.iadd, 1) := by decide +kernel
theorem dX6_layInOrder_33 : decode cX6_layInOrder 33 = .ok (.iload 4, 2) := by decide +kernel
theorem dX6_layInOrder_35 : decode cX6_layInOrder 35 = .ok (.isub, 1) := by decide +kernel
theorem dX6_layInOrder_36 : decode cX6_layInOrder 36 = .ok (.iload 5, 2) := by decide +kernel
theorem dX6_layInOrder_38 : decode cX6_layInOrder 38 = .ok (.isub, 1) := by decide +kernel
theorem dX6_layInOrder_39 : decode cX6_layInOrder 39 = .ok (.iload 5, 2) := by decide +kernel
theorem dX6_layInOrder_41 : decode cX6_layInOrder 41 = .ok (.invokevirtual 249, 3) := by decide +kernel
theorem dX6_layInOrder_44 : decode cX6_layInOrder 44 = .ok (.return_, 1) := by decide +kernel
set_option maxRecDepth 20000 in
theorem ggX6_partOf_X6_commonDivisor : GoodIn wsX6_partOf wsX6_commonDivisor := goodIn_r _ [12] (by decide +kernel) (by decide +kernel)
set_option maxRecDepth 20000 in
theorem gX6_partOf_X6_commonDivisor : GoodIn wsX6_partOf (va_wsS RX6 256 yX6_commonDivisor wsX6_commonDivisor) := goodIn_app (goodIn_of _ (by decide +kernel)) ggX6_partOf_X6_commonDivisor
theorem dX6_partOf_0 : decode cX6_partOf 0 = .ok (.lconst 1, 1) := by decide +kernel
theorem dX6_partOf_1 : decode cX6_partOf 1 = .ok (.lload_n 0, 1) := by decide +kernel
theorem dX6_partOf_2 : decode cX6_partOf 2 = .ok (.invokestatic 252, 3) := by decide +kernel
theorem dX6_partOf_5 : decode cX6_partOf 5 = .ok (.lload_n 2, 1) := by decide +kernel
theorem dX6_partOf_6 : decode cX6_partOf 6 = .ok (.invokestatic 256, 3) := by decide +kernel
theorem dX6_partOf_9 : decode cX6_partOf 9 = .ok (.invokestatic 260, 3) := by decide +kernel
theorem dX6_partOf_12 : decode cX6_partOf 12 = .ok (.lstore 5, 2) := by decide +kernel
theorem dX6_partOf_14 : decode cX6_partOf 14 = .ok (.iload 4, 2) := by decide +kernel
theorem dX6_partOf_16 : decode cX6_partOf 16 = .ok (.ifCond .ne 14, 3) := by decide +kernel
theorem dX6_partOf_19 : decode cX6_partOf 19 = .ok (.lload_n 0, 1) := by decide +kernel
theorem dX6_partOf_20 : decode cX6_partOf 20 = .ok (.lload 5, 2) := by decide +kernel
theorem dX6_partOf_22 : decode cX6_partOf 22 = .ok (.ldiv, 1) := by decide +kernel
theorem dX6_partOf_23 : decode cX6_partOf 23 = .ok (.ldc2_w 262, 3) := by decide +kernel
theorem dX6_partOf_26 : decode cX6_partOf 26 = .ok (.ladd, 1) := by decide +kernel
theorem dX6_partOf_27 : decode cX6_partOf 27 = .ok (.goto 7, 3) := by decide +kernel
theorem dX6_partOf_30 : decode cX6_partOf 30 = .ok (.lload_n 2, 1) := by decide +kernel
theorem dX6_partOf_31 : decode cX6_partOf 31 = .ok (.lload 5, 2) := by decide +kernel
theorem dX6_partOf_33 : decode cX6_partOf 33 = .ok (.ldiv, 1) := by decide +kernel
theorem dX6_partOf_34 : decode cX6_partOf 34 = .ok (.lreturn, 1) := by decide +kernel
theorem dX6_commonDivisor_0 : decode cX6_commonDivisor 0 = .ok (.lload_n 0, 1) := by decide +kernel
theorem dX6_commonDivisor_1 : decode cX6_commonDivisor 1 = .ok (.lstore 4, 2) := by decide +kernel
theorem dX6_commonDivisor_3 : decode cX6_commonDivisor 3 = .ok (.lload_n 2, 1) := by decide +kernel
theorem dX6_commonDivisor_4 : decode cX6_commonDivisor 4 = .ok (.lstore 6, 2) := by decide +kernel
theorem dX6_commonDivisor_6 : decode cX6_commonDivisor 6 = .ok (.iconst 0, 1) := by decide +kernel
theorem dX6_commonDivisor_7 : decode cX6_commonDivisor 7 = .ok (.istore 8, 2) := by decide +kernel
theorem dX6_commonDivisor_9 : decode cX6_commonDivisor 9 = .ok (.lload 6, 2) := by decide +kernel
theorem dX6_commonDivisor_11 : decode cX6_commonDivisor 11 = .ok (.lconst 0, 1) := by decide +kernel
theorem dX6_commonDivisor_12 : decode cX6_commonDivisor 12 = .ok (.lcmp, 1) := by decide +kernel
theorem dX6_commonDivisor_13 : decode cX6_commonDivisor 13 = .ok (.ifCond .eq 32, 3) := by decide +kernel
theorem dX6_commonDivisor_16 : decode cX6_commonDivisor 16 = .ok (.iload 8, 2) := by decide +kernel
theorem dX6_commonDivisor_18 : decode cX6_commonDivisor 18 = .ok (.sipush 1000, 3) := by decide +kernel
theorem dX6_commonDivisor_21 : decode cX6_commonDivisor 21 = .ok (.if_icmp .ge 24, 3) := by decide +kernel
theorem dX6_commonDivisor_24 : decode cX6_commonDivisor 24 = .ok (.lload 4, 2) := by decide +kernel
theorem dX6_commonDivisor_26 : decode cX6_commonDivisor 26 = .ok (.lload 6, 2) := by decide +kernel
theorem dX6_commonDivisor_28 : decode cX6_commonDivisor 28 = .ok (.lrem, 1) := by decide +kernel
theorem dX6_commonDivisor_29 : decode cX6_commonDivisor 29 = .ok (.lstore 9, 2) := by decide +kernel
theorem dX6_commonDivisor_31 : decode cX6_commonDivisor 31 = .ok (.lload 6, 2) := by decide +kernel
theorem dX6_commonDivisor_33 : decode cX6_commonDivisor 33 = .ok (.lstore 4, 2) := by decide +kernel
theorem dX6_commonDivisor_35 : decode cX6_commonDivisor 35 = .ok (.lload 9, 2) := by decide +kernel
theorem dX6_commonDivisor_37 : decode cX6_commonDivisor 37 = .ok (.lstore 6, 2) := by decide +kernel
theorem dX6_commonDivisor_39 : decode cX6_commonDivisor 39 = .ok (.iinc 8 1, 3) := by decide +kernel
theorem dX6_commonDivisor_42 : decode cX6_commonDivisor 42 = .ok (.goto (-33), 3) := by decide +kernel
theorem dX6_commonDivisor_45 : decode cX6_commonDivisor 45 = .ok (.lload 4, 2) := by decide +kernel
theorem dX6_commonDivisor_47 : decode cX6_commonDivisor 47 = .ok (.lreturn, 1) := by decide +kernel
theorem dX7_init_0 : decode cX7_init 0 = .ok (.aload_n 0, 1) := by decide +kernel
theorem dX7_init_1 : decode cX7_init 1 = .ok (.invokespecial 1, 3) := by decide +kernel
theorem dX7_init_4 : decode cX7_init 4 = .ok (.aload_n 0, 1) := by decide +kernel
theorem dX7_init_5 : decode cX7_init 5 = .ok (.bipush 71, 2) := by decide +kernel
theorem dX7_init_7 : decode cX7_init 7 = .ok (.newarray .int, 2) := by decide +kernel
theorem dX7_init_9 : decode cX7_init 9 = .ok (.putfield 7, 3) := by decide +kernel
theorem dX7_init_12 : decode cX7_init 12 = .ok (.aload_n 0, 1) := by decide +kernel
theorem dX7_init_13 : decode cX7_init 13 = .ok (.sipush 284, 3) := by decide +kernel
theorem dX7_init_16 : decode cX7_init 16 = .ok (.newarray .int, 2) := by decide +kernel
theorem dX7_init_18 : decode cX7_init 18 = .ok (.putfield 13, 3) := by decide +kernel
theorem dX7_init_21 : decode cX7_init 21 = .ok (.aload_n 0, 1) := by decide +kernel
theorem dX7_init_22 : decode cX7_init 22 = .ok (.bipush 71, 2) := by decide +kernel
theorem dX7_init_24 : decode cX7_init 24 = .ok (.newarray .int, 2) := by decide +kernel
theorem dX7_init_26 : decode cX7_init 26 = .ok (.putfield 16, 3) := by decide +kernel
theorem dX7_init_29 : decode cX7_init 29 = .ok (.aload_n 0, 1) := by decide +kernel
theorem dX7_init_30 : decode cX7_init 30 = .ok (.iconst 3, 1) := by decide +kernel
theorem dX7_init_31 : decode cX7_init 31 = .ok (.newarray .int, 2) := by decide +kernel
theorem dX7_init_33 : decode cX7_init 33 = .ok (.putfield 19, 3) := by decide +kernel
theorem dX7_init_36 : decode cX7_init 36 = .ok (.aload_n 0, 1) := by decide +kernel
theorem dX7_init_37 : decode cX7_init 37 = .ok (.bipush 11, 2) := by decide +kernel
theorem dX7_init_39 : decode cX7_init 39 = .ok (.newarray .int, 2) := by decide +kernel
theorem dX7_init_41 : decode cX7_init 41 = .ok (.putfield 22, 3) := by decide +kernel
theorem dX7_init_44 : decode cX7_init 44 = .ok (.aload_n 0, 1) := by decide +kernel
theorem dX7_init_45 : decode cX7_init 45 = .ok (.bipush 10, 2) := by decide +kernel
theorem dX7_init_47 : decode cX7_init 47 = .ok (.newarray .int, 2) := by decide +kernel
theorem dX7_init_49 : decode cX7_init 49 = .ok (.putfield 25, 3) := by decide +kernel
theorem dX7_init_52 : decode cX7_init 52 = .ok (.aload_n 0, 1) := by decide +kernel
theorem dX7_init_53 : decode cX7_init 53 = .ok (.bipush 10, 2) := by decide +kernel
theorem dX7_init_55 : decode cX7_init 55 = .ok (.newarray .int, 2) := by decide +kernel
theorem dX7_init_57 : decode cX7_init 57 = .ok (.putfield 28, 3) := by decide +kernel
theorem dX7_init_60 : decode cX7_init 60 = .ok (.aload_n 0, 1) := by decide +kernel
theorem dX7_init_61 : decode cX7_init 61 = .ok (.bipush 60, 2) := by decide +kernel
theorem dX7_init_63 : decode cX7_init 63 = .ok (.newarray .char, 2) := by decide +kernel
theorem dX7_init_65 : decode cX7_init 65 = .ok (.putfield 31, 3) := by decide +kernel
theorem dX7_init_68 : decode cX7_init 68 = .ok (.aload_n 0, 1) := by decide +kernel
theorem dX7_init_69 : decode cX7_init 69 = .ok (.bipush 6, 2) := by decide +kernel
theorem dX7_init_71 : decode cX7_init 71 = .ok (.newarray .int, 2) := by decide +kernel
theorem dX7_init_73 : decode cX7_init 73 = .ok (.putfield 35, 3) := by decide +kernel
theorem dX7_init_76 : decode cX7_init 76 = .ok (.return_, 1) := by decide +kernel
theorem dX7_in_0 : decode cX7_in 0 = .ok (.iload_n 0, 1) := by decide +kernel
theorem dX7_in_1 : decode cX7_in 1 = .ok (.iload_n 1, 1) := by decide +kernel
theorem dX7_in_2 : decode cX7_in 2 = .ok (.if_icmp .lt 12, 3) := by decide +kernel
theorem dX7_in_5 : decode cX7_in 5 = .ok (.iload_n 0, 1) := by decide +kernel
theorem dX7_in_6 : decode cX7_in 6 = .ok (.iload_n 2, 1) := by decide +kernel
theorem dX7_in_7 : decode cX7_in 7 = .ok (.if_icmp .gt 7, 3) := by decide +kernel
theorem dX7_in_10 : decode cX7_in 10 = .ok (.iconst 1, 1) := by decide +kernel
theorem dX7_in_11 : decode cX7_in 11 = .ok (.goto 4, 3) := by decide +kernel
theorem dX7_in_14 : decode cX7_in 14 = .ok (.iconst 0, 1) := by decide +kernel
theorem dX7_in_15 : decode cX7_in 15 = .ok (.ireturn, 1) := by decide +kernel
theorem dX7_of_0 : decode cX7_of 0 = .ok (.aload_n 0, 1) := by decide +kernel
theorem dX7_of_1 : decode cX7_of 1 = .ok (.getfield 7, 3) := by decide +kernel
theorem dX7_of_4 : decode cX7_of 4 = .ok (.bipush 7, 2) := by decide +kernel
theorem dX7_of_6 : decode cX7_of 6 = .ok (.iload_n 1, 1) := by decide +kernel
theorem dX7_of_7 : decode cX7_of 7 = .ok (.imul, 1) := by decide +kernel
theorem dX7_of_8 : decode cX7_of 8 = .ok (.iload_n 2, 1) := by decide +kernel
theorem dX7_of_9 : decode cX7_of 9 = .ok (.iadd, 1) := by decide +kernel
theorem dX7_of_10 : decode cX7_of 10 = .ok (.iaload, 1) := by decide +kernel
theorem dX7_of_11 : decode cX7_of 11 = .ok (.ireturn, 1) := by decide +kernel
set_option maxRecDepth 20000 in
theorem ggX7_no_X7_in : GoodIn wsX7_no wsX7_in := goodIn_r _ [5] (by decide +kernel) (by decide +kernel)
set_option maxRecDepth 20000 in
theorem gX7_no_X7_in : GoodIn wsX7_no (va_wsS RX7 38 yX7_in wsX7_in) := goodIn_app (goodIn_of _ (by decide +kernel)) ggX7_no_X7_in
theorem dX7_no_0 : decode cX7_no 0 = .ok (.iload_n 1, 1) := by decide +kernel
theorem dX7_no_1 : decode cX7_no 1 = .ok (.iconst 0, 1) := by decide +kernel
theorem dX7_no_2 : decode cX7_no 2 = .ok (.aload_n 0, 1) := by decide +kernel
theorem dX7_no_3 : decode cX7_no 3 = .ok (.getfield 7, 3) := by decide +kernel
theorem dX7_no_6 : decode cX7_no 6 = .ok (.bipush 70, 2) := by decide +kernel
theorem dX7_no_8 : decode cX7_no 8 = .ok (.iaload, 1) := by decide +kernel
theorem dX7_no_9 : decode cX7_no 9 = .ok (.iconst 1, 1) := by decide +kernel
theorem dX7_no_10 : decode cX7_no 10 = .ok (.isub, 1) := by decide +kernel
theorem dX7_no_11 : decode cX7_no 11 = .ok (.invokestatic 38, 3) := by decide +kernel
theorem dX7_no_14 : decode cX7_no 14 = .ok (.ifCond .ne 7, 3) := by decide +kernel
theorem dX7_no_17 : decode cX7_no 17 = .ok (.iconst 1, 1) := by decide +kernel
theorem dX7_no_18 : decode cX7_no 18 = .ok (.goto 4, 3) := by decide +kernel
theorem dX7_no_21 : decode cX7_no 21 = .ok (.iconst 0, 1) := by decide +kernel
theorem dX7_no_22 : decode cX7_no 22 = .ok (.ireturn, 1) := by decide +kernel
set_option maxRecDepth 20000 in
theorem ggX7_isUsable_X7_of : GoodIn wsX7_isUsable wsX7_of := goodIn_r _ [5, 6, 7, 8, 9, 10, 11, 12, 13, 14, 15, 16, 17, 18, 19, 20, 21, 22, 23, 24, 25] (by decide +kernel) (by decide +kernel)
set_option maxRecDepth 20000 in
theorem gX7_isUsable_X7_of : GoodIn wsX7_isUsable (wsV RX7 42 RX7 yX7_of wsX7_of) := goodIn_app (goodIn_of _ (by decide +kernel)) ggX7_isUsable_X7_of
theorem dX7_isUsable_0 : decode cX7_isUsable 0 = .ok (.aload_n 0, 1) := by decide +kernel
theorem dX7_isUsable_1 : decode cX7_isUsable 1 = .ok (.iload_n 1, 1) := by decide +kernel
theorem dX7_isUsable_2 : decode cX7_isUsable 2 = .ok (.bipush 6, 2) := by decide +kernel
theorem dX7_isUsable_4 : decode cX7_isUsable 4 = .ok (.invokevirtual 42, 3) := by decide +kernel
theorem dX7_isUsable_7 : decode cX7_isUsable 7 = .ok (.ifCond .ne 7, 3) := by decide +kernel
theorem dX7_isUsable_10 : decode cX7_isUsable 10 = .ok (.iconst 1, 1) := by decide +kernel
theorem dX7_isUsable_11 : decode cX7_isUsable 11 = .ok (.goto 4, 3) := by decide +kernel
theorem dX7_isUsable_14 : decode cX7_isUsable 14 = .ok (.iconst 0, 1) := by decide +kernel
theorem dX7_isUsable_15 : decode cX7_isUsable 15 = .ok (.ireturn, 1) := by decide +kernel
set_option maxRecDepth 20000 in
theorem ggX7_hasAngle_X7_isUsable : GoodIn wsX7_hasAngle wsX7_isUsable := goodIn_r _ [5, 6, 7, 8, 4, 9, 10, 11, 12, 13, 14, 15, 16, 17, 18, 19, 20, 21, 22, 23, 24, 25, 26, 27, 28, 29] (by decide +kernel) (by decide +kernel)
set_option maxRecDepth 20000 in
theorem gX7_hasAngle_X7_isUsable : GoodIn wsX7_hasAngle (wsV RX7 46 RX7 yX7_isUsable wsX7_isUsable) := goodIn_app (goodIn_of _ (by decide +kernel)) ggX7_hasAngle_X7_isUsable
set_option maxRecDepth 20000 in
theorem ggX7_hasAngle_X7_of : GoodIn wsX7_hasAngle wsX7_of := goodIn_r _ [9, 10, 11, 12, 13, 14, 15, 16, 17, 18, 19, 20, 21, 22, 23, 24, 25, 26, 27, 28, 29] (by decide +kernel) (by decide +kernel)
set_option maxRecDepth 20000 in
theorem gX7_hasAngle_X7_of : GoodIn wsX7_hasAngle (wsV RX7 42 RX7 yX7_of wsX7_of) := goodIn_app (goodIn_of _ (by decide +kernel)) ggX7_hasAngle_X7_of
theorem dX7_hasAngle_0 : decode cX7_hasAngle 0 = .ok (.aload_n 0, 1) := by decide +kernel
theorem dX7_hasAngle_1 : decode cX7_hasAngle 1 = .ok (.iload_n 1, 1) := by decide +kernel
theorem dX7_hasAngle_2 : decode cX7_hasAngle 2 = .ok (.invokevirtual 46, 3) := by decide +kernel
theorem dX7_hasAngle_5 : decode cX7_hasAngle 5 = .ok (.ifCond .eq 19, 3) := by decide +kernel
theorem dX7_hasAngle_8 : decode cX7_hasAngle 8 = .ok (.aload_n 0, 1) := by decide +kernel
theorem dX7_hasAngle_9 : decode cX7_hasAngle 9 = .ok (.iload_n 1, 1) := by decide +kernel
theorem dX7_hasAngle_10 : decode cX7_hasAngle 10 = .ok (.iconst 4, 1) := by decide +kernel
theorem dX7_hasAngle_11 : decode cX7_hasAngle 11 = .ok (.invokevirtual 42, 3) := by decide +kernel
theorem dX7_hasAngle_14 : decode cX7_hasAngle 14 = .ok (.sipush 360, 3) := by decide +kernel
theorem dX7_hasAngle_17 : decode cX7_hasAngle 17 = .ok (.if_icmp .ge 7, 3) := by decide +kernel
theorem dX7_hasAngle_20 : decode cX7_hasAngle 20 = .ok (.iconst 1, 1) := by decide +kernel
theorem dX7_hasAngle_21 : decode cX7_hasAngle 21 = .ok (.goto 4, 3) := by decide +kernel
theorem dX7_hasAngle_24 : decode cX7_hasAngle 24 = .ok (.iconst 0, 1) := by decide +kernel
theorem dX7_hasAngle_25 : decode cX7_hasAngle 25 = .ok (.ireturn, 1) := by decide +kernel
set_option maxRecDepth 20000 in
theorem ggX7_usable_X7_isUsable : GoodIn wsX7_usable wsX7_isUsable := goodIn_r _ [6, 7, 8, 9, 5, 10, 1, 11, 12, 13, 14, 15, 16, 17, 18, 19, 20, 21, 22, 23, 24, 25, 26, 27, 28, 29] (by decide +kernel) (by decide +kernel)
set_option maxRecDepth 20000 in
theorem gX7_usable_X7_isUsable : GoodIn wsX7_usable (wsV RX7 46 RX7 yX7_isUsable wsX7_isUsable) := goodIn_app (goodIn_of _ (by decide +kernel)) ggX7_usable_X7_isUsable
theorem dX7_usable_0 : decode cX7_usable 0 = .ok (.iconst 0, 1) := by decide +kernel
theorem dX7_usable_1 : decode cX7_usable 1 = .ok (.istore_n 1, 1) := by decide +kernel
theorem dX7_usable_2 : decode cX7_usable 2 = .ok (.iconst 0, 1) := by decide +kernel
theorem dX7_usable_3 : decode cX7_usable 3 = .ok (.istore_n 2, 1) := by decide +kernel
theorem dX7_usable_4 : decode cX7_usable 4 = .ok (.iload_n 2, 1) := by decide +kernel
theorem dX7_usable_5 : decode cX7_usable 5 = .ok (.aload_n 0, 1) := by decide +kernel
theorem dX7_usable_6 : decode cX7_usable 6 = .ok (.getfield 7, 3) := by decide +kernel
theorem dX7_usable_9 : decode cX7_usable 9 = .ok (.bipush 70, 2) := by decide +kernel
theorem dX7_usable_11 : decode cX7_usable 11 = .ok (.iaload, 1) := by decide +kernel
theorem dX7_usable_12 : decode cX7_usable 12 = .ok (.if_icmp .ge 27, 3) := by decide +kernel
theorem dX7_usable_15 : decode cX7_usable 15 = .ok (.iload_n 1, 1) := by decide +kernel
theorem dX7_usable_16 : decode cX7_usable 16 = .ok (.aload_n 0, 1) := by decide +kernel
theorem dX7_usable_17 : decode cX7_usable 17 = .ok (.iload_n 2, 1) := by decide +kernel
theorem dX7_usable_18 : decode cX7_usable 18 = .ok (.invokevirtual 46, 3) := by decide +kernel
theorem dX7_usable_21 : decode cX7_usable 21 = .ok (.ifCond .eq 9, 3) := by decide +kernel
theorem dX7_usable_24 : decode cX7_usable 24 = .ok (.iconst 1, 1) := by decide +kernel
theorem dX7_usable_25 : decode cX7_usable 25 = .ok (.iload_n 2, 1) := by decide +kernel
theorem dX7_usable_26 : decode cX7_usable 26 = .ok (.ishl, 1) := by decide +kernel
theorem dX7_usable_27 : decode cX7_usable 27 = .ok (.goto 4, 3) := by decide +kernel
theorem dX7_usable_30 : decode cX7_usable 30 = .ok (.iconst 0, 1) := by decide +kernel
theorem dX7_usable_31 : decode cX7_usable 31 = .ok (.ior, 1) := by decide +kernel
theorem dX7_usable_32 : decode cX7_usable 32 = .ok (.istore_n 1, 1) := by decide +kernel
theorem dX7_usable_33 : decode cX7_usable 33 = .ok (.iinc 2 1, 3) := by decide +kernel
theorem dX7_usable_36 : decode cX7_usable 36 = .ok (.goto (-32), 3) := by decide +kernel
theorem dX7_usable_39 : decode cX7_usable 39 = .ok (.iload_n 1, 1) := by decide +kernel
theorem dX7_usable_40 : decode cX7_usable 40 = .ok (.ireturn, 1) := by decide +kernel
theorem dX7_bits_0 : decode cX7_bits 0 = .ok (.iconst 0, 1) := by decide +kernel
theorem dX7_bits_1 : decode cX7_bits 1 = .ok (.istore_n 1, 1) := by decide +kernel
theorem dX7_bits_2 : decode cX7_bits 2 = .ok (.iconst 0, 1) := by decide +kernel
theorem dX7_bits_3 : decode cX7_bits 3 = .ok (.istore_n 2, 1) := by decide +kernel
theorem dX7_bits_4 : decode cX7_bits 4 = .ok (.iload_n 2, 1) := by decide +kernel
theorem dX7_bits_5 : decode cX7_bits 5 = .ok (.bipush 10, 2) := by decide +kernel
theorem dX7_bits_7 : decode cX7_bits 7 = .ok (.if_icmp .ge 17, 3) := by decide +kernel
theorem dX7_bits_10 : decode cX7_bits 10 = .ok (.iload_n 1, 1) := by decide +kernel
theorem dX7_bits_11 : decode cX7_bits 11 = .ok (.iload_n 0, 1) := by decide +kernel
theorem dX7_bits_12 : decode cX7_bits 12 = .ok (.iload_n 2, 1) := by decide +kernel
theorem dX7_bits_13 : decode cX7_bits 13 = .ok (.ishr, 1) := by decide +kernel
theorem dX7_bits_14 : decode cX7_bits 14 = .ok (.iconst 1, 1) := by decide +kernel
theorem dX7_bits_15 : decode cX7_bits 15 = .ok (.iand, 1) := by decide +kernel
theorem dX7_bits_16 : decode cX7_bits 16 = .ok (.iadd, 1) := by decide +kernel
theorem dX7_bits_17 : decode cX7_bits 17 = .ok (.istore_n 1, 1) := by decide +kernel
theorem dX7_bits_18 : decode cX7_bits 18 = .ok (.iinc 2 1, 3) := by decide +kernel
theorem dX7_bits_21 : decode cX7_bits 21 = .ok (.goto (-17), 3) := by decide +kernel
theorem dX7_bits_24 : decode cX7_bits 24 = .ok (.iload_n 1, 1) := by decide +kernel
theorem dX7_bits_25 : decode cX7_bits 25 = .ok (.ireturn, 1) := by decide +kernel
theorem dX7_record_0 : decode cX7_record 0 = .ok (.aload_n 0, 1) := by decide +kernel
theorem dX7_record_1 : decode cX7_record 1 = .ok (.getfield 50, 3) := by decide +kernel
theorem dX7_record_4 : decode cX7_record 4 = .ok (.iconst 4, 1) := by decide +kernel
theorem dX7_record_5 : decode cX7_record 5 = .ok (.if_icmp .ne 43, 3) := by decide +kernel
theorem dX7_record_8 : decode cX7_record 8 = .ok (.iconst 0, 1) := by decide +kernel
theorem dX7_record_9 : decode cX7_record 9 = .ok (.istore_n 1, 1) := by decide +kernel
theorem dX7_record_10 : decode cX7_record 10 = .ok (.iload_n 1, 1) := by decide +kernel
theorem dX7_record_11 : decode cX7_record 11 = .ok (.sipush 213, 3) := by decide +kernel
theorem dX7_record_14 : decode cX7_record 14 = .ok (.if_icmp .ge 24, 3) := by decide +kernel
theorem dX7_record_17 : decode cX7_record 17 = .ok (.aload_n 0, 1) := by decide +kernel
theorem dX7_record_18 : decode cX7_record 18 = .ok (.getfield 13, 3) := by decide +kernel
theorem dX7_record_21 : decode cX7_record 21 = .ok (.iload_n 1, 1) := by decide +kernel
theorem dX7_record_22 : decode cX7_record 22 = .ok (.aload_n 0, 1) := by decide +kernel
theorem dX7_record_23 : decode cX7_record 23 = .ok (.getfield 13, 3) := by decide +kernel
theorem dX7_record_26 : decode cX7_record 26 = .ok (.iload_n 1, 1) := by decide +kernel
theorem dX7_record_27 : decode cX7_record 27 = .ok (.bipush 71, 2) := by decide +kernel
theorem dX7_record_29 : decode cX7_record 29 = .ok (.iadd, 1) := by decide +kernel
theorem dX7_record_30 : decode cX7_record 30 = .ok (.iaload, 1) := by decide +kernel
theorem dX7_record_31 : decode cX7_record 31 = .ok (.iastore, 1) := by decide +kernel
theorem dX7_record_32 : decode cX7_record 32 = .ok (.iinc 1 1, 3) := by decide +kernel
theorem dX7_record_35 : decode cX7_record 35 = .ok (.goto (-25), 3) := by decide +kernel
theorem dX7_record_38 : decode cX7_record 38 = .ok (.aload_n 0, 1) := by decide +kernel
theorem dX7_record_39 : decode cX7_record 39 = .ok (.dup, 1) := by decide +kernel
theorem dX7_record_40 : decode cX7_record 40 = .ok (.getfield 50, 3) := by decide +kernel
theorem dX7_record_43 : decode cX7_record 43 = .ok (.iconst 1, 1) := by decide +kernel
theorem dX7_record_44 : decode cX7_record 44 = .ok (.isub, 1) := by decide +kernel
theorem dX7_record_45 : decode cX7_record 45 = .ok (.putfield 50, 3) := by decide +kernel
theorem dX7_record_48 : decode cX7_record 48 = .ok (.iconst 0, 1) := by decide +kernel
theorem dX7_record_49 : decode cX7_record 49 = .ok (.istore_n 1, 1) := by decide +kernel
theorem dX7_record_50 : decode cX7_record 50 = .ok (.iload_n 1, 1) := by decide +kernel
theorem dX7_record_51 : decode cX7_record 51 = .ok (.bipush 71, 2) := by decide +kernel
theorem dX7_record_53 : decode cX7_record 53 = .ok (.if_icmp .ge 29, 3) := by decide +kernel
theorem dX7_record_56 : decode cX7_record 56 = .ok (.aload_n 0, 1) := by decide +kernel
theorem dX7_record_57 : decode cX7_record 57 = .ok (.getfield 13, 3) := by decide +kernel
theorem dX7_record_60 : decode cX7_record 60 = .ok (.bipush 71, 2) := by decide +kernel
theorem dX7_record_62 : decode cX7_record 62 = .ok (.aload_n 0, 1) := by decide +kernel
theorem dX7_record_63 : decode cX7_record 63 = .ok (.getfield 50, 3) := by decide +kernel
theorem dX7_record_66 : decode cX7_record 66 = .ok (.imul, 1) := by decide +kernel
theorem dX7_record_67 : decode cX7_record 67 = .ok (.iload_n 1, 1) := by decide +kernel
theorem dX7_record_68 : decode cX7_record 68 = .ok (.iadd, 1) := by decide +kernel
theorem dX7_record_69 : decode cX7_record 69 = .ok (.aload_n 0, 1) := by decide +kernel
theorem dX7_record_70 : decode cX7_record 70 = .ok (.getfield 7, 3) := by decide +kernel
theorem dX7_record_73 : decode cX7_record 73 = .ok (.iload_n 1, 1) := by decide +kernel
theorem dX7_record_74 : decode cX7_record 74 = .ok (.iaload, 1) := by decide +kernel
theorem dX7_record_75 : decode cX7_record 75 = .ok (.iastore, 1) := by decide +kernel
theorem dX7_record_76 : decode cX7_record 76 = .ok (.iinc 1 1, 3) := by decide +kernel
theorem dX7_record_79 : decode cX7_record 79 = .ok (.goto (-29), 3) := by decide +kernel
theorem dX7_record_82 : decode cX7_record 82 = .ok (.aload_n 0, 1) := by decide +kernel
theorem dX7_record_83 : decode cX7_record 83 = .ok (.dup, 1) := by decide +kernel
theorem dX7_record_84 : decode cX7_record 84 = .ok (.getfield 50, 3) := by decide +kernel
theorem dX7_record_87 : decode cX7_record 87 = .ok (.iconst 1, 1) := by decide +kernel
theorem dX7_record_88 : decode cX7_record 88 = .ok (.iadd, 1) := by decide +kernel
theorem dX7_record_89 : decode cX7_record 89 = .ok (.putfield 50, 3) := by decide +kernel
theorem dX7_record_92 : decode cX7_record 92 = .ok (.return_, 1) := by decide +kernel
set_option maxRecDepth 20000 in
theorem ggX7_upper_X7_of : GoodIn wsX7_upper wsX7_of := goodIn_r _ [5, 6, 7, 8, 9, 10, 11, 12, 13, 14, 15, 16, 17, 18, 19, 20, 21, 22, 23, 24, 25] (by decide +kernel) (by decide +kernel)
set_option maxRecDepth 20000 in
theorem gX7_upper_X7_of : GoodIn wsX7_upper (wsV RX7 42 RX7 yX7_of wsX7_of) := goodIn_app (goodIn_of _ (by decide +kernel)) ggX7_upper_X7_of
theorem dX7_upper_0 : decode cX7_upper 0 = .ok (.aload_n 0, 1) := by decide +kernel
theorem dX7_upper_1 : decode cX7_upper 1 = .ok (.iload_n 1, 1) := by decide +kernel
theorem dX7_upper_2 : decode cX7_upper 2 = .ok (.iconst 0, 1) := by decide +kernel
theorem dX7_upper_3 : decode cX7_upper 3 = .ok (.invokevirtual 42, 3) := by decide +kernel
theorem dX7_upper_6 : decode cX7_upper 6 = .ok (.i2l, 1) := by decide +kernel
theorem dX7_upper_7 : decode cX7_upper 7 = .ok (.lstore 6, 2) := by decide +kernel
theorem dX7_upper_9 : decode cX7_upper 9 = .ok (.aload_n 0, 1) := by decide +kernel
theorem dX7_upper_10 : decode cX7_upper 10 = .ok (.iload_n 2, 1) := by decide +kernel
theorem dX7_upper_11 : decode cX7_upper 11 = .ok (.iconst 0, 1) := by decide +kernel
theorem dX7_upper_12 : decode cX7_upper 12 = .ok (.invokevirtual 42, 3) := by decide +kernel
theorem dX7_upper_15 : decode cX7_upper 15 = .ok (.i2l, 1) := by decide +kernel
theorem dX7_upper_16 : decode cX7_upper 16 = .ok (.lstore 8, 2) := by decide +kernel
theorem dX7_upper_18 : decode cX7_upper 18 = .ok (.aload_n 0, 1) := by decide +kernel
theorem dX7_upper_19 : decode cX7_upper 19 = .ok (.iload_n 3, 1) := by decide +kernel
theorem dX7_upper_20 : decode cX7_upper 20 = .ok (.iconst 0, 1) := by decide +kernel
theorem dX7_upper_21 : decode cX7_upper 21 = .ok (.invokevirtual 42, 3) := by decide +kernel
theorem dX7_upper_24 : decode cX7_upper 24 = .ok (.i2l, 1) := by decide +kernel
theorem dX7_upper_25 : decode cX7_upper 25 = .ok (.lstore 10, 2) := by decide +kernel
theorem dX7_upper_27 : decode cX7_upper 27 = .ok (.iload 4, 2) := by decide +kernel
theorem dX7_upper_29 : decode cX7_upper 29 = .ok (.i2l, 1) := by decide +kernel
theorem dX7_upper_30 : decode cX7_upper 30 = .ok (.lstore 12, 2) := by decide +kernel
theorem dX7_upper_32 : decode cX7_upper 32 = .ok (.aload_n 0, 1) := by decide +kernel
theorem dX7_upper_33 : decode cX7_upper 33 = .ok (.iload_n 1, 1) := by decide +kernel
theorem dX7_upper_34 : decode cX7_upper 34 = .ok (.iconst 1, 1) := by decide +kernel
theorem dX7_upper_35 : decode cX7_upper 35 = .ok (.iload 5, 2) := by decide +kernel
theorem dX7_upper_37 : decode cX7_upper 37 = .ok (.iadd, 1) := by decide +kernel
theorem dX7_upper_38 : decode cX7_upper 38 = .ok (.invokevirtual 42, 3) := by decide +kernel
theorem dX7_upper_41 : decode cX7_upper 41 = .ok (.i2l, 1) := by decide +kernel
theorem dX7_upper_42 : decode cX7_upper 42 = .ok (.lload 12, 2) := by decide +kernel
theorem dX7_upper_44 : decode cX7_upper 44 = .ok (.lload 8, 2) := by decide +kernel
theorem dX7_upper_46 : decode cX7_upper 46 = .ok (.lsub, 1) := by decide +kernel
theorem dX7_upper_47 : decode cX7_upper 47 = .ok (.lmul, 1) := by decide +kernel
theorem dX7_upper_48 : decode cX7_upper 48 = .ok (.lload 12, 2) := by decide +kernel
theorem dX7_upper_50 : decode cX7_upper 50 = .ok (.lload 10, 2) := by decide +kernel
theorem dX7_upper_52 : decode cX7_upper 52 = .ok (.lsub, 1) := by decide +kernel
theorem dX7_upper_53 : decode cX7_upper 53 = .ok (.lmul, 1) := by decide +kernel
theorem dX7_upper_54 : decode cX7_upper 54 = .ok (.lload 10, 2) := by decide +kernel
theorem dX7_upper_56 : decode cX7_upper 56 = .ok (.lload 8, 2) := by decide +kernel
theorem dX7_upper_58 : decode cX7_upper 58 = .ok (.lsub, 1) := by decide +kernel
theorem dX7_upper_59 : decode cX7_upper 59 = .ok (.lmul, 1) := by decide +kernel
theorem dX7_upper_60 : decode cX7_upper 60 = .ok (.aload_n 0, 1) := by decide +kernel
theorem dX7_upper_61 : decode cX7_upper 61 = .ok (.iload_n 2, 1) := by decide +kernel
theorem dX7_upper_62 : decode cX7_upper 62 = .ok (.iconst 1, 1) := by decide +kernel
theorem dX7_upper_63 : decode cX7_upper 63 = .ok (.iload 5, 2) := by decide +kernel
theorem dX7_upper_65 : decode cX7_upper 65 = .ok (.iadd, 1) := by decide +kernel
theorem dX7_upper_66 : decode cX7_upper 66 = .ok (.invokevirtual 42, 3) := by decide +kernel
theorem dX7_upper_69 : decode cX7_upper 69 = .ok (.i2l, 1) := by decide +kernel
theorem dX7_upper_70 : decode cX7_upper 70 = .ok (.lload 12, 2) := by decide +kernel
theorem dX7_upper_72 : decode cX7_upper 72 = .ok (.lload 6, 2) := by decide +kernel
theorem dX7_upper_74 : decode cX7_upper 74 = .ok (.lsub, 1) := by decide +kernel
theorem dX7_upper_75 : decode cX7_upper 75 = .ok (.lmul, 1) := by decide +kernel
theorem dX7_upper_76 : decode cX7_upper 76 = .ok (.lload 12, 2) := by decide +kernel
theorem dX7_upper_78 : decode cX7_upper 78 = .ok (.lload 10, 2) := by decide +kernel
theorem dX7_upper_80 : decode cX7_upper 80 = .ok (.lsub, 1) := by decide +kernel
theorem dX7_upper_81 : decode cX7_upper 81 = .ok (.lmul, 1) := by decide +kernel
theorem dX7_upper_82 : decode cX7_upper 82 = .ok (.lload 6, 2) := by decide +kernel
theorem dX7_upper_84 : decode cX7_upper 84 = .ok (.lload 10, 2) := by decide +kernel
theorem dX7_upper_86 : decode cX7_upper 86 = .ok (.lsub, 1) := by decide +kernel
theorem dX7_upper_87 : decode cX7_upper 87 = .ok (.lmul, 1) := by decide +kernel
theorem dX7_upper_88 : decode cX7_upper 88 = .ok (.ladd, 1) := by decide +kernel
theorem dX7_upper_89 : decode cX7_upper 89 = .ok (.aload_n 0, 1) := by decide +kernel
theorem dX7_upper_90 : decode cX7_upper 90 = .ok (.iload_n 3, 1) := by decide +kernel
theorem dX7_upper_91 : decode cX7_upper 91 = .ok (.iconst 1, 1) := by decide +kernel
theorem dX7_upper_92 : decode cX7_upper 92 = .ok (.iload 5, 2) := by decide +kernel
theorem dX7_upper_94 : decode cX7_upper 94 = .ok (.iadd, 1) := by decide +kernel
theorem dX7_upper_95 : decode cX7_upper 95 = .ok (.invokevirtual 42, 3) := by decide +kernel
theorem dX7_upper_98 : decode cX7_upper 98 = .ok (.i2l, 1) := by decide +kernel
theorem dX7_upper_99 : decode cX7_upper 99 = .ok (.lload 12, 2) := by decide +kernel
theorem dX7_upper_101 : decode cX7_upper 101 = .ok (.lload 6, 2) := by decide +kernel
theorem dX7_upper_103 : decode cX7_upper 103 = .ok (.lsub, 1) := by decide +kernel
theorem dX7_upper_104 : decode cX7_upper 104 = .ok (.lmul, 1) := by decide +kernel
theorem dX7_upper_105 : decode cX7_upper 105 = .ok (.lload 12, 2) := by decide +kernel
theorem dX7_upper_107 : decode cX7_upper 107 = .ok (.lload 8, 2) := by decide +kernel
theorem dX7_upper_109 : decode cX7_upper 109 = .ok (.lsub, 1) := by decide +kernel
theorem dX7_upper_110 : decode cX7_upper 110 = .ok (.lmul, 1) := by decide +kernel
theorem dX7_upper_111 : decode cX7_upper 111 = .ok (.lload 8, 2) := by decide +kernel
theorem dX7_upper_113 : decode cX7_upper 113 = .ok (.lload 6, 2) := by decide +kernel
theorem dX7_upper_115 : decode cX7_upper 115 = .ok (.lsub, 1) := by decide +kernel
theorem dX7_upper_116 : decode cX7_upper 116 = .ok (.lmul, 1) := by decide +kernel
theorem dX7_upper_117 : decode cX7_upper 117 = .ok (.ladd, 1) := by decide +kernel
theorem dX7_upper_118 : decode cX7_upper 118 = .ok (.lreturn, 1) := by decide +kernel
set_option maxRecDepth 20000 in
theorem ggX7_lower_X7_of : GoodIn wsX7_lower wsX7_of := goodIn_r _ [5, 6, 7, 8, 9, 10, 11, 12, 13, 14, 15, 16, 17, 18, 19, 20, 21, 22, 23, 24, 25] (by decide +kernel) (by decide +kernel)
set_option maxRecDepth 20000 in
theorem gX7_lower_X7_of : GoodIn wsX7_lower (wsV RX7 42 RX7 yX7_of wsX7_of) := goodIn_app (goodIn_of _ (by decide +kernel)) ggX7_lower_X7_of
theorem dX7_lower_0 : decode cX7_lower 0 = .ok (.aload_n 0, 1) := by decide +kernel
theorem dX7_lower_1 : decode cX7_lower 1 = .ok (.iload_n 1, 1) := by decide +kernel
theorem dX7_lower_2 : decode cX7_lower 2 = .ok (.iconst 0, 1) := by decide +kernel
theorem dX7_lower_3 : decode cX7_lower 3 = .ok (.invokevirtual 42, 3) := by decide +kernel
theorem dX7_lower_6 : decode cX7_lower 6 = .ok (.i2l, 1) := by decide +kernel
theorem dX7_lower_7 : decode cX7_lower 7 = .ok (.lstore 4, 2) := by decide +kernel
theorem dX7_lower_9 : decode cX7_lower 9 = .ok (.aload_n 0, 1) := by decide +kernel
theorem dX7_lower_10 : decode cX7_lower 10 = .ok (.iload_n 2, 1) := by decide +kernel
theorem dX7_lower_11 : decode cX7_lower 11 = .ok (.iconst 0, 1) := by decide +kernel
theorem dX7_lower_12 : decode cX7_lower 12 = .ok (.invokevirtual 42, 3) := by decide +kernel
theorem dX7_lower_15 : decode cX7_lower 15 = .ok (.i2l, 1) := by decide +kernel
theorem dX7_lower_16 : decode cX7_lower 16 = .ok (.lstore 6, 2) := by decide +kernel
theorem dX7_lower_18 : decode cX7_lower 18 = .ok (.aload_n 0, 1) := by decide +kernel
theorem dX7_lower_19 : decode cX7_lower 19 = .ok (.iload_n 3, 1) := by decide +kernel
theorem dX7_lower_20 : decode cX7_lower 20 = .ok (.iconst 0, 1) := by decide +kernel
theorem dX7_lower_21 : decode cX7_lower 21 = .ok (.invokevirtual 42, 3) := by decide +kernel
theorem dX7_lower_24 : decode cX7_lower 24 = .ok (.i2l, 1) := by decide +kernel
theorem dX7_lower_25 : decode cX7_lower 25 = .ok (.lstore 8, 2) := by decide +kernel
theorem dX7_lower_27 : decode cX7_lower 27 = .ok (.lload 6, 2) := by decide +kernel
theorem dX7_lower_29 : decode cX7_lower 29 = .ok (.lload 4, 2) := by decide +kernel
theorem dX7_lower_31 : decode cX7_lower 31 = .ok (.lsub, 1) := by decide +kernel
theorem dX7_lower_32 : decode cX7_lower 32 = .ok (.lload 8, 2) := by decide +kernel
theorem dX7_lower_34 : decode cX7_lower 34 = .ok (.lload 4, 2) := by decide +kernel
theorem dX7_lower_36 : decode cX7_lower 36 = .ok (.lsub, 1) := by decide +kernel
theorem dX7_lower_37 : decode cX7_lower 37 = .ok (.lmul, 1) := by decide +kernel
theorem dX7_lower_38 : decode cX7_lower 38 = .ok (.lload 8, 2) := by decide +kernel
theorem dX7_lower_40 : decode cX7_lower 40 = .ok (.lload 6, 2) := by decide +kernel
theorem dX7_lower_42 : decode cX7_lower 42 = .ok (.lsub, 1) := by decide +kernel
theorem dX7_lower_43 : decode cX7_lower 43 = .ok (.lmul, 1) := by decide +kernel
theorem dX7_lower_44 : decode cX7_lower 44 = .ok (.lreturn, 1) := by decide +kernel
theorem dX7_without_0 : decode cX7_without 0 = .ok (.lload_n 0, 1) := by decide +kernel
theorem dX7_without_1 : decode cX7_without 1 = .ok (.lconst 0, 1) := by decide +kernel
theorem dX7_without_2 : decode cX7_without 2 = .ok (.lcmp, 1) := by decide +kernel
theorem dX7_without_3 : decode cX7_without 3 = .ok (.ifCond .ge 8, 3) := by decide +kernel
theorem dX7_without_6 : decode cX7_without 6 = .ok (.lload_n 0, 1) := by decide +kernel
theorem dX7_without_7 : decode cX7_without 7 = .ok (.lneg, 1) := by decide +kernel
theorem dX7_without_8 : decode cX7_without 8 = .ok (.goto 4, 3) := by decide +kernel
theorem dX7_without_11 : decode cX7_without 11 = .ok (.lload_n 0, 1) := by decide +kernel
theorem dX7_without_12 : decode cX7_without 12 = .ok (.lreturn, 1) := by decide +kernel
set_option maxRecDepth 20000 in
theorem ggX7_isHit_X7_lower : GoodIn wsX7_isHit wsX7_lower := goodIn_r _ [5, 6, 7, 8, 4, 9, 10, 18, 19, 20, 21, 22, 23, 24, 25, 26, 27, 28, 29, 30, 31, 32, 33, 34, 35, 36] (by decide +kernel) (by decide +kernel)
set_option maxRecDepth 20000 in
theorem gX7_isHit_X7_lower : GoodIn wsX7_isHit (wsV RX7 54 RX7 yX7_lower wsX7_lower) := goodIn_app (goodIn_of _ (by decide +kernel)) ggX7_isHit_X7_lower
set_option maxRecDepth 20000 in
theorem ggX7_isHit_X7_of : GoodIn wsX7_isHit wsX7_of := goodIn_r _ [9, 10, 18, 19, 20, 21, 22, 23, 24, 25, 26, 27, 28, 29, 30, 31, 32, 33, 34, 35, 36] (by decide +kernel) (by decide +kernel)
set_option maxRecDepth 20000 in
theorem gX7_isHit_X7_of : GoodIn wsX7_isHit (wsV RX7 42 RX7 yX7_of wsX7_of) := goodIn_app (goodIn_of _ (by decide +kernel)) ggX7_isHit_X7_of
set_option maxRecDepth 20000 in
theorem ggX7_isHit_X7_upper : GoodIn wsX7_isHit wsX7_upper := goodIn_r _ [14, 6, 7, 8, 4, 9, 10, 18, 19, 20, 21, 22, 23, 24, 25, 26, 27, 28, 29, 30, 31, 32, 33, 34, 35, 36] (by decide +kernel) (by decide +kernel)
set_option maxRecDepth 20000 in
theorem gX7_isHit_X7_upper : GoodIn wsX7_isHit (wsV RX7 58 RX7 yX7_upper wsX7_upper) := goodIn_app (goodIn_of _ (by decide +kernel)) ggX7_isHit_X7_upper
set_option maxRecDepth 20000 in
theorem ggX7_isHit_X7_without : GoodIn wsX7_isHit wsX7_without := goodIn_r _ [17] (by decide +kernel) (by decide +kernel)
set_option maxRecDepth 20000 in
theorem gX7_isHit_X7_without : GoodIn wsX7_isHit (va_wsS RX7 62 yX7_without wsX7_without) := goodIn_app (goodIn_of _ (by decide +kernel)) ggX7_isHit_X7_without
theorem dX7_isHit_0 : decode cX7_isHit 0 = .ok (.aload_n 0, 1) := by decide +kernel
theorem dX7_isHit_1 : decode cX7_isHit 1 = .ok (.iload_n 1, 1) := by decide +kernel
theorem dX7_isHit_2 : decode cX7_isHit 2 = .ok (.iload_n 2, 1) := by decide +kernel
theorem dX7_isHit_3 : decode cX7_isHit 3 = .ok (.iload_n 3, 1) := by decide +kernel
theorem dX7_isHit_4 : decode cX7_isHit 4 = .ok (.invokevirtual 54, 3) := by decide +kernel
theorem dX7_isHit_7 : decode cX7_isHit 7 = .ok (.lstore 5, 2) := by decide +kernel
theorem dX7_isHit_9 : decode cX7_isHit 9 = .ok (.iconst 1, 1) := by decide +kernel
theorem dX7_isHit_10 : decode cX7_isHit 10 = .ok (.istore 7, 2) := by decide +kernel
theorem dX7_isHit_12 : decode cX7_isHit 12 = .ok (.iconst 0, 1) := by decide +kernel
theorem dX7_isHit_13 : decode cX7_isHit 13 = .ok (.istore 8, 2) := by decide +kernel
theorem dX7_isHit_15 : decode cX7_isHit 15 = .ok (.iload 8, 2) := by decide +kernel
theorem dX7_isHit_17 : decode cX7_isHit 17 = .ok (.iconst 2, 1) := by decide +kernel
theorem dX7_isHit_18 : decode cX7_isHit 18 = .ok (.if_icmp .ge 75, 3) := by decide +kernel
theorem dX7_isHit_21 : decode cX7_isHit 21 = .ok (.aload_n 0, 1) := by decide +kernel
theorem dX7_isHit_22 : decode cX7_isHit 22 = .ok (.iload_n 1, 1) := by decide +kernel
theorem dX7_isHit_23 : decode cX7_isHit 23 = .ok (.iload_n 2, 1) := by decide +kernel
theorem dX7_isHit_24 : decode cX7_isHit 24 = .ok (.iload_n 3, 1) := by decide +kernel
theorem dX7_isHit_25 : decode cX7_isHit 25 = .ok (.aload_n 0, 1) := by decide +kernel
theorem dX7_isHit_26 : decode cX7_isHit 26 = .ok (.iload 4, 2) := by decide +kernel
theorem dX7_isHit_28 : decode cX7_isHit 28 = .ok (.iconst 0, 1) := by decide +kernel
theorem dX7_isHit_29 : decode cX7_isHit 29 = .ok (.invokevirtual 42, 3) := by decide +kernel
theorem dX7_isHit_32 : decode cX7_isHit 32 = .ok (.iload 8, 2) := by decide +kernel
theorem dX7_isHit_34 : decode cX7_isHit 34 = .ok (.invokevirtual 58, 3) := by decide +kernel
theorem dX7_isHit_37 : decode cX7_isHit 37 = .ok (.aload_n 0, 1) := by decide +kernel
theorem dX7_isHit_38 : decode cX7_isHit 38 = .ok (.iload 4, 2) := by decide +kernel
theorem dX7_isHit_40 : decode cX7_isHit 40 = .ok (.iconst 1, 1) := by decide +kernel
theorem dX7_isHit_41 : decode cX7_isHit 41 = .ok (.iload 8, 2) := by decide +kernel
theorem dX7_isHit_43 : decode cX7_isHit 43 = .ok (.iadd, 1) := by decide +kernel
theorem dX7_isHit_44 : decode cX7_isHit 44 = .ok (.invokevirtual 42, 3) := by decide +kernel
theorem dX7_isHit_47 : decode cX7_isHit 47 = .ok (.i2l, 1) := by decide +kernel
theorem dX7_isHit_48 : decode cX7_isHit 48 = .ok (.lload 5, 2) := by decide +kernel
theorem dX7_isHit_50 : decode cX7_isHit 50 = .ok (.lmul, 1) := by decide +kernel
theorem dX7_isHit_51 : decode cX7_isHit 51 = .ok (.lsub, 1) := by decide +kernel
theorem dX7_isHit_52 : decode cX7_isHit 52 = .ok (.lstore 9, 2) := by decide +kernel
theorem dX7_isHit_54 : decode cX7_isHit 54 = .ok (.iload 7, 2) := by decide +kernel
theorem dX7_isHit_56 : decode cX7_isHit 56 = .ok (.lload 9, 2) := by decide +kernel
theorem dX7_isHit_58 : decode cX7_isHit 58 = .ok (.invokestatic 62, 3) := by decide +kernel
theorem dX7_isHit_61 : decode cX7_isHit 61 = .ok (.aload_n 0, 1) := by decide +kernel
theorem dX7_isHit_62 : decode cX7_isHit 62 = .ok (.iload 4, 2) := by decide +kernel
theorem dX7_isHit_64 : decode cX7_isHit 64 = .ok (.iconst 3, 1) := by decide +kernel
theorem dX7_isHit_65 : decode cX7_isHit 65 = .ok (.invokevirtual 42, 3) := by decide +kernel
theorem dX7_isHit_68 : decode cX7_isHit 68 = .ok (.i2l, 1) := by decide +kernel
theorem dX7_isHit_69 : decode cX7_isHit 69 = .ok (.lload 5, 2) := by decide +kernel
theorem dX7_isHit_71 : decode cX7_isHit 71 = .ok (.invokestatic 62, 3) := by decide +kernel
theorem dX7_isHit_74 : decode cX7_isHit 74 = .ok (.lmul, 1) := by decide +kernel
theorem dX7_isHit_75 : decode cX7_isHit 75 = .ok (.lcmp, 1) := by decide +kernel
theorem dX7_isHit_76 : decode cX7_isHit 76 = .ok (.ifCond .gt 7, 3) := by decide +kernel
theorem dX7_isHit_79 : decode cX7_isHit 79 = .ok (.iconst 1, 1) := by decide +kernel
theorem dX7_isHit_80 : decode cX7_isHit 80 = .ok (.goto 4, 3) := by decide +kernel
theorem dX7_isHit_83 : decode cX7_isHit 83 = .ok (.iconst 0, 1) := by decide +kernel
theorem dX7_isHit_84 : decode cX7_isHit 84 = .ok (.iand, 1) := by decide +kernel
theorem dX7_isHit_85 : decode cX7_isHit 85 = .ok (.istore 7, 2) := by decide +kernel
theorem dX7_isHit_87 : decode cX7_isHit 87 = .ok (.iinc 8 1, 3) := by decide +kernel
theorem dX7_isHit_90 : decode cX7_isHit 90 = .ok (.goto (-75), 3) := by decide +kernel
theorem dX7_isHit_93 : decode cX7_isHit 93 = .ok (.iload 7, 2) := by decide +kernel
theorem dX7_isHit_95 : decode cX7_isHit 95 = .ok (.ireturn, 1) := by decide +kernel
set_option maxRecDepth 20000 in
theorem ggX7_hitBy_X7_isUsable : GoodIn wsX7_hitBy wsX7_isUsable := goodIn_r _ [6, 7, 8, 9, 5, 10, 1, 26, 27, 28, 29, 30, 31, 32, 33, 34, 35, 36, 37, 38, 39, 40, 41, 42, 43, 44] (by decide +kernel) (by decide +kernel)
set_option maxRecDepth 20000 in
theorem gX7_hitBy_X7_isUsable : GoodIn wsX7_hitBy (wsV RX7 46 RX7 yX7_isUsable wsX7_isUsable) := goodIn_app (goodIn_of _ (by decide +kernel)) ggX7_hitBy_X7_isUsable
set_option maxRecDepth 20000 in
theorem ggX7_hitBy_X7_isHit : GoodIn wsX7_hitBy wsX7_isHit := goodIn_r _ [14, 15, 16, 17, 5, 18, 7, 8, 9, 10, 1, 19, 20, 21, 22, 23, 24, 25, 26, 27, 28, 29, 30, 31, 32, 33, 34, 35, 36, 37, 38, 39, 40, 41, 42, 43, 44] (by decide +kernel) (by decide +kernel)
set_option maxRecDepth 20000 in
theorem gX7_hitBy_X7_isHit : GoodIn wsX7_hitBy (wsV RX7 66 RX7 yX7_isHit wsX7_isHit) := goodIn_app (goodIn_of _ (by decide +kernel)) ggX7_hitBy_X7_isHit
theorem dX7_hitBy_0 : decode cX7_hitBy 0 = .ok (.iconst 0, 1) := by decide +kernel
theorem dX7_hitBy_1 : decode cX7_hitBy 1 = .ok (.istore 4, 2) := by decide +kernel
theorem dX7_hitBy_3 : decode cX7_hitBy 3 = .ok (.iconst 0, 1) := by decide +kernel
theorem dX7_hitBy_4 : decode cX7_hitBy 4 = .ok (.istore 5, 2) := by decide +kernel
theorem dX7_hitBy_6 : decode cX7_hitBy 6 = .ok (.iload 5, 2) := by decide +kernel
theorem dX7_hitBy_8 : decode cX7_hitBy 8 = .ok (.aload_n 0, 1) := by decide +kernel
theorem dX7_hitBy_9 : decode cX7_hitBy 9 = .ok (.getfield 7, 3) := by decide +kernel
theorem dX7_hitBy_12 : decode cX7_hitBy 12 = .ok (.bipush 70, 2) := by decide +kernel
theorem dX7_hitBy_14 : decode cX7_hitBy 14 = .ok (.iaload, 1) := by decide +kernel
theorem dX7_hitBy_15 : decode cX7_hitBy 15 = .ok (.if_icmp .ge 43, 3) := by decide +kernel
theorem dX7_hitBy_18 : decode cX7_hitBy 18 = .ok (.iload 4, 2) := by decide +kernel
theorem dX7_hitBy_20 : decode cX7_hitBy 20 = .ok (.aload_n 0, 1) := by decide +kernel
theorem dX7_hitBy_21 : decode cX7_hitBy 21 = .ok (.iload 5, 2) := by decide +kernel
theorem dX7_hitBy_23 : decode cX7_hitBy 23 = .ok (.invokevirtual 46, 3) := by decide +kernel
theorem dX7_hitBy_26 : decode cX7_hitBy 26 = .ok (.ifCond .eq 22, 3) := by decide +kernel
theorem dX7_hitBy_29 : decode cX7_hitBy 29 = .ok (.aload_n 0, 1) := by decide +kernel
theorem dX7_hitBy_30 : decode cX7_hitBy 30 = .ok (.iload_n 1, 1) := by decide +kernel
theorem dX7_hitBy_31 : decode cX7_hitBy 31 = .ok (.iload_n 2, 1) := by decide +kernel
theorem dX7_hitBy_32 : decode cX7_hitBy 32 = .ok (.iload_n 3, 1) := by decide +kernel
theorem dX7_hitBy_33 : decode cX7_hitBy 33 = .ok (.iload 5, 2) := by decide +kernel
theorem dX7_hitBy_35 : decode cX7_hitBy 35 = .ok (.invokevirtual 66, 3) := by decide +kernel
theorem dX7_hitBy_38 : decode cX7_hitBy 38 = .ok (.ifCond .eq 10, 3) := by decide +kernel
theorem dX7_hitBy_41 : decode cX7_hitBy 41 = .ok (.iconst 1, 1) := by decide +kernel
theorem dX7_hitBy_42 : decode cX7_hitBy 42 = .ok (.iload 5, 2) := by decide +kernel
theorem dX7_hitBy_44 : decode cX7_hitBy 44 = .ok (.ishl, 1) := by decide +kernel
theorem dX7_hitBy_45 : decode cX7_hitBy 45 = .ok (.goto 4, 3) := by decide +kernel
theorem dX7_hitBy_48 : decode cX7_hitBy 48 = .ok (.iconst 0, 1) := by decide +kernel
theorem dX7_hitBy_49 : decode cX7_hitBy 49 = .ok (.ior, 1) := by decide +kernel
theorem dX7_hitBy_50 : decode cX7_hitBy 50 = .ok (.istore 4, 2) := by decide +kernel
theorem dX7_hitBy_52 : decode cX7_hitBy 52 = .ok (.iinc 5 1, 3) := by decide +kernel
theorem dX7_hitBy_55 : decode cX7_hitBy 55 = .ok (.goto (-49), 3) := by decide +kernel
theorem dX7_hitBy_58 : decode cX7_hitBy 58 = .ok (.iload 4, 2) := by decide +kernel
theorem dX7_hitBy_60 : decode cX7_hitBy 60 = .ok (.ireturn, 1) := by decide +kernel
set_option maxRecDepth 20000 in
theorem ggX7_part_X7_without : GoodIn wsX7_part wsX7_without := goodIn_r _ [6] (by decide +kernel) (by decide +kernel)
set_option maxRecDepth 20000 in
theorem gX7_part_X7_without : GoodIn wsX7_part (va_wsS RX7 62 yX7_without wsX7_without) := goodIn_app (goodIn_of _ (by decide +kernel)) ggX7_part_X7_without
theorem dX7_part_0 : decode cX7_part 0 = .ok (.lload_n 0, 1) := by decide +kernel
theorem dX7_part_1 : decode cX7_part 1 = .ok (.invokestatic 62, 3) := by decide +kernel
theorem dX7_part_4 : decode cX7_part 4 = .ok (.lstore 5, 2) := by decide +kernel
theorem dX7_part_6 : decode cX7_part 6 = .ok (.lload_n 2, 1) := by decide +kernel
theorem dX7_part_7 : decode cX7_part 7 = .ok (.invokestatic 62, 3) := by decide +kernel
theorem dX7_part_10 : decode cX7_part 10 = .ok (.lstore 7, 2) := by decide +kernel
theorem dX7_part_12 : decode cX7_part 12 = .ok (.lload 7, 2) := by decide +kernel
theorem dX7_part_14 : decode cX7_part 14 = .ok (.lconst 0, 1) := by decide +kernel
theorem dX7_part_15 : decode cX7_part 15 = .ok (.lcmp, 1) := by decide +kernel
theorem dX7_part_16 : decode cX7_part 16 = .ok (.ifCond .le 21, 3) := by decide +kernel
theorem dX7_part_19 : decode cX7_part 19 = .ok (.lload 5, 2) := by decide +kernel
theorem dX7_part_21 : decode cX7_part 21 = .ok (.lload 7, 2) := by decide +kernel
theorem dX7_part_23 : decode cX7_part 23 = .ok (.lrem, 1) := by decide +kernel
theorem dX7_part_24 : decode cX7_part 24 = .ok (.lstore 9, 2) := by decide +kernel
theorem dX7_part_26 : decode cX7_part 26 = .ok (.lload 7, 2) := by decide +kernel
theorem dX7_part_28 : decode cX7_part 28 = .ok (.lstore 5, 2) := by decide +kernel
theorem dX7_part_30 : decode cX7_part 30 = .ok (.lload 9, 2) := by decide +kernel
theorem dX7_part_32 : decode cX7_part 32 = .ok (.lstore 7, 2) := by decide +kernel
theorem dX7_part_34 : decode cX7_part 34 = .ok (.goto (-22), 3) := by decide +kernel
theorem dX7_part_37 : decode cX7_part 37 = .ok (.lload_n 2, 1) := by decide +kernel
theorem dX7_part_38 : decode cX7_part 38 = .ok (.lconst 0, 1) := by decide +kernel
theorem dX7_part_39 : decode cX7_part 39 = .ok (.lcmp, 1) := by decide +kernel
theorem dX7_part_40 : decode cX7_part 40 = .ok (.ifCond .ge 9, 3) := by decide +kernel
theorem dX7_part_43 : decode cX7_part 43 = .ok (.ldc2_w 70, 3) := by decide +kernel
theorem dX7_part_46 : decode cX7_part 46 = .ok (.goto 4, 3) := by decide +kernel
theorem dX7_part_49 : decode cX7_part 49 = .ok (.lconst 1, 1) := by decide +kernel
theorem dX7_part_50 : decode cX7_part 50 = .ok (.lstore 9, 2) := by decide +kernel
theorem dX7_part_52 : decode cX7_part 52 = .ok (.iload 4, 2) := by decide +kernel
theorem dX7_part_54 : decode cX7_part 54 = .ok (.ifCond .ne 17, 3) := by decide +kernel
theorem dX7_part_57 : decode cX7_part 57 = .ok (.lload 9, 2) := by decide +kernel
theorem dX7_part_59 : decode cX7_part 59 = .ok (.lload_n 0, 1) := by decide +kernel
theorem dX7_part_60 : decode cX7_part 60 = .ok (.lmul, 1) := by decide +kernel
theorem dX7_part_61 : decode cX7_part 61 = .ok (.lload 5, 2) := by decide +kernel
theorem dX7_part_63 : decode cX7_part 63 = .ok (.ldiv, 1) := by decide +kernel
theorem dX7_part_64 : decode cX7_part 64 = .ok (.ldc2_w 72, 3) := by decide +kernel
theorem dX7_part_67 : decode cX7_part 67 = .ok (.ladd, 1) := by decide +kernel
theorem dX7_part_68 : decode cX7_part 68 = .ok (.goto 10, 3) := by decide +kernel
theorem dX7_part_71 : decode cX7_part 71 = .ok (.lload 9, 2) := by decide +kernel
theorem dX7_part_73 : decode cX7_part 73 = .ok (.lload_n 2, 1) := by decide +kernel
theorem dX7_part_74 : decode cX7_part 74 = .ok (.lmul, 1) := by decide +kernel
theorem dX7_part_75 : decode cX7_part 75 = .ok (.lload 5, 2) := by decide +kernel
theorem dX7_part_77 : decode cX7_part 77 = .ok (.ldiv, 1) := by decide +kernel
theorem dX7_part_78 : decode cX7_part 78 = .ok (.lreturn, 1) := by decide +kernel
set_option maxRecDepth 20000 in
theorem ggX7_finds_X7_hitBy : GoodIn wsX7_finds wsX7_hitBy := goodIn_r _ [8, 1, 9, 10, 11, 7, 12, 13, 14, 15, 16, 17, 18, 19, 20, 21, 22, 23, 24, 25, 26, 27, 28, 29, 30, 31, 35, 36, 37, 38, 39, 40, 41, 42, 43, 44, 45, 46, 47, 48, 49, 50, 51, 52, 53] (by decide +kernel) (by decide +kernel)
set_option maxRecDepth 20000 in
theorem gX7_finds_X7_hitBy : GoodIn wsX7_finds (wsV RX7 74 RX7 yX7_hitBy wsX7_hitBy) := goodIn_app (goodIn_of _ (by decide +kernel)) ggX7_finds_X7_hitBy
set_option maxRecDepth 20000 in
theorem ggX7_finds_X7_bits : GoodIn wsX7_finds wsX7_bits := goodIn_r _ [34] (by decide +kernel) (by decide +kernel)
set_option maxRecDepth 20000 in
theorem gX7_finds_X7_bits : GoodIn wsX7_finds (va_wsS RX7 78 yX7_bits wsX7_bits) := goodIn_app (goodIn_of _ (by decide +kernel)) ggX7_finds_X7_bits
theorem dX7_finds_0 : decode cX7_finds 0 = .ok (.iconst (-1), 1) := by decide +kernel
theorem dX7_finds_1 : decode cX7_finds 1 = .ok (.istore_n 2, 1) := by decide +kernel
theorem dX7_finds_2 : decode cX7_finds 2 = .ok (.iconst 0, 1) := by decide +kernel
theorem dX7_finds_3 : decode cX7_finds 3 = .ok (.istore_n 3, 1) := by decide +kernel
theorem dX7_finds_4 : decode cX7_finds 4 = .ok (.iload_n 3, 1) := by decide +kernel
theorem dX7_finds_5 : decode cX7_finds 5 = .ok (.aload_n 0, 1) := by decide +kernel
theorem dX7_finds_6 : decode cX7_finds 6 = .ok (.getfield 7, 3) := by decide +kernel
theorem dX7_finds_9 : decode cX7_finds 9 = .ok (.bipush 70, 2) := by decide +kernel
theorem dX7_finds_11 : decode cX7_finds 11 = .ok (.iaload, 1) := by decide +kernel
theorem dX7_finds_12 : decode cX7_finds 12 = .ok (.if_icmp .ge 142, 3) := by decide +kernel
theorem dX7_finds_15 : decode cX7_finds 15 = .ok (.iload_n 3, 1) := by decide +kernel
theorem dX7_finds_16 : decode cX7_finds 16 = .ok (.iconst 1, 1) := by decide +kernel
theorem dX7_finds_17 : decode cX7_finds 17 = .ok (.iadd, 1) := by decide +kernel
theorem dX7_finds_18 : decode cX7_finds 18 = .ok (.istore 4, 2) := by decide +kernel
theorem dX7_finds_20 : decode cX7_finds 20 = .ok (.iload 4, 2) := by decide +kernel
theorem dX7_finds_22 : decode cX7_finds 22 = .ok (.aload_n 0, 1) := by decide +kernel
theorem dX7_finds_23 : decode cX7_finds 23 = .ok (.getfield 7, 3) := by decide +kernel
theorem dX7_finds_26 : decode cX7_finds 26 = .ok (.bipush 70, 2) := by decide +kernel
theorem dX7_finds_28 : decode cX7_finds 28 = .ok (.iaload, 1) := by decide +kernel
theorem dX7_finds_29 : decode cX7_finds 29 = .ok (.if_icmp .ge 119, 3) := by decide +kernel
theorem dX7_finds_32 : decode cX7_finds 32 = .ok (.iload 4, 2) := by decide +kernel
theorem dX7_finds_34 : decode cX7_finds 34 = .ok (.iconst 1, 1) := by decide +kernel
theorem dX7_finds_35 : decode cX7_finds 35 = .ok (.iadd, 1) := by decide +kernel
theorem dX7_finds_36 : decode cX7_finds 36 = .ok (.istore 5, 2) := by decide +kernel
theorem dX7_finds_38 : decode cX7_finds 38 = .ok (.iload 5, 2) := by decide +kernel
theorem dX7_finds_40 : decode cX7_finds 40 = .ok (.aload_n 0, 1) := by decide +kernel
theorem dX7_finds_41 : decode cX7_finds 41 = .ok (.getfield 7, 3) := by decide +kernel
theorem dX7_finds_44 : decode cX7_finds 44 = .ok (.bipush 70, 2) := by decide +kernel
theorem dX7_finds_46 : decode cX7_finds 46 = .ok (.iaload, 1) := by decide +kernel
theorem dX7_finds_47 : decode cX7_finds 47 = .ok (.if_icmp .ge 95, 3) := by decide +kernel
theorem dX7_finds_50 : decode cX7_finds 50 = .ok (.iload_n 1, 1) := by decide +kernel
theorem dX7_finds_51 : decode cX7_finds 51 = .ok (.iload_n 3, 1) := by decide +kernel
theorem dX7_finds_52 : decode cX7_finds 52 = .ok (.ishr, 1) := by decide +kernel
theorem dX7_finds_53 : decode cX7_finds 53 = .ok (.iconst 1, 1) := by decide +kernel
theorem dX7_finds_54 : decode cX7_finds 54 = .ok (.iand, 1) := by decide +kernel
theorem dX7_finds_55 : decode cX7_finds 55 = .ok (.iconst 1, 1) := by decide +kernel
theorem dX7_finds_56 : decode cX7_finds 56 = .ok (.if_icmp .ne 80, 3) := by decide +kernel
theorem dX7_finds_59 : decode cX7_finds 59 = .ok (.iload_n 1, 1) := by decide +kernel
theorem dX7_finds_60 : decode cX7_finds 60 = .ok (.iload 4, 2) := by decide +kernel
theorem dX7_finds_62 : decode cX7_finds 62 = .ok (.ishr, 1) := by decide +kernel
theorem dX7_finds_63 : decode cX7_finds 63 = .ok (.iconst 1, 1) := by decide +kernel
theorem dX7_finds_64 : decode cX7_finds 64 = .ok (.iand, 1) := by decide +kernel
theorem dX7_finds_65 : decode cX7_finds 65 = .ok (.iconst 1, 1) := by decide +kernel
theorem dX7_finds_66 : decode cX7_finds 66 = .ok (.if_icmp .ne 70, 3) := by decide +kernel
theorem dX7_finds_69 : decode cX7_finds 69 = .ok (.iload_n 1, 1) := by decide +kernel
theorem dX7_finds_70 : decode cX7_finds 70 = .ok (.iload 5, 2) := by decide +kernel
theorem dX7_finds_72 : decode cX7_finds 72 = .ok (.ishr, 1) := by decide +kernel
theorem dX7_finds_73 : decode cX7_finds 73 = .ok (.iconst 1, 1) := by decide +kernel
theorem dX7_finds_74 : decode cX7_finds 74 = .ok (.iand, 1) := by decide +kernel
theorem dX7_finds_75 : decode cX7_finds 75 = .ok (.iconst 1, 1) := by decide +kernel
theorem dX7_finds_76 : decode cX7_finds 76 = .ok (.if_icmp .ne 60, 3) := by decide +kernel
theorem dX7_finds_79 : decode cX7_finds 79 = .ok (.aload_n 0, 1) := by decide +kernel
theorem dX7_finds_80 : decode cX7_finds 80 = .ok (.iload_n 3, 1) := by decide +kernel
theorem dX7_finds_81 : decode cX7_finds 81 = .ok (.iload 4, 2) := by decide +kernel
theorem dX7_finds_83 : decode cX7_finds 83 = .ok (.iload 5, 2) := by decide +kernel
theorem dX7_finds_85 : decode cX7_finds 85 = .ok (.invokevirtual 74, 3) := by decide +kernel
theorem dX7_finds_88 : decode cX7_finds 88 = .ok (.iload_n 1, 1) := by decide +kernel
theorem dX7_finds_89 : decode cX7_finds 89 = .ok (.iand, 1) := by decide +kernel
theorem dX7_finds_90 : decode cX7_finds 90 = .ok (.istore 6, 2) := by decide +kernel
theorem dX7_finds_92 : decode cX7_finds 92 = .ok (.iload 6, 2) := by decide +kernel
theorem dX7_finds_94 : decode cX7_finds 94 = .ok (.invokestatic 78, 3) := by decide +kernel
theorem dX7_finds_97 : decode cX7_finds 97 = .ok (.iload_n 2, 1) := by decide +kernel
theorem dX7_finds_98 : decode cX7_finds 98 = .ok (.if_icmp .le 38, 3) := by decide +kernel
theorem dX7_finds_101 : decode cX7_finds 101 = .ok (.iload 6, 2) := by decide +kernel
theorem dX7_finds_103 : decode cX7_finds 103 = .ok (.invokestatic 78, 3) := by decide +kernel
theorem dX7_finds_106 : decode cX7_finds 106 = .ok (.istore_n 2, 1) := by decide +kernel
theorem dX7_finds_107 : decode cX7_finds 107 = .ok (.aload_n 0, 1) := by decide +kernel
theorem dX7_finds_108 : decode cX7_finds 108 = .ok (.getfield 19, 3) := by decide +kernel
theorem dX7_finds_111 : decode cX7_finds 111 = .ok (.iconst 0, 1) := by decide +kernel
theorem dX7_finds_112 : decode cX7_finds 112 = .ok (.iload_n 3, 1) := by decide +kernel
theorem dX7_finds_113 : decode cX7_finds 113 = .ok (.iastore, 1) := by decide +kernel
theorem dX7_finds_114 : decode cX7_finds 114 = .ok (.aload_n 0, 1) := by decide +kernel
theorem dX7_finds_115 : decode cX7_finds 115 = .ok (.getfield 19, 3) := by decide +kernel
theorem dX7_finds_118 : decode cX7_finds 118 = .ok (.iconst 1, 1) := by decide +kernel
theorem dX7_finds_119 : decode cX7_finds 119 = .ok (.iload 4, 2) := by decide +kernel
theorem dX7_finds_121 : decode cX7_finds 121 = .ok (.iastore, 1) := by decide +kernel
theorem dX7_finds_122 : decode cX7_finds 122 = .ok (.aload_n 0, 1) := by decide +kernel
theorem dX7_finds_123 : decode cX7_finds 123 = .ok (.getfield 19, 3) := by decide +kernel
theorem dX7_finds_126 : decode cX7_finds 126 = .ok (.iconst 2, 1) := by decide +kernel
theorem dX7_finds_127 : decode cX7_finds 127 = .ok (.iload 5, 2) := by decide +kernel
theorem dX7_finds_129 : decode cX7_finds 129 = .ok (.iastore, 1) := by decide +kernel
theorem dX7_finds_130 : decode cX7_finds 130 = .ok (.aload_n 0, 1) := by decide +kernel
theorem dX7_finds_131 : decode cX7_finds 131 = .ok (.iload 6, 2) := by decide +kernel
theorem dX7_finds_133 : decode cX7_finds 133 = .ok (.putfield 82, 3) := by decide +kernel
theorem dX7_finds_136 : decode cX7_finds 136 = .ok (.iinc 5 1, 3) := by decide +kernel
theorem dX7_finds_139 : decode cX7_finds 139 = .ok (.goto (-101), 3) := by decide +kernel
theorem dX7_finds_142 : decode cX7_finds 142 = .ok (.iinc 4 1, 3) := by decide +kernel
theorem dX7_finds_145 : decode cX7_finds 145 = .ok (.goto (-125), 3) := by decide +kernel
theorem dX7_finds_148 : decode cX7_finds 148 = .ok (.iinc 3 1, 3) := by decide +kernel
theorem dX7_finds_151 : decode cX7_finds 151 = .ok (.goto (-147), 3) := by decide +kernel
theorem dX7_finds_154 : decode cX7_finds 154 = .ok (.iload_n 2, 1) := by decide +kernel
theorem dX7_finds_155 : decode cX7_finds 155 = .ok (.ifCond .lt 7, 3) := by decide +kernel
theorem dX7_finds_158 : decode cX7_finds 158 = .ok (.iconst 1, 1) := by decide +kernel
theorem dX7_finds_159 : decode cX7_finds 159 = .ok (.goto 4, 3) := by decide +kernel
theorem dX7_finds_162 : decode cX7_finds 162 = .ok (.iconst 0, 1) := by decide +kernel
theorem dX7_finds_163 : decode cX7_finds 163 = .ok (.ireturn, 1) := by decide +kernel
set_option maxRecDepth 20000 in
theorem ggX7_hasBest_X7_usable : GoodIn wsX7_hasBest wsX7_usable := goodIn_r _ [5, 6, 7, 8, 9, 4, 10, 11, 12, 13, 14, 43, 44, 45, 46, 47, 48, 49, 50, 51, 52, 53, 54, 55, 56, 57, 58, 59, 60, 61] (by decide +kernel) (by decide +kernel)
set_option maxRecDepth 20000 in
theorem gX7_hasBest_X7_usable : GoodIn wsX7_hasBest (wsV RX7 85 RX7 yX7_usable wsX7_usable) := goodIn_app (goodIn_of _ (by decide +kernel)) ggX7_hasBest_X7_usable
set_option maxRecDepth 20000 in
theorem ggX7_hasBest_X7_finds : GoodIn wsX7_hasBest wsX7_finds := goodIn_r _ [18, 6, 19, 20, 21, 22, 23, 4, 24, 7, 8, 9, 10, 11, 12, 13, 14, 25, 26, 27, 28, 29, 30, 31, 32, 33, 34, 35, 36, 37, 38, 39, 40, 41, 42, 43, 44, 45, 46, 47, 48, 49, 50, 51, 52, 53, 54, 55, 56, 57, 58, 59, 60, 61] (by decide +kernel) (by decide +kernel)
set_option maxRecDepth 20000 in
theorem gX7_hasBest_X7_finds : GoodIn wsX7_hasBest (wsV RX7 89 RX7 yX7_finds wsX7_finds) := goodIn_app (goodIn_of _ (by decide +kernel)) ggX7_hasBest_X7_finds
theorem dX7_hasBest_0 : decode cX7_hasBest 0 = .ok (.aload_n 0, 1) := by decide +kernel
theorem dX7_hasBest_1 : decode cX7_hasBest 1 = .ok (.aload_n 0, 1) := by decide +kernel
theorem dX7_hasBest_2 : decode cX7_hasBest 2 = .ok (.invokevirtual 85, 3) := by decide +kernel
theorem dX7_hasBest_5 : decode cX7_hasBest 5 = .ok (.invokevirtual 89, 3) := by decide +kernel
theorem dX7_hasBest_8 : decode cX7_hasBest 8 = .ok (.ireturn, 1) := by decide +kernel
set_option maxRecDepth 20000 in
theorem ggX7_missed_X7_hasBest : GoodIn wsX7_missed wsX7_hasBest := goodIn_r _ [6, 7, 8, 9, 5, 10, 11, 12, 13, 14, 15, 16, 17, 18, 19, 20, 21, 22, 23, 24, 1, 25, 26, 27, 28, 29, 30, 31, 32, 33, 34, 35, 36, 37, 38, 39, 40, 41, 42, 43, 44, 45, 46, 47, 48, 49, 50, 51, 52, 53, 54, 55, 56, 57, 58, 59, 60, 61, 62, 63, 64, 65] (by decide +kernel) (by decide +kernel)
set_option maxRecDepth 20000 in
theorem gX7_missed_X7_hasBest : GoodIn wsX7_missed (wsV RX7 92 RX7 yX7_hasBest wsX7_hasBest) := goodIn_app (goodIn_of _ (by decide +kernel)) ggX7_missed_X7_hasBest
set_option maxRecDepth 20000 in
theorem ggX7_missed_X7_usable : GoodIn wsX7_missed wsX7_usable := goodIn_r _ [10, 11, 12, 13, 14, 5, 15, 16, 17, 18, 19, 47, 48, 49, 50, 51, 52, 53, 54, 55, 56, 57, 58, 59, 60, 61, 62, 63, 64, 65] (by decide +kernel) (by decide +kernel)
set_option maxRecDepth 20000 in
theorem gX7_missed_X7_usable : GoodIn wsX7_missed (wsV RX7 85 RX7 yX7_usable wsX7_usable) := goodIn_app (goodIn_of _ (by decide +kernel)) ggX7_missed_X7_usable
theorem dX7_missed_0 : decode cX7_missed 0 = .ok (.aload_n 0, 1) := by decide +kernel
theorem dX7_missed_1 : decode cX7_missed 1 = .ok (.invokevirtual 92, 3) := by decide +kernel
theorem dX7_missed_4 : decode cX7_missed 4 = .ok (.ifCond .eq 17, 3) := by decide +kernel
theorem dX7_missed_7 : decode cX7_missed 7 = .ok (.aload_n 0, 1) := by decide +kernel
theorem dX7_missed_8 : decode cX7_missed 8 = .ok (.invokevirtual 85, 3) := by decide +kernel
theorem dX7_missed_11 : decode cX7_missed 11 = .ok (.aload_n 0, 1) := by decide +kernel
theorem dX7_missed_12 : decode cX7_missed 12 = .ok (.getfield 82, 3) := by decide +kernel
theorem dX7_missed_15 : decode cX7_missed 15 = .ok (.iconst (-1), 1) := by decide +kernel
theorem dX7_missed_16 : decode cX7_missed 16 = .ok (.ixor, 1) := by decide +kernel
theorem dX7_missed_17 : decode cX7_missed 17 = .ok (.iand, 1) := by decide +kernel
theorem dX7_missed_18 : decode cX7_missed 18 = .ok (.goto 4, 3) := by decide +kernel
theorem dX7_missed_21 : decode cX7_missed 21 = .ok (.iconst 0, 1) := by decide +kernel
theorem dX7_missed_22 : decode cX7_missed 22 = .ok (.ireturn, 1) := by decide +kernel
set_option maxRecDepth 20000 in
theorem ggX7_orders_X7_isUsable : GoodIn wsX7_orders wsX7_isUsable := goodIn_r _ [8, 9, 10, 11, 7, 12, 2, 13, 14, 15, 16, 17, 18, 19, 20, 21, 22, 23, 24, 25, 26, 27, 28, 29, 30, 31] (by decide +kernel) (by decide +kernel)
set_option maxRecDepth 20000 in
theorem gX7_orders_X7_isUsable : GoodIn wsX7_orders (wsV RX7 46 RX7 yX7_isUsable wsX7_isUsable) := goodIn_app (goodIn_of _ (by decide +kernel)) ggX7_orders_X7_isUsable
theorem dX7_orders_0 : decode cX7_orders 0 = .ok (.aload_n 0, 1) := by decide +kernel
theorem dX7_orders_1 : decode cX7_orders 1 = .ok (.iconst 0, 1) := by decide +kernel
theorem dX7_orders_2 : decode cX7_orders 2 = .ok (.putfield 96, 3) := by decide +kernel
theorem dX7_orders_5 : decode cX7_orders 5 = .ok (.iconst 0, 1) := by decide +kernel
theorem dX7_orders_6 : decode cX7_orders 6 = .ok (.istore_n 1, 1) := by decide +kernel
theorem dX7_orders_7 : decode cX7_orders 7 = .ok (.iload_n 1, 1) := by decide +kernel
theorem dX7_orders_8 : decode cX7_orders 8 = .ok (.aload_n 0, 1) := by decide +kernel
theorem dX7_orders_9 : decode cX7_orders 9 = .ok (.getfield 7, 3) := by decide +kernel
theorem dX7_orders_12 : decode cX7_orders 12 = .ok (.bipush 70, 2) := by decide +kernel
theorem dX7_orders_14 : decode cX7_orders 14 = .ok (.iaload, 1) := by decide +kernel
theorem dX7_orders_15 : decode cX7_orders 15 = .ok (.if_icmp .ge 37, 3) := by decide +kernel
theorem dX7_orders_18 : decode cX7_orders 18 = .ok (.aload_n 0, 1) := by decide +kernel
theorem dX7_orders_19 : decode cX7_orders 19 = .ok (.iload_n 1, 1) := by decide +kernel
theorem dX7_orders_20 : decode cX7_orders 20 = .ok (.invokevirtual 46, 3) := by decide +kernel
theorem dX7_orders_23 : decode cX7_orders 23 = .ok (.ifCond .eq 23, 3) := by decide +kernel
theorem dX7_orders_26 : decode cX7_orders 26 = .ok (.aload_n 0, 1) := by decide +kernel
theorem dX7_orders_27 : decode cX7_orders 27 = .ok (.getfield 28, 3) := by decide +kernel
theorem dX7_orders_30 : decode cX7_orders 30 = .ok (.aload_n 0, 1) := by decide +kernel
theorem dX7_orders_31 : decode cX7_orders 31 = .ok (.getfield 96, 3) := by decide +kernel
theorem dX7_orders_34 : decode cX7_orders 34 = .ok (.iload_n 1, 1) := by decide +kernel
theorem dX7_orders_35 : decode cX7_orders 35 = .ok (.iastore, 1) := by decide +kernel
theorem dX7_orders_36 : decode cX7_orders 36 = .ok (.aload_n 0, 1) := by decide +kernel
theorem dX7_orders_37 : decode cX7_orders 37 = .ok (.dup, 1) := by decide +kernel
theorem dX7_orders_38 : decode cX7_orders 38 = .ok (.getfield 96, 3) := by decide +kernel
theorem dX7_orders_41 : decode cX7_orders 41 = .ok (.iconst 1, 1) := by decide +kernel
theorem dX7_orders_42 : decode cX7_orders 42 = .ok (.iadd, 1) := by decide +kernel
theorem dX7_orders_43 : decode cX7_orders 43 = .ok (.putfield 96, 3) := by decide +kernel
theorem dX7_orders_46 : decode cX7_orders 46 = .ok (.iinc 1 1, 3) := by decide +kernel
theorem dX7_orders_49 : decode cX7_orders 49 = .ok (.goto (-42), 3) := by decide +kernel
theorem dX7_orders_52 : decode cX7_orders 52 = .ok (.return_, 1) := by decide +kernel
theorem dX7_setOf_0 : decode cX7_setOf 0 = .ok (.iconst 0, 1) := by decide +kernel
theorem dX7_setOf_1 : decode cX7_setOf 1 = .ok (.istore_n 3, 1) := by decide +kernel
theorem dX7_setOf_2 : decode cX7_setOf 2 = .ok (.iconst 0, 1) := by decide +kernel
theorem dX7_setOf_3 : decode cX7_setOf 3 = .ok (.istore 4, 2) := by decide +kernel
theorem dX7_setOf_5 : decode cX7_setOf 5 = .ok (.iload 4, 2) := by decide +kernel
theorem dX7_setOf_7 : decode cX7_setOf 7 = .ok (.iload_n 2, 1) := by decide +kernel
theorem dX7_setOf_8 : decode cX7_setOf 8 = .ok (.if_icmp .ge 23, 3) := by decide +kernel
theorem dX7_setOf_11 : decode cX7_setOf 11 = .ok (.iload_n 3, 1) := by decide +kernel
theorem dX7_setOf_12 : decode cX7_setOf 12 = .ok (.iconst 1, 1) := by decide +kernel
theorem dX7_setOf_13 : decode cX7_setOf 13 = .ok (.aload_n 0, 1) := by decide +kernel
theorem dX7_setOf_14 : decode cX7_setOf 14 = .ok (.getfield 28, 3) := by decide +kernel
theorem dX7_setOf_17 : decode cX7_setOf 17 = .ok (.iload_n 1, 1) := by decide +kernel
theorem dX7_setOf_18 : decode cX7_setOf 18 = .ok (.iload 4, 2) := by decide +kernel
theorem dX7_setOf_20 : decode cX7_setOf 20 = .ok (.iadd, 1) := by decide +kernel
theorem dX7_setOf_21 : decode cX7_setOf 21 = .ok (.iaload, 1) := by decide +kernel
theorem dX7_setOf_22 : decode cX7_setOf 22 = .ok (.ishl, 1) := by decide +kernel
theorem dX7_setOf_23 : decode cX7_setOf 23 = .ok (.ior, 1) := by decide +kernel
theorem dX7_setOf_24 : decode cX7_setOf 24 = .ok (.istore_n 3, 1) := by decide +kernel
theorem dX7_setOf_25 : decode cX7_setOf 25 = .ok (.iinc 4 1, 3) := by decide +kernel
theorem dX7_setOf_28 : decode cX7_setOf 28 = .ok (.goto (-23), 3) := by decide +kernel
theorem dX7_setOf_31 : decode cX7_setOf 31 = .ok (.iload_n 3, 1) := by decide +kernel
theorem dX7_setOf_32 : decode cX7_setOf 32 = .ok (.ireturn, 1) := by decide +kernel
set_option maxRecDepth 20000 in
theorem ggX7_fitsAsRow_X7_setOf : GoodIn wsX7_fitsAsRow wsX7_setOf := goodIn_r _ [6, 7, 44, 45, 46, 47, 48, 49, 50, 51, 52, 53, 54, 55, 56, 57, 58, 59, 60, 61, 62] (by decide +kernel) (by decide +kernel)
set_option maxRecDepth 20000 in
theorem gX7_fitsAsRow_X7_setOf : GoodIn wsX7_fitsAsRow (wsV RX7 99 RX7 yX7_setOf wsX7_setOf) := goodIn_app (goodIn_of _ (by decide +kernel)) ggX7_fitsAsRow_X7_setOf
set_option maxRecDepth 20000 in
theorem ggX7_fitsAsRow_X7_finds : GoodIn wsX7_fitsAsRow wsX7_finds := goodIn_r _ [11, 12, 13, 1, 14, 15, 16, 5, 17, 18, 19, 20, 21, 22, 23, 24, 25, 26, 27, 28, 29, 30, 31, 32, 33, 34, 35, 36, 37, 38, 39, 40, 41, 42, 43, 44, 45, 46, 47, 48, 49, 50, 51, 52, 53, 54, 55, 56, 57, 58, 59, 60, 61, 62] (by decide +kernel) (by decide +kernel)
set_option maxRecDepth 20000 in
theorem gX7_fitsAsRow_X7_finds : GoodIn wsX7_fitsAsRow (wsV RX7 89 RX7 yX7_finds wsX7_finds) := goodIn_app (goodIn_of _ (by decide +kernel)) ggX7_fitsAsRow_X7_finds
theorem dX7_fitsAsRow_0 : decode cX7_fitsAsRow 0 = .ok (.iload_n 2, 1) := by decide +kernel
theorem dX7_fitsAsRow_1 : decode cX7_fitsAsRow 1 = .ok (.iconst 3, 1) := by decide +kernel
theorem dX7_fitsAsRow_2 : decode cX7_fitsAsRow 2 = .ok (.if_icmp .ge 5, 3) := by decide +kernel
theorem dX7_fitsAsRow_5 : decode cX7_fitsAsRow 5 = .ok (.iconst 1, 1) := by decide +kernel
theorem dX7_fitsAsRow_6 : decode cX7_fitsAsRow 6 = .ok (.ireturn, 1) := by decide +kernel
theorem dX7_fitsAsRow_7 : decode cX7_fitsAsRow 7 = .ok (.aload_n 0, 1) := by decide +kernel
theorem dX7_fitsAsRow_8 : decode cX7_fitsAsRow 8 = .ok (.iload_n 1, 1) := by decide +kernel
theorem dX7_fitsAsRow_9 : decode cX7_fitsAsRow 9 = .ok (.iload_n 2, 1) := by decide +kernel
theorem dX7_fitsAsRow_10 : decode cX7_fitsAsRow 10 = .ok (.invokevirtual 99, 3) := by decide +kernel
theorem dX7_fitsAsRow_13 : decode cX7_fitsAsRow 13 = .ok (.istore_n 3, 1) := by decide +kernel
theorem dX7_fitsAsRow_14 : decode cX7_fitsAsRow 14 = .ok (.aload_n 0, 1) := by decide +kernel
theorem dX7_fitsAsRow_15 : decode cX7_fitsAsRow 15 = .ok (.iload_n 3, 1) := by decide +kernel
theorem dX7_fitsAsRow_16 : decode cX7_fitsAsRow 16 = .ok (.invokevirtual 89, 3) := by decide +kernel
theorem dX7_fitsAsRow_19 : decode cX7_fitsAsRow 19 = .ok (.ifCond .eq 15, 3) := by decide +kernel
theorem dX7_fitsAsRow_22 : decode cX7_fitsAsRow 22 = .ok (.aload_n 0, 1) := by decide +kernel
theorem dX7_fitsAsRow_23 : decode cX7_fitsAsRow 23 = .ok (.getfield 82, 3) := by decide +kernel
theorem dX7_fitsAsRow_26 : decode cX7_fitsAsRow 26 = .ok (.iload_n 3, 1) := by decide +kernel
theorem dX7_fitsAsRow_27 : decode cX7_fitsAsRow 27 = .ok (.if_icmp .ne 7, 3) := by decide +kernel
theorem dX7_fitsAsRow_30 : decode cX7_fitsAsRow 30 = .ok (.iconst 1, 1) := by decide +kernel
theorem dX7_fitsAsRow_31 : decode cX7_fitsAsRow 31 = .ok (.goto 4, 3) := by decide +kernel
theorem dX7_fitsAsRow_34 : decode cX7_fitsAsRow 34 = .ok (.iconst 0, 1) := by decide +kernel
theorem dX7_fitsAsRow_35 : decode cX7_fitsAsRow 35 = .ok (.ireturn, 1) := by decide +kernel
set_option maxRecDepth 20000 in
theorem ggX7_findsTrack_X7_orders : GoodIn wsX7_findsTrack wsX7_orders := goodIn_r _ [8, 2, 9, 10, 11, 12, 13, 7, 14, 15, 16, 17, 18, 55, 56, 57, 58, 59, 60, 61, 62, 63, 64, 65, 66, 67, 68, 69, 70, 71, 72, 73] (by decide +kernel) (by decide +kernel)
set_option maxRecDepth 20000 in
theorem gX7_findsTrack_X7_orders : GoodIn wsX7_findsTrack (wsV RX7 102 RX7 yX7_orders wsX7_orders) := goodIn_app (goodIn_of _ (by decide +kernel)) ggX7_findsTrack_X7_orders
set_option maxRecDepth 20000 in
theorem ggX7_findsTrack_X7_fitsAsRow : GoodIn wsX7_findsTrack wsX7_fitsAsRow := goodIn_r _ [22, 23, 24, 25, 26, 7, 27, 10, 28, 29, 30, 31, 9, 32, 33, 34, 35, 36, 11, 12, 13, 14, 15, 16, 17, 18, 37, 38, 39, 40, 41, 42, 43, 44, 45, 46, 47, 48, 49, 50, 51, 52, 53, 54, 55, 56, 57, 58, 59, 60, 61, 62, 63, 64, 65, 66, 67, 68, 69, 70, 71, 72, 73] (by decide +kernel) (by decide +kernel)
set_option maxRecDepth 20000 in
theorem gX7_findsTrack_X7_fitsAsRow : GoodIn wsX7_findsTrack (wsV RX7 105 RX7 yX7_fitsAsRow wsX7_fitsAsRow) := goodIn_app (goodIn_of _ (by decide +kernel)) ggX7_findsTrack_X7_fitsAsRow
theorem dX7_findsTrack_0 : decode cX7_findsTrack 0 = .ok (.aload_n 0, 1) := by decide +kernel
theorem dX7_findsTrack_1 : decode cX7_findsTrack 1 = .ok (.invokevirtual 102, 3) := by decide +kernel
theorem dX7_findsTrack_4 : decode cX7_findsTrack 4 = .ok (.aload_n 0, 1) := by decide +kernel
theorem dX7_findsTrack_5 : decode cX7_findsTrack 5 = .ok (.getfield 22, 3) := by decide +kernel
theorem dX7_findsTrack_8 : decode cX7_findsTrack 8 = .ok (.aload_n 0, 1) := by decide +kernel
theorem dX7_findsTrack_9 : decode cX7_findsTrack 9 = .ok (.getfield 96, 3) := by decide +kernel
theorem dX7_findsTrack_12 : decode cX7_findsTrack 12 = .ok (.iconst 0, 1) := by decide +kernel
theorem dX7_findsTrack_13 : decode cX7_findsTrack 13 = .ok (.iastore, 1) := by decide +kernel
theorem dX7_findsTrack_14 : decode cX7_findsTrack 14 = .ok (.aload_n 0, 1) := by decide +kernel
theorem dX7_findsTrack_15 : decode cX7_findsTrack 15 = .ok (.getfield 96, 3) := by decide +kernel
theorem dX7_findsTrack_18 : decode cX7_findsTrack 18 = .ok (.iconst 1, 1) := by decide +kernel
theorem dX7_findsTrack_19 : decode cX7_findsTrack 19 = .ok (.isub, 1) := by decide +kernel
theorem dX7_findsTrack_20 : decode cX7_findsTrack 20 = .ok (.istore_n 1, 1) := by decide +kernel
theorem dX7_findsTrack_21 : decode cX7_findsTrack 21 = .ok (.iload_n 1, 1) := by decide +kernel
theorem dX7_findsTrack_22 : decode cX7_findsTrack 22 = .ok (.ifCond .lt 85, 3) := by decide +kernel
theorem dX7_findsTrack_25 : decode cX7_findsTrack 25 = .ok (.aload_n 0, 1) := by decide +kernel
theorem dX7_findsTrack_26 : decode cX7_findsTrack 26 = .ok (.getfield 22, 3) := by decide +kernel
theorem dX7_findsTrack_29 : decode cX7_findsTrack 29 = .ok (.iload_n 1, 1) := by decide +kernel
theorem dX7_findsTrack_30 : decode cX7_findsTrack 30 = .ok (.bipush 11, 2) := by decide +kernel
theorem dX7_findsTrack_32 : decode cX7_findsTrack 32 = .ok (.iastore, 1) := by decide +kernel
theorem dX7_findsTrack_33 : decode cX7_findsTrack 33 = .ok (.aload_n 0, 1) := by decide +kernel
theorem dX7_findsTrack_34 : decode cX7_findsTrack 34 = .ok (.getfield 96, 3) := by decide +kernel
theorem dX7_findsTrack_37 : decode cX7_findsTrack 37 = .ok (.iload_n 1, 1) := by decide +kernel
theorem dX7_findsTrack_38 : decode cX7_findsTrack 38 = .ok (.isub, 1) := by decide +kernel
theorem dX7_findsTrack_39 : decode cX7_findsTrack 39 = .ok (.istore_n 2, 1) := by decide +kernel
theorem dX7_findsTrack_40 : decode cX7_findsTrack 40 = .ok (.iload_n 2, 1) := by decide +kernel
theorem dX7_findsTrack_41 : decode cX7_findsTrack 41 = .ok (.ifCond .le 60, 3) := by decide +kernel
theorem dX7_findsTrack_44 : decode cX7_findsTrack 44 = .ok (.iconst 1, 1) := by decide +kernel
theorem dX7_findsTrack_45 : decode cX7_findsTrack 45 = .ok (.aload_n 0, 1) := by decide +kernel
theorem dX7_findsTrack_46 : decode cX7_findsTrack 46 = .ok (.getfield 22, 3) := by decide +kernel
theorem dX7_findsTrack_49 : decode cX7_findsTrack 49 = .ok (.iload_n 1, 1) := by decide +kernel
theorem dX7_findsTrack_50 : decode cX7_findsTrack 50 = .ok (.iload_n 2, 1) := by decide +kernel
theorem dX7_findsTrack_51 : decode cX7_findsTrack 51 = .ok (.iadd, 1) := by decide +kernel
theorem dX7_findsTrack_52 : decode cX7_findsTrack 52 = .ok (.iaload, 1) := by decide +kernel
theorem dX7_findsTrack_53 : decode cX7_findsTrack 53 = .ok (.iadd, 1) := by decide +kernel
theorem dX7_findsTrack_54 : decode cX7_findsTrack 54 = .ok (.aload_n 0, 1) := by decide +kernel
theorem dX7_findsTrack_55 : decode cX7_findsTrack 55 = .ok (.getfield 22, 3) := by decide +kernel
theorem dX7_findsTrack_58 : decode cX7_findsTrack 58 = .ok (.iload_n 1, 1) := by decide +kernel
theorem dX7_findsTrack_59 : decode cX7_findsTrack 59 = .ok (.iaload, 1) := by decide +kernel
theorem dX7_findsTrack_60 : decode cX7_findsTrack 60 = .ok (.if_icmp .ge 35, 3) := by decide +kernel
theorem dX7_findsTrack_63 : decode cX7_findsTrack 63 = .ok (.aload_n 0, 1) := by decide +kernel
theorem dX7_findsTrack_64 : decode cX7_findsTrack 64 = .ok (.iload_n 1, 1) := by decide +kernel
theorem dX7_findsTrack_65 : decode cX7_findsTrack 65 = .ok (.iload_n 2, 1) := by decide +kernel
theorem dX7_findsTrack_66 : decode cX7_findsTrack 66 = .ok (.invokevirtual 105, 3) := by decide +kernel
theorem dX7_findsTrack_69 : decode cX7_findsTrack 69 = .ok (.ifCond .eq 26, 3) := by decide +kernel
theorem dX7_findsTrack_72 : decode cX7_findsTrack 72 = .ok (.aload_n 0, 1) := by decide +kernel
theorem dX7_findsTrack_73 : decode cX7_findsTrack 73 = .ok (.getfield 22, 3) := by decide +kernel
theorem dX7_findsTrack_76 : decode cX7_findsTrack 76 = .ok (.iload_n 1, 1) := by decide +kernel
theorem dX7_findsTrack_77 : decode cX7_findsTrack 77 = .ok (.iconst 1, 1) := by decide +kernel
theorem dX7_findsTrack_78 : decode cX7_findsTrack 78 = .ok (.aload_n 0, 1) := by decide +kernel
theorem dX7_findsTrack_79 : decode cX7_findsTrack 79 = .ok (.getfield 22, 3) := by decide +kernel
theorem dX7_findsTrack_82 : decode cX7_findsTrack 82 = .ok (.iload_n 1, 1) := by decide +kernel
theorem dX7_findsTrack_83 : decode cX7_findsTrack 83 = .ok (.iload_n 2, 1) := by decide +kernel
theorem dX7_findsTrack_84 : decode cX7_findsTrack 84 = .ok (.iadd, 1) := by decide +kernel
theorem dX7_findsTrack_85 : decode cX7_findsTrack 85 = .ok (.iaload, 1) := by decide +kernel
theorem dX7_findsTrack_86 : decode cX7_findsTrack 86 = .ok (.iadd, 1) := by decide +kernel
theorem dX7_findsTrack_87 : decode cX7_findsTrack 87 = .ok (.iastore, 1) := by decide +kernel
theorem dX7_findsTrack_88 : decode cX7_findsTrack 88 = .ok (.aload_n 0, 1) := by decide +kernel
theorem dX7_findsTrack_89 : decode cX7_findsTrack 89 = .ok (.getfield 25, 3) := by decide +kernel
theorem dX7_findsTrack_92 : decode cX7_findsTrack 92 = .ok (.iload_n 1, 1) := by decide +kernel
theorem dX7_findsTrack_93 : decode cX7_findsTrack 93 = .ok (.iload_n 2, 1) := by decide +kernel
theorem dX7_findsTrack_94 : decode cX7_findsTrack 94 = .ok (.iastore, 1) := by decide +kernel
theorem dX7_findsTrack_95 : decode cX7_findsTrack 95 = .ok (.iinc 2 (-1), 3) := by decide +kernel
theorem dX7_findsTrack_98 : decode cX7_findsTrack 98 = .ok (.goto (-58), 3) := by decide +kernel
theorem dX7_findsTrack_101 : decode cX7_findsTrack 101 = .ok (.iinc 1 (-1), 3) := by decide +kernel
theorem dX7_findsTrack_104 : decode cX7_findsTrack 104 = .ok (.goto (-83), 3) := by decide +kernel
theorem dX7_findsTrack_107 : decode cX7_findsTrack 107 = .ok (.return_, 1) := by decide +kernel
theorem dX7_angle_0 : decode cX7_angle 0 = .ok (.iload_n 1, 1) := by decide +kernel
theorem dX7_angle_1 : decode cX7_angle 1 = .ok (.iload_n 0, 1) := by decide +kernel
theorem dX7_angle_2 : decode cX7_angle 2 = .ok (.iload_n 2, 1) := by decide +kernel
theorem dX7_angle_3 : decode cX7_angle 3 = .ok (.imul, 1) := by decide +kernel
theorem dX7_angle_4 : decode cX7_angle 4 = .ok (.iadd, 1) := by decide +kernel
theorem dX7_angle_5 : decode cX7_angle 5 = .ok (.sipush 360, 3) := by decide +kernel
theorem dX7_angle_8 : decode cX7_angle 8 = .ok (.irem, 1) := by decide +kernel
theorem dX7_angle_9 : decode cX7_angle 9 = .ok (.istore_n 3, 1) := by decide +kernel
theorem dX7_angle_10 : decode cX7_angle 10 = .ok (.iload_n 3, 1) := by decide +kernel
theorem dX7_angle_11 : decode cX7_angle 11 = .ok (.ifCond .ge 11, 3) := by decide +kernel
theorem dX7_angle_14 : decode cX7_angle 14 = .ok (.iload_n 3, 1) := by decide +kernel
theorem dX7_angle_15 : decode cX7_angle 15 = .ok (.sipush 360, 3) := by decide +kernel
theorem dX7_angle_18 : decode cX7_angle 18 = .ok (.iadd, 1) := by decide +kernel
theorem dX7_angle_19 : decode cX7_angle 19 = .ok (.goto 4, 3) := by decide +kernel
theorem dX7_angle_22 : decode cX7_angle 22 = .ok (.iload_n 3, 1) := by decide +kernel
theorem dX7_angle_23 : decode cX7_angle 23 = .ok (.ireturn, 1) := by decide +kernel
set_option maxRecDepth 20000 in
theorem ggX7_isFitted_X7_of : GoodIn wsX7_isFitted wsX7_of := goodIn_r _ [5, 6, 10, 11, 12, 13, 14, 15, 16, 17, 18, 19, 20, 21, 22, 23, 24, 25, 26, 27, 28] (by decide +kernel) (by decide +kernel)
set_option maxRecDepth 20000 in
theorem gX7_isFitted_X7_of : GoodIn wsX7_isFitted (wsV RX7 42 RX7 yX7_of wsX7_of) := goodIn_app (goodIn_of _ (by decide +kernel)) ggX7_isFitted_X7_of
set_option maxRecDepth 20000 in
theorem ggX7_isFitted_X7_angle : GoodIn wsX7_isFitted wsX7_angle := goodIn_r _ [9] (by decide +kernel) (by decide +kernel)
set_option maxRecDepth 20000 in
theorem gX7_isFitted_X7_angle : GoodIn wsX7_isFitted (va_wsS RX7 109 yX7_angle wsX7_angle) := goodIn_app (goodIn_of _ (by decide +kernel)) ggX7_isFitted_X7_angle
theorem dX7_isFitted_0 : decode cX7_isFitted 0 = .ok (.iload_n 1, 1) := by decide +kernel
theorem dX7_isFitted_1 : decode cX7_isFitted 1 = .ok (.iload_n 2, 1) := by decide +kernel
theorem dX7_isFitted_2 : decode cX7_isFitted 2 = .ok (.aload_n 0, 1) := by decide +kernel
theorem dX7_isFitted_3 : decode cX7_isFitted 3 = .ok (.iload_n 3, 1) := by decide +kernel
theorem dX7_isFitted_4 : decode cX7_isFitted 4 = .ok (.iconst 0, 1) := by decide +kernel
theorem dX7_isFitted_5 : decode cX7_isFitted 5 = .ok (.invokevirtual 42, 3) := by decide +kernel
theorem dX7_isFitted_8 : decode cX7_isFitted 8 = .ok (.invokestatic 109, 3) := by decide +kernel
theorem dX7_isFitted_11 : decode cX7_isFitted 11 = .ok (.aload_n 0, 1) := by decide +kernel
theorem dX7_isFitted_12 : decode cX7_isFitted 12 = .ok (.iload_n 3, 1) := by decide +kernel
theorem dX7_isFitted_13 : decode cX7_isFitted 13 = .ok (.iconst 4, 1) := by decide +kernel
theorem dX7_isFitted_14 : decode cX7_isFitted 14 = .ok (.invokevirtual 42, 3) := by decide +kernel
theorem dX7_isFitted_17 : decode cX7_isFitted 17 = .ok (.isub, 1) := by decide +kernel
theorem dX7_isFitted_18 : decode cX7_isFitted 18 = .ok (.istore 4, 2) := by decide +kernel
theorem dX7_isFitted_20 : decode cX7_isFitted 20 = .ok (.iload 4, 2) := by decide +kernel
theorem dX7_isFitted_22 : decode cX7_isFitted 22 = .ok (.ifCond .ge 9, 3) := by decide +kernel
theorem dX7_isFitted_25 : decode cX7_isFitted 25 = .ok (.iload 4, 2) := by decide +kernel
theorem dX7_isFitted_27 : decode cX7_isFitted 27 = .ok (.ineg, 1) := by decide +kernel
theorem dX7_isFitted_28 : decode cX7_isFitted 28 = .ok (.goto 5, 3) := by decide +kernel
theorem dX7_isFitted_31 : decode cX7_isFitted 31 = .ok (.iload 4, 2) := by decide +kernel
theorem dX7_isFitted_33 : decode cX7_isFitted 33 = .ok (.istore 4, 2) := by decide +kernel
theorem dX7_isFitted_35 : decode cX7_isFitted 35 = .ok (.iload 4, 2) := by decide +kernel
theorem dX7_isFitted_37 : decode cX7_isFitted 37 = .ok (.sipush 180, 3) := by decide +kernel
theorem dX7_isFitted_40 : decode cX7_isFitted 40 = .ok (.if_icmp .le 12, 3) := by decide +kernel
theorem dX7_isFitted_43 : decode cX7_isFitted 43 = .ok (.sipush 360, 3) := by decide +kernel
theorem dX7_isFitted_46 : decode cX7_isFitted 46 = .ok (.iload 4, 2) := by decide +kernel
theorem dX7_isFitted_48 : decode cX7_isFitted 48 = .ok (.isub, 1) := by decide +kernel
theorem dX7_isFitted_49 : decode cX7_isFitted 49 = .ok (.goto 5, 3) := by decide +kernel
theorem dX7_isFitted_52 : decode cX7_isFitted 52 = .ok (.iload 4, 2) := by decide +kernel
theorem dX7_isFitted_54 : decode cX7_isFitted 54 = .ok (.aload_n 0, 1) := by decide +kernel
theorem dX7_isFitted_55 : decode cX7_isFitted 55 = .ok (.iload_n 3, 1) := by decide +kernel
theorem dX7_isFitted_56 : decode cX7_isFitted 56 = .ok (.iconst 5, 1) := by decide +kernel
theorem dX7_isFitted_57 : decode cX7_isFitted 57 = .ok (.invokevirtual 42, 3) := by decide +kernel
theorem dX7_isFitted_60 : decode cX7_isFitted 60 = .ok (.if_icmp .gt 7, 3) := by decide +kernel
theorem dX7_isFitted_63 : decode cX7_isFitted 63 = .ok (.iconst 1, 1) := by decide +kernel
theorem dX7_isFitted_64 : decode cX7_isFitted 64 = .ok (.goto 4, 3) := by decide +kernel
theorem dX7_isFitted_67 : decode cX7_isFitted 67 = .ok (.iconst 0, 1) := by decide +kernel
theorem dX7_isFitted_68 : decode cX7_isFitted 68 = .ok (.ireturn, 1) := by decide +kernel
set_option maxRecDepth 20000 in
theorem ggX7_fitted_X7_hasAngle : GoodIn wsX7_fitted wsX7_hasAngle := goodIn_r _ [6, 7, 8, 9, 5, 10, 11, 12, 13, 14, 1, 22, 23, 24, 25, 26, 27, 28, 29, 30, 31, 32, 33, 34, 35, 36, 37, 38, 39, 40] (by decide +kernel) (by decide +kernel)
set_option maxRecDepth 20000 in
theorem gX7_fitted_X7_hasAngle : GoodIn wsX7_fitted (wsV RX7 112 RX7 yX7_hasAngle wsX7_hasAngle) := goodIn_app (goodIn_of _ (by decide +kernel)) ggX7_fitted_X7_hasAngle
set_option maxRecDepth 20000 in
theorem ggX7_fitted_X7_isFitted : GoodIn wsX7_fitted wsX7_isFitted := goodIn_r _ [18, 11, 12, 13, 5, 14, 1, 19, 20, 21, 22, 23, 24, 25, 26, 27, 28, 29, 30, 31, 32, 33, 34, 35, 36, 37, 38, 39, 40] (by decide +kernel) (by decide +kernel)
set_option maxRecDepth 20000 in
theorem gX7_fitted_X7_isFitted : GoodIn wsX7_fitted (wsV RX7 115 RX7 yX7_isFitted wsX7_isFitted) := goodIn_app (goodIn_of _ (by decide +kernel)) ggX7_fitted_X7_isFitted
theorem dX7_fitted_0 : decode cX7_fitted 0 = .ok (.iconst 0, 1) := by decide +kernel
theorem dX7_fitted_1 : decode cX7_fitted 1 = .ok (.istore_n 3, 1) := by decide +kernel
theorem dX7_fitted_2 : decode cX7_fitted 2 = .ok (.iconst 0, 1) := by decide +kernel
theorem dX7_fitted_3 : decode cX7_fitted 3 = .ok (.istore 4, 2) := by decide +kernel
theorem dX7_fitted_5 : decode cX7_fitted 5 = .ok (.iload 4, 2) := by decide +kernel
theorem dX7_fitted_7 : decode cX7_fitted 7 = .ok (.aload_n 0, 1) := by decide +kernel
theorem dX7_fitted_8 : decode cX7_fitted 8 = .ok (.getfield 7, 3) := by decide +kernel
theorem dX7_fitted_11 : decode cX7_fitted 11 = .ok (.bipush 70, 2) := by decide +kernel
theorem dX7_fitted_13 : decode cX7_fitted 13 = .ok (.iaload, 1) := by decide +kernel
theorem dX7_fitted_14 : decode cX7_fitted 14 = .ok (.if_icmp .ge 40, 3) := by decide +kernel
theorem dX7_fitted_17 : decode cX7_fitted 17 = .ok (.iload_n 3, 1) := by decide +kernel
theorem dX7_fitted_18 : decode cX7_fitted 18 = .ok (.aload_n 0, 1) := by decide +kernel
theorem dX7_fitted_19 : decode cX7_fitted 19 = .ok (.iload 4, 2) := by decide +kernel
theorem dX7_fitted_21 : decode cX7_fitted 21 = .ok (.invokevirtual 112, 3) := by decide +kernel
theorem dX7_fitted_24 : decode cX7_fitted 24 = .ok (.ifCond .eq 21, 3) := by decide +kernel
theorem dX7_fitted_27 : decode cX7_fitted 27 = .ok (.aload_n 0, 1) := by decide +kernel
theorem dX7_fitted_28 : decode cX7_fitted 28 = .ok (.iload_n 1, 1) := by decide +kernel
theorem dX7_fitted_29 : decode cX7_fitted 29 = .ok (.iload_n 2, 1) := by decide +kernel
theorem dX7_fitted_30 : decode cX7_fitted 30 = .ok (.iload 4, 2) := by decide +kernel
theorem dX7_fitted_32 : decode cX7_fitted 32 = .ok (.invokevirtual 115, 3) := by decide +kernel
theorem dX7_fitted_35 : decode cX7_fitted 35 = .ok (.ifCond .eq 10, 3) := by decide +kernel
theorem dX7_fitted_38 : decode cX7_fitted 38 = .ok (.iconst 1, 1) := by decide +kernel
theorem dX7_fitted_39 : decode cX7_fitted 39 = .ok (.iload 4, 2) := by decide +kernel
theorem dX7_fitted_41 : decode cX7_fitted 41 = .ok (.ishl, 1) := by decide +kernel
theorem dX7_fitted_42 : decode cX7_fitted 42 = .ok (.goto 4, 3) := by decide +kernel
theorem dX7_fitted_45 : decode cX7_fitted 45 = .ok (.iconst 0, 1) := by decide +kernel
theorem dX7_fitted_46 : decode cX7_fitted 46 = .ok (.ior, 1) := by decide +kernel
theorem dX7_fitted_47 : decode cX7_fitted 47 = .ok (.istore_n 3, 1) := by decide +kernel
theorem dX7_fitted_48 : decode cX7_fitted 48 = .ok (.iinc 4 1, 3) := by decide +kernel
theorem dX7_fitted_51 : decode cX7_fitted 51 = .ok (.goto (-46), 3) := by decide +kernel
theorem dX7_fitted_54 : decode cX7_fitted 54 = .ok (.iload_n 3, 1) := by decide +kernel
theorem dX7_fitted_55 : decode cX7_fitted 55 = .ok (.ireturn, 1) := by decide +kernel
set_option maxRecDepth 20000 in
theorem ggX7_findsSpin_X7_hasAngle : GoodIn wsX7_findsSpin wsX7_hasAngle := goodIn_r _ [9, 10, 11, 12, 8, 13, 14, 15, 16, 17, 1, 32, 33, 34, 35, 36, 37, 38, 39, 40, 41, 42, 43, 44, 45, 46, 47, 48, 49, 50] (by decide +kernel) (by decide +kernel)
set_option maxRecDepth 20000 in
theorem gX7_findsSpin_X7_hasAngle : GoodIn wsX7_findsSpin (wsV RX7 112 RX7 yX7_hasAngle wsX7_hasAngle) := goodIn_app (goodIn_of _ (by decide +kernel)) ggX7_findsSpin_X7_hasAngle
set_option maxRecDepth 20000 in
theorem ggX7_findsSpin_X7_fitted : GoodIn wsX7_findsSpin wsX7_fitted := goodIn_r _ [21, 1, 5, 6, 7, 8, 9, 10, 11, 12, 13, 14, 15, 16, 17, 22, 23, 24, 25, 26, 27, 28, 32, 33, 34, 35, 36, 37, 38, 39, 40, 41, 42, 43, 44, 45, 46, 47, 48, 49, 50] (by decide +kernel) (by decide +kernel)
set_option maxRecDepth 20000 in
theorem gX7_findsSpin_X7_fitted : GoodIn wsX7_findsSpin (wsV RX7 118 RX7 yX7_fitted wsX7_fitted) := goodIn_app (goodIn_of _ (by decide +kernel)) ggX7_findsSpin_X7_fitted
set_option maxRecDepth 20000 in
theorem ggX7_findsSpin_X7_bits : GoodIn wsX7_findsSpin wsX7_bits := goodIn_r _ [31] (by decide +kernel) (by decide +kernel)
set_option maxRecDepth 20000 in
theorem gX7_findsSpin_X7_bits : GoodIn wsX7_findsSpin (va_wsS RX7 78 yX7_bits wsX7_bits) := goodIn_app (goodIn_of _ (by decide +kernel)) ggX7_findsSpin_X7_bits
theorem dX7_findsSpin_0 : decode cX7_findsSpin 0 = .ok (.iconst 0, 1) := by decide +kernel
theorem dX7_findsSpin_1 : decode cX7_findsSpin 1 = .ok (.istore_n 1, 1) := by decide +kernel
theorem dX7_findsSpin_2 : decode cX7_findsSpin 2 = .ok (.iconst 0, 1) := by decide +kernel
theorem dX7_findsSpin_3 : decode cX7_findsSpin 3 = .ok (.istore_n 2, 1) := by decide +kernel
theorem dX7_findsSpin_4 : decode cX7_findsSpin 4 = .ok (.iload_n 2, 1) := by decide +kernel
theorem dX7_findsSpin_5 : decode cX7_findsSpin 5 = .ok (.aload_n 0, 1) := by decide +kernel
theorem dX7_findsSpin_6 : decode cX7_findsSpin 6 = .ok (.getfield 7, 3) := by decide +kernel
theorem dX7_findsSpin_9 : decode cX7_findsSpin 9 = .ok (.bipush 70, 2) := by decide +kernel
theorem dX7_findsSpin_11 : decode cX7_findsSpin 11 = .ok (.iaload, 1) := by decide +kernel
theorem dX7_findsSpin_12 : decode cX7_findsSpin 12 = .ok (.if_icmp .ge 17, 3) := by decide +kernel
theorem dX7_findsSpin_15 : decode cX7_findsSpin 15 = .ok (.iload_n 1, 1) := by decide +kernel
theorem dX7_findsSpin_16 : decode cX7_findsSpin 16 = .ok (.aload_n 0, 1) := by decide +kernel
theorem dX7_findsSpin_17 : decode cX7_findsSpin 17 = .ok (.iload_n 2, 1) := by decide +kernel
theorem dX7_findsSpin_18 : decode cX7_findsSpin 18 = .ok (.invokevirtual 112, 3) := by decide +kernel
theorem dX7_findsSpin_21 : decode cX7_findsSpin 21 = .ok (.ior, 1) := by decide +kernel
theorem dX7_findsSpin_22 : decode cX7_findsSpin 22 = .ok (.istore_n 1, 1) := by decide +kernel
theorem dX7_findsSpin_23 : decode cX7_findsSpin 23 = .ok (.iinc 2 1, 3) := by decide +kernel
theorem dX7_findsSpin_26 : decode cX7_findsSpin 26 = .ok (.goto (-22), 3) := by decide +kernel
theorem dX7_findsSpin_29 : decode cX7_findsSpin 29 = .ok (.iconst (-1), 1) := by decide +kernel
theorem dX7_findsSpin_30 : decode cX7_findsSpin 30 = .ok (.istore_n 2, 1) := by decide +kernel
theorem dX7_findsSpin_31 : decode cX7_findsSpin 31 = .ok (.iconst 0, 1) := by decide +kernel
theorem dX7_findsSpin_32 : decode cX7_findsSpin 32 = .ok (.istore_n 3, 1) := by decide +kernel
theorem dX7_findsSpin_33 : decode cX7_findsSpin 33 = .ok (.iload_n 3, 1) := by decide +kernel
theorem dX7_findsSpin_34 : decode cX7_findsSpin 34 = .ok (.sipush 360, 3) := by decide +kernel
theorem dX7_findsSpin_37 : decode cX7_findsSpin 37 = .ok (.if_icmp .ge 94, 3) := by decide +kernel
theorem dX7_findsSpin_40 : decode cX7_findsSpin 40 = .ok (.iload_n 1, 1) := by decide +kernel
theorem dX7_findsSpin_41 : decode cX7_findsSpin 41 = .ok (.ifCond .eq 90, 3) := by decide +kernel
theorem dX7_findsSpin_44 : decode cX7_findsSpin 44 = .ok (.iload_n 3, 1) := by decide +kernel
theorem dX7_findsSpin_45 : decode cX7_findsSpin 45 = .ok (.iconst 2, 1) := by decide +kernel
theorem dX7_findsSpin_46 : decode cX7_findsSpin 46 = .ok (.irem, 1) := by decide +kernel
theorem dX7_findsSpin_47 : decode cX7_findsSpin 47 = .ok (.iconst 1, 1) := by decide +kernel
theorem dX7_findsSpin_48 : decode cX7_findsSpin 48 = .ok (.if_icmp .ne 11, 3) := by decide +kernel
theorem dX7_findsSpin_51 : decode cX7_findsSpin 51 = .ok (.iload_n 3, 1) := by decide +kernel
theorem dX7_findsSpin_52 : decode cX7_findsSpin 52 = .ok (.iconst 1, 1) := by decide +kernel
theorem dX7_findsSpin_53 : decode cX7_findsSpin 53 = .ok (.iadd, 1) := by decide +kernel
theorem dX7_findsSpin_54 : decode cX7_findsSpin 54 = .ok (.iconst 2, 1) := by decide +kernel
theorem dX7_findsSpin_55 : decode cX7_findsSpin 55 = .ok (.idiv, 1) := by decide +kernel
theorem dX7_findsSpin_56 : decode cX7_findsSpin 56 = .ok (.goto 7, 3) := by decide +kernel
theorem dX7_findsSpin_59 : decode cX7_findsSpin 59 = .ok (.iload_n 3, 1) := by decide +kernel
theorem dX7_findsSpin_60 : decode cX7_findsSpin 60 = .ok (.ineg, 1) := by decide +kernel
theorem dX7_findsSpin_61 : decode cX7_findsSpin 61 = .ok (.iconst 2, 1) := by decide +kernel
theorem dX7_findsSpin_62 : decode cX7_findsSpin 62 = .ok (.idiv, 1) := by decide +kernel
theorem dX7_findsSpin_63 : decode cX7_findsSpin 63 = .ok (.istore 4, 2) := by decide +kernel
theorem dX7_findsSpin_65 : decode cX7_findsSpin 65 = .ok (.iconst 0, 1) := by decide +kernel
theorem dX7_findsSpin_66 : decode cX7_findsSpin 66 = .ok (.istore 5, 2) := by decide +kernel
theorem dX7_findsSpin_68 : decode cX7_findsSpin 68 = .ok (.iload 5, 2) := by decide +kernel
theorem dX7_findsSpin_70 : decode cX7_findsSpin 70 = .ok (.sipush 360, 3) := by decide +kernel
theorem dX7_findsSpin_73 : decode cX7_findsSpin 73 = .ok (.if_icmp .ge 52, 3) := by decide +kernel
theorem dX7_findsSpin_76 : decode cX7_findsSpin 76 = .ok (.aload_n 0, 1) := by decide +kernel
theorem dX7_findsSpin_77 : decode cX7_findsSpin 77 = .ok (.iload 4, 2) := by decide +kernel
theorem dX7_findsSpin_79 : decode cX7_findsSpin 79 = .ok (.iload 5, 2) := by decide +kernel
theorem dX7_findsSpin_81 : decode cX7_findsSpin 81 = .ok (.invokevirtual 118, 3) := by decide +kernel
theorem dX7_findsSpin_84 : decode cX7_findsSpin 84 = .ok (.istore 6, 2) := by decide +kernel
theorem dX7_findsSpin_86 : decode cX7_findsSpin 86 = .ok (.iload 6, 2) := by decide +kernel
theorem dX7_findsSpin_88 : decode cX7_findsSpin 88 = .ok (.invokestatic 78, 3) := by decide +kernel
theorem dX7_findsSpin_91 : decode cX7_findsSpin 91 = .ok (.iload_n 2, 1) := by decide +kernel
theorem dX7_findsSpin_92 : decode cX7_findsSpin 92 = .ok (.if_icmp .le 27, 3) := by decide +kernel
theorem dX7_findsSpin_95 : decode cX7_findsSpin 95 = .ok (.iload 6, 2) := by decide +kernel
theorem dX7_findsSpin_97 : decode cX7_findsSpin 97 = .ok (.invokestatic 78, 3) := by decide +kernel
theorem dX7_findsSpin_100 : decode cX7_findsSpin 100 = .ok (.istore_n 2, 1) := by decide +kernel
theorem dX7_findsSpin_101 : decode cX7_findsSpin 101 = .ok (.aload_n 0, 1) := by decide +kernel
theorem dX7_findsSpin_102 : decode cX7_findsSpin 102 = .ok (.iload 4, 2) := by decide +kernel
theorem dX7_findsSpin_104 : decode cX7_findsSpin 104 = .ok (.putfield 121, 3) := by decide +kernel
theorem dX7_findsSpin_107 : decode cX7_findsSpin 107 = .ok (.aload_n 0, 1) := by decide +kernel
theorem dX7_findsSpin_108 : decode cX7_findsSpin 108 = .ok (.iload 5, 2) := by decide +kernel
theorem dX7_findsSpin_110 : decode cX7_findsSpin 110 = .ok (.putfield 124, 3) := by decide +kernel
theorem dX7_findsSpin_113 : decode cX7_findsSpin 113 = .ok (.aload_n 0, 1) := by decide +kernel
theorem dX7_findsSpin_114 : decode cX7_findsSpin 114 = .ok (.iload 6, 2) := by decide +kernel
theorem dX7_findsSpin_116 : decode cX7_findsSpin 116 = .ok (.putfield 127, 3) := by decide +kernel
theorem dX7_findsSpin_119 : decode cX7_findsSpin 119 = .ok (.iinc 5 1, 3) := by decide +kernel
theorem dX7_findsSpin_122 : decode cX7_findsSpin 122 = .ok (.goto (-54), 3) := by decide +kernel
theorem dX7_findsSpin_125 : decode cX7_findsSpin 125 = .ok (.iinc 3 1, 3) := by decide +kernel
theorem dX7_findsSpin_128 : decode cX7_findsSpin 128 = .ok (.goto (-95), 3) := by decide +kernel
theorem dX7_findsSpin_131 : decode cX7_findsSpin 131 = .ok (.iload_n 1, 1) := by decide +kernel
theorem dX7_findsSpin_132 : decode cX7_findsSpin 132 = .ok (.ireturn, 1) := by decide +kernel
set_option maxRecDepth 20000 in
theorem ggX7_isPhoto_X7_in : GoodIn wsX7_isPhoto wsX7_in := goodIn_r _ [4] (by decide +kernel) (by decide +kernel)
set_option maxRecDepth 20000 in
theorem gX7_isPhoto_X7_in : GoodIn wsX7_isPhoto (va_wsS RX7 38 yX7_in wsX7_in) := goodIn_app (goodIn_of _ (by decide +kernel)) ggX7_isPhoto_X7_in
