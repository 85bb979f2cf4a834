theorem dX6_layInOrder_0 : decode cX6_layInOrder 0 = .ok (.iload_n 1, 1) := by decide +kernel
theorem dX6_layInOrder_1 : decode cX6_layInOrder 1 = .ok (.iload_n 2, 1) := by decide +kernel
theorem dX6_layInOrder_2 : decode cX6_layInOrder 2 = .ok (.iload_n 3, 1) := by decide +kernel
theorem dX6_layInOrder_3 : decode cX6_layInOrder 3 = .ok (.invokestatic 241, 3) := by decide +kernel
theorem dX6_layInOrder_6 : decode cX6_layInOrder 6 = .ok (.invokestatic 241, 3) := by decide +kernel
theorem dX6_layInOrder_9 : decode cX6_layInOrder 9 = .ok (.istore 4, 2) := by decide +kernel
theorem dX6_layInOrder_11 : decode cX6_layInOrder 11 = .ok (.iload_n 1, 1) := by decide +kernel
theorem dX6_layInOrder_12 : decode cX6_layInOrder 12 = .ok (.iload_n 2, 1) := by decide +kernel
theorem dX6_layInOrder_13 : decode cX6_layInOrder 13 = .ok (.iload_n 3, 1) := by decide +kernel
theorem dX6_layInOrder_14 : decode cX6_layInOrder 14 = .ok (.invokestatic 246, 3) := by decide +kernel
theorem dX6_layInOrder_17 : decode cX6_layInOrder 17 = .ok (.invokestatic 246, 3) := by decide +kernel
theorem dX6_layInOrder_20 : decode cX6_layInOrder 20 = .ok (.istore 5, 2) := by decide +kernel
theorem dX6_layInOrder_22 : decode cX6_layInOrder 22 = .ok (.aload_n 0, 1) := by decide +kernel
theorem dX6_layInOrder_23 : decode cX6_layInOrder 23 = .ok (.getfield 42, 3) := by decide +kernel
theorem dX6_layInOrder_26 : decode cX6_layInOrder 26 = .ok (.iload 4, 2) := by decide +kernel
theorem dX6_layInOrder_28 : decode cX6_layInOrder 28 = .ok (.iload_n 1, 1) := by decide +kernel
theorem dX6_layInOrder_29 : decode cX6_layInOrder 29 = .ok (.iload_n 2, 1) := by decide +kernel
theorem dX6_layInOrder_30 : decode cX6_layInOrder 30 = .ok (.iadd, 1) := by decide +kernel
theorem dX6_layInOrder_31 : decode cX6_layInOrder 31 = .ok (.iload_n 3, 1) := by decide +kernel
theorem dX6_layInOrder_32 : decode cX6_layInOrder 32 = .ok (.iadd, 1) := by decide +kernel
theorem dX6_layInOrder_33 : decode cX6_layInOrder 33 = .ok (.iload 4, 2) := by decide +kernel
theorem dX6_layInOrder_35 : decode cX6_layInOrder 35 = .ok (.isub, 1) := by decide +kernel
theorem dX6_layInOrder_36 : decode cX6_layInOrder 36 = .ok (.iload 5, 2) := by decide +kernel
theorem dX6_layInOrder_38 : decode cX6_layInOrder 38 = .ok (.isub, 1) := by decide +kernel
theorem dX6_layInOrder_39 : decode cX6_layInOrder 39 = .ok (.iload 5, 2) := by decide +kernel
theorem dX6_layInOrder_41 : decode cX6_layInOrder 41 = .ok (.invokevirtual 249, 3) := by decide +kernel
theorem dX6_layInOrder_44 : decode cX6_layInOrder 44 = .ok (.return_, 1) := by decide +kernel
set_option maxRecDepth 20000 in
theorem ggX6_partOf_X6_commonDivisor : GoodIn wsX6_partOf wsX6_commonDivisor := goodIn_r _ [12] (by decide +kernel) (by decide +kernel)
set_option maxRecDepth 20000 in
theorem gX6_partOf_X6_commonDivisor : GoodIn wsX6_partOf (va_wsS RX6 256 yX6_commonDivisor wsX6_commonDivisor) := goodIn_app (goodIn_of _ (by decide +kernel)) ggX6_partOf_X6_commonDivisor
theorem dX6_partOf_0 : decode cX6_partOf 0 = .ok (.lconst 1, 1) := by decide +kernel
theorem dX6_partOf_1 : decode cX6_partOf 1 = .ok (.lload_n 0, 1) := by decide +kernel
theorem dX6_partOf_2 : decode cX6_partOf 2 = .ok (.invokestatic 252, 3) := by decide +kernel
theorem dX6_partOf_5 : decode cX6_partOf 5 = .ok (.lload_n 2, 1) := by decide +kernel
theorem dX6_partOf_6 : decode cX6_partOf 6 = .ok (.invokestatic 256, 3) := by decide +kernel
theorem dX6_partOf_9 : decode cX6_partOf 9 = .ok (.invokestatic 260, 3) := by decide +kernel
theorem dX6_partOf_12 : decode cX6_partOf 12 = .ok (.lstore 5, 2) := by decide +kernel
theorem dX6_partOf_14 : decode cX6_partOf 14 = .ok (.iload 4, 2) := by decide +kernel
theorem dX6_partOf_16 : decode cX6_partOf 16 = .ok (.ifCond .ne 14, 3) := by decide +kernel
theorem dX6_partOf_19 : decode cX6_partOf 19 = .ok (.lload_n 0, 1) := by decide +kernel
theorem dX6_partOf_20 : decode cX6_partOf 20 = .ok (.lload 5, 2) := by decide +kernel
theorem dX6_partOf_22 : decode cX6_partOf 22 = .ok (.ldiv, 1) := by decide +kernel
theorem dX6_partOf_23 : decode cX6_partOf 23 = .ok (.ldc2_w 262, 3) := by decide +kernel
theorem dX6_partOf_26 : decode cX6_partOf 26 = .ok (.ladd, 1) := by decide +kernel
theorem dX6_partOf_27 : decode cX6_partOf 27 = .ok (.goto 7, 3) := by decide +kernel
theorem dX6_partOf_30 : decode cX6_partOf 30 = .ok (.lload_n 2, 1) := by decide +kernel
theorem dX6_partOf_31 : decode cX6_partOf 31 = .ok (.lload 5, 2) := by decide +kernel
theorem dX6_partOf_33 : decode cX6_partOf 33 = .ok (.ldiv, 1) := by decide +kernel
theorem dX6_partOf_34 : decode cX6_partOf 34 = .ok (.lreturn, 1) := by decide +kernel
theorem dX6_commonDivisor_0 : decode cX6_commonDivisor 0 = .ok (.lload_n 0, 1) := by decide +kernel
theorem dX6_commonDivisor_1 : decode cX6_commonDivisor 1 = .ok (.lstore 4, 2) := by decide +kernel
theorem dX6_commonDivisor_3 : decode cX6_commonDivisor 3 = .ok (.lload_n 2, 1) := by decide +kernel
theorem dX6_commonDivisor_4 : decode cX6_commonDivisor 4 = .ok (.lstore 6, 2) := by decide +kernel
theorem dX6_commonDivisor_6 : decode cX6_commonDivisor 6 = .ok (.iconst 0, 1) := by decide +kernel
theorem dX6_commonDivisor_7 : decode cX6_commonDivisor 7 = .ok (.istore 8, 2) := by decide +kernel
theorem dX6_commonDivisor_9 : decode cX6_commonDivisor 9 = .ok (.lload 6, 2) := by decide +kernel
theorem dX6_commonDivisor_11 : decode cX6_commonDivisor 11 = .ok (.lconst 0, 1) := by decide +kernel
theorem dX6_commonDivisor_12 : decode cX6_commonDivisor 12 = .ok (.lcmp, 1) := by decide +kernel
theorem dX6_commonDivisor_13 : decode cX6_commonDivisor 13 = .ok (.ifCond .eq 32, 3) := by decide +kernel
theorem dX6_commonDivisor_16 : decode cX6_commonDivisor 16 = .ok (.iload 8, 2) := by decide +kernel
theorem dX6_commonDivisor_18 : decode cX6_commonDivisor 18 = .ok (.sipush 1000, 3) := by decide +kernel
theorem dX6_commonDivisor_21 : decode cX6_commonDivisor 21 = .ok (.if_icmp .ge 24, 3) := by decide +kernel
theorem dX6_commonDivisor_24 : decode cX6_commonDivisor 24 = .ok (.lload 4, 2) := by decide +kernel
theorem dX6_commonDivisor_26 : decode cX6_commonDivisor 26 = .ok (.lload 6, 2) := by decide +kernel
theorem dX6_commonDivisor_28 : decode cX6_commonDivisor 28 = .ok (.lrem, 1) := by decide +kernel
theorem dX6_commonDivisor_29 : decode cX6_commonDivisor 29 = .ok (.lstore 9, 2) := by decide +kernel
theorem dX6_commonDivisor_31 : decode cX6_commonDivisor 31 = .ok (.lload 6, 2) := by decide +kernel
theorem dX6_commonDivisor_33 : decode cX6_commonDivisor 33 = .ok (.lstore 4, 2) := by decide +kernel
theorem dX6_commonDivisor_35 : decode cX6_commonDivisor 35 = .ok (.lload 9, 2) := by decide +kernel
theorem dX6_commonDivisor_37 : decode cX6_commonDivisor 37 = .ok (.lstore 6, 2) := by decide +kernel
theorem dX6_commonDivisor_39 : decode cX6_commonDivisor 39 = .ok (.iinc 8 1, 3) := by decide +kernel
theorem dX6_commonDivisor_42 : decode cX6_commonDivisor 42 = .ok (.goto (-33), 3) := by decide +kernel
theorem dX6_commonDivisor_45 : decode cX6_commonDivisor 45 = .ok (.lload 4, 2) := by decide +kernel
theorem dX6_commonDivisor_47 : decode cX6_commonDivisor 47 = .ok (.lreturn, 1) := by decide +kernel
theorem dL_cell_0 : decode cL_cell 0 = .ok (.iload_n 1, 1) := by decide +kernel
theorem dL_cell_1 : decode cL_cell 1 = .ok (.aload_n 0, 1) := by decide +kernel
theorem dL_cell_2 : decode cL_cell 2 = .ok (.arraylength, 1) := by decide +kernel
theorem dL_cell_3 : decode cL_cell 3 = .ok (.if_icmp .ge 9, 3) := by decide +kernel
theorem dL_cell_6 : decode cL_cell 6 = .ok (.aload_n 0, 1) := by decide +kernel
theorem dL_cell_7 : decode cL_cell 7 = .ok (.iload_n 1, 1) := by decide +kernel
theorem dL_cell_8 : decode cL_cell 8 = .ok (.iaload, 1) := by decide +kernel
theorem dL_cell_9 : decode cL_cell 9 = .ok (.goto 11, 3) := by decide +kernel
theorem dL_cell_12 : decode cL_cell 12 = .ok (.ldc 7, 2) := by decide +kernel
theorem dL_cell_14 : decode cL_cell 14 = .ok (.iload_n 1, 1) := by decide +kernel
theorem dL_cell_15 : decode cL_cell 15 = .ok (.imul, 1) := by decide +kernel
theorem dL_cell_16 : decode cL_cell 16 = .ok (.sipush 1579, 3) := by decide +kernel
theorem dL_cell_19 : decode cL_cell 19 = .ok (.iadd, 1) := by decide +kernel
theorem dL_cell_20 : decode cL_cell 20 = .ok (.ireturn, 1) := by decide +kernel
theorem dL_low_0 : decode cL_low 0 = .ok (.iload_n 0, 1) := by decide +kernel
theorem dL_low_1 : decode cL_low 1 = .ok (.ldc 8, 2) := by decide +kernel
theorem dL_low_3 : decode cL_low 3 = .ok (.iand, 1) := by decide +kernel
theorem dL_low_4 : decode cL_low 4 = .ok (.iload_n 1, 1) := by decide +kernel
theorem dL_low_5 : decode cL_low 5 = .ok (.irem, 1) := by decide +kernel
theorem dL_low_6 : decode cL_low 6 = .ok (.ireturn, 1) := by decide +kernel
theorem dL_bits_0 : decode cL_bits 0 = .ok (.iconst 0, 1) := by decide +kernel
theorem dL_bits_1 : decode cL_bits 1 = .ok (.istore_n 1, 1) := by decide +kernel
theorem dL_bits_2 : decode cL_bits 2 = .ok (.iconst 0, 1) := by decide +kernel
theorem dL_bits_3 : decode cL_bits 3 = .ok (.istore_n 2, 1) := by decide +kernel
theorem dL_bits_4 : decode cL_bits 4 = .ok (.iload_n 2, 1) := by decide +kernel
theorem dL_bits_5 : decode cL_bits 5 = .ok (.bipush 12, 2) := by decide +kernel
theorem dL_bits_7 : decode cL_bits 7 = .ok (.if_icmp .ge 17, 3) := by decide +kernel
theorem dL_bits_10 : decode cL_bits 10 = .ok (.iload_n 1, 1) := by decide +kernel
theorem dL_bits_11 : decode cL_bits 11 = .ok (.iload_n 0, 1) := by decide +kernel
theorem dL_bits_12 : decode cL_bits 12 = .ok (.iload_n 2, 1) := by decide +kernel
theorem dL_bits_13 : decode cL_bits 13 = .ok (.ishr, 1) := by decide +kernel
theorem dL_bits_14 : decode cL_bits 14 = .ok (.iconst 1, 1) := by decide +kernel
theorem dL_bits_15 : decode cL_bits 15 = .ok (.iand, 1) := by decide +kernel
theorem dL_bits_16 : decode cL_bits 16 = .ok (.iadd, 1) := by decide +kernel
theorem dL_bits_17 : decode cL_bits 17 = .ok (.istore_n 1, 1) := by decide +kernel
theorem dL_bits_18 : decode cL_bits 18 = .ok (.iinc 2 1, 3) := by decide +kernel
theorem dL_bits_21 : decode cL_bits 21 = .ok (.goto (-17), 3) := by decide +kernel
theorem dL_bits_24 : decode cL_bits 24 = .ok (.iload_n 1, 1) := by decide +kernel
theorem dL_bits_25 : decode cL_bits 25 = .ok (.ireturn, 1) := by decide +kernel
set_option maxRecDepth 20000 in
theorem ggL_digest_X6_count : GoodIn wsL_digest wsX6_count := goodIn_r _ [7, 8, 9, 10, 11, 12, 13, 14, 15, 16, 17, 18, 19, 20, 21, 22, 23, 24, 25, 26, 27, 28, 29, 30, 31, 32, 33, 34, 35, 36, 37, 38, 39, 40, 41, 42, 43, 44, 45, 46, 47, 48, 49, 50, 51, 52, 53, 54, 55, 56, 57, 58, 59, 60, 61, 62, 63, 64, 65, 66, 67, 68, 69, 70, 71, 72, 73, 74, 75, 76, 77, 78, 79, 80, 81, 82, 83, 84, 85, 86, 87, 88, 89, 6, 90, 91, 92, 93, 94, 95, 96, 97, 98, 99, 100, 101, 102, 103, 104, 105, 106, 167, 168, 169, 170, 171, 172, 173, 174, 175, 176, 177, 178, 179, 180, 181, 182, 183, 184, 185, 186, 187, 188, 189, 190, 191] (by decide +kernel) (by decide +kernel)
set_option maxRecDepth 20000 in
theorem gL_digest_X6_count : GoodIn wsL_digest (wsV RL 11 RX6 yX6_count wsX6_count) := goodIn_app (goodIn_of _ (by decide +kernel)) ggL_digest_X6_count
set_option maxRecDepth 20000 in
theorem ggL_digest_X6_photo : GoodIn wsL_digest wsX6_photo := goodIn_r _ [110, 8, 111, 112, 113, 114, 115, 116, 18, 117, 20, 118, 119, 6, 120, 121, 35, 36, 37, 25, 122, 31, 32, 33, 21, 22, 23, 24, 34, 123, 124, 125, 126, 127, 128, 129, 130, 131, 132, 27, 28, 29, 30, 133, 134, 135, 136, 137, 138, 139, 140, 141, 142, 143, 144, 145, 146, 147, 148, 149, 150, 151, 152, 153, 83, 154, 155, 156, 157, 158, 159, 160, 161, 162, 163, 164, 165, 96, 97, 98, 99, 100, 101, 166, 89, 90, 167, 168, 169, 170, 171, 172, 173, 174, 175, 176, 177, 192, 193, 194, 195] (by decide +kernel) (by decide +kernel)
set_option maxRecDepth 20000 in
theorem gL_digest_X6_photo : GoodIn wsL_digest (wsV RL 19 RX6 yX6_photo wsX6_photo) := goodIn_app (goodIn_of _ (by decide +kernel)) ggL_digest_X6_photo
theorem dL_digest_0 : decode cL_digest 0 = .ok (.ldc2_w 9, 3) := by decide +kernel
theorem dL_digest_3 : decode cL_digest 3 = .ok (.aload_n 0, 1) := by decide +kernel
theorem dL_digest_4 : decode cL_digest 4 = .ok (.iconst 1, 1) := by decide +kernel
theorem dL_digest_5 : decode cL_digest 5 = .ok (.invokevirtual 11, 3) := by decide +kernel
theorem dL_digest_8 : decode cL_digest 8 = .ok (.i2l, 1) := by decide +kernel
theorem dL_digest_9 : decode cL_digest 9 = .ok (.ladd, 1) := by decide +kernel
theorem dL_digest_10 : decode cL_digest 10 = .ok (.lstore_n 1, 1) := by decide +kernel
theorem dL_digest_11 : decode cL_digest 11 = .ok (.iconst 0, 1) := by decide +kernel
theorem dL_digest_12 : decode cL_digest 12 = .ok (.istore_n 3, 1) := by decide +kernel
theorem dL_digest_13 : decode cL_digest 13 = .ok (.iload_n 3, 1) := by decide +kernel
theorem dL_digest_14 : decode cL_digest 14 = .ok (.aload_n 0, 1) := by decide +kernel
theorem dL_digest_15 : decode cL_digest 15 = .ok (.iconst 0, 1) := by decide +kernel
theorem dL_digest_16 : decode cL_digest 16 = .ok (.invokevirtual 11, 3) := by decide +kernel
theorem dL_digest_19 : decode cL_digest 19 = .ok (.if_icmp .ge 40, 3) := by decide +kernel
theorem dL_digest_22 : decode cL_digest 22 = .ok (.iconst 0, 1) := by decide +kernel
theorem dL_digest_23 : decode cL_digest 23 = .ok (.istore 4, 2) := by decide +kernel
theorem dL_digest_25 : decode cL_digest 25 = .ok (.iload 4, 2) := by decide +kernel
theorem dL_digest_27 : decode cL_digest 27 = .ok (.bipush 7, 2) := by decide +kernel
theorem dL_digest_29 : decode cL_digest 29 = .ok (.if_icmp .ge 24, 3) := by decide +kernel
theorem dL_digest_32 : decode cL_digest 32 = .ok (.ldc2_w 17, 3) := by decide +kernel
theorem dL_digest_35 : decode cL_digest 35 = .ok (.lload_n 1, 1) := by decide +kernel
theorem dL_digest_36 : decode cL_digest 36 = .ok (.lmul, 1) := by decide +kernel
theorem dL_digest_37 : decode cL_digest 37 = .ok (.aload_n 0, 1) := by decide +kernel
theorem dL_digest_38 : decode cL_digest 38 = .ok (.iload_n 3, 1) := by decide +kernel
theorem dL_digest_39 : decode cL_digest 39 = .ok (.iload 4, 2) := by decide +kernel
theorem dL_digest_41 : decode cL_digest 41 = .ok (.invokevirtual 19, 3) := by decide +kernel
theorem dL_digest_44 : decode cL_digest 44 = .ok (.i2l, 1) := by decide +kernel
theorem dL_digest_45 : decode cL_digest 45 = .ok (.ladd, 1) := by decide +kernel
theorem dL_digest_46 : decode cL_digest 46 = .ok (.lstore_n 1, 1) := by decide +kernel
theorem dL_digest_47 : decode cL_digest 47 = .ok (.iinc 4 1, 3) := by decide +kernel
theorem dL_digest_50 : decode cL_digest 50 = .ok (.goto (-25), 3) := by decide +kernel
theorem dL_digest_53 : decode cL_digest 53 = .ok (.iinc 3 1, 3) := by decide +kernel
theorem dL_digest_56 : decode cL_digest 56 = .ok (.goto (-43), 3) := by decide +kernel
theorem dL_digest_59 : decode cL_digest 59 = .ok (.lload_n 1, 1) := by decide +kernel
theorem dL_digest_60 : decode cL_digest 60 = .ok (.lreturn, 1) := by decide +kernel
theorem dL_upper_0 : decode cL_upper 0 = .ok (.lload_n 0, 1) := by decide +kernel
theorem dL_upper_1 : decode cL_upper 1 = .ok (.ldc2_w 23, 3) := by decide +kernel
theorem dL_upper_4 : decode cL_upper 4 = .ok (.lsub, 1) := by decide +kernel
theorem dL_upper_5 : decode cL_upper 5 = .ok (.lreturn, 1) := by decide +kernel
set_option maxRecDepth 20000 in
theorem ggL_photos_X6_count : GoodIn wsL_photos wsX6_count := goodIn_r _ [5, 6, 7, 8, 9, 10, 11, 12, 13, 14, 15, 16, 17, 18, 19, 20, 21, 22, 23, 24, 25, 26, 27, 28, 29, 30, 31, 32, 33, 34, 35, 36, 37, 38, 39, 40, 41, 42, 43, 44, 45, 46, 47, 48, 49, 50, 51, 52, 53, 54, 55, 56, 57, 58, 59, 60, 61, 62, 63, 64, 65, 66, 67, 68, 69, 70, 71, 72, 73, 74, 75, 76, 77, 78, 79, 80, 81, 82, 83, 84, 85, 86, 87, 4, 88, 89, 90, 91, 92, 93, 94, 95, 96, 97, 98, 99, 100, 101, 102, 103, 104, 199, 200, 201, 202, 203, 204, 205, 206, 207, 208, 209, 210, 211, 212, 213, 214, 215, 216, 217, 218, 219, 220, 221, 222, 223] (by decide +kernel) (by decide +kernel)
set_option maxRecDepth 20000 in
theorem gL_photos_X6_count : GoodIn wsL_photos (wsV RL 11 RX6 yX6_count wsX6_count) := goodIn_app (goodIn_of _ (by decide +kernel)) ggL_photos_X6_count
set_option maxRecDepth 20000 in
theorem ggL_photos_X6_photo : GoodIn wsL_photos wsX6_photo := goodIn_r _ [108, 6, 109, 110, 111, 112, 113, 114, 16, 115, 18, 116, 117, 4, 118, 119, 33, 34, 35, 23, 120, 29, 30, 31, 19, 20, 21, 22, 32, 121, 122, 123, 124, 125, 126, 127, 128, 129, 130, 25, 26, 27, 28, 131, 132, 133, 134, 135, 136, 137, 138, 139, 140, 141, 142, 143, 144, 145, 146, 147, 148, 149, 150, 151, 81, 152, 153, 154, 155, 156, 157, 158, 159, 160, 161, 162, 163, 94, 95, 96, 97, 98, 99, 164, 87, 88, 199, 200, 201, 202, 203, 204, 205, 206, 207, 208, 209, 224, 225, 226, 227] (by decide +kernel) (by decide +kernel)
set_option maxRecDepth 20000 in
theorem gL_photos_X6_photo : GoodIn wsL_photos (wsV RL 19 RX6 yX6_photo wsX6_photo) := goodIn_app (goodIn_of _ (by decide +kernel)) ggL_photos_X6_photo
set_option maxRecDepth 20000 in
theorem ggL_photos_X6_fitsFrom : GoodIn wsL_photos wsX6_fitsFrom := goodIn_r _ [168, 6, 7, 8, 112, 113, 114, 16, 115, 18, 169, 20, 21, 22, 23, 170, 51, 52, 39, 53, 42, 54, 14, 15, 17, 19, 171, 56, 57, 58, 59, 60, 61, 62, 63, 64, 65, 66, 67, 68, 69, 70, 71, 72, 73, 74, 75, 76, 77, 78, 79, 80, 81, 82, 83, 84, 85, 86, 87, 4, 88, 89, 90, 91, 92, 93, 94, 95, 96, 97, 98, 99, 100, 101, 102, 103, 104, 172, 199, 200, 201, 202, 203, 204, 205, 206, 207, 208, 209, 216, 217, 218, 219, 220, 221, 222, 223] (by decide +kernel) (by decide +kernel)
set_option maxRecDepth 20000 in
theorem gL_photos_X6_fitsFrom : GoodIn wsL_photos (wsV RL 25 RX6 yX6_fitsFrom wsX6_fitsFrom) := goodIn_app (goodIn_of _ (by decide +kernel)) ggL_photos_X6_fitsFrom
set_option maxRecDepth 20000 in
theorem ggL_photos_X6_hits : GoodIn wsL_photos wsX6_hits := goodIn_r _ [176, 6, 177, 178, 179, 180, 4, 181, 112, 113, 114, 16, 115, 18, 182, 183, 184, 185, 186, 187, 188, 169, 20, 21, 22, 23, 189, 190, 191, 192, 193, 154, 81, 155, 194, 195, 196, 197, 68, 69, 63, 70, 71, 72, 73, 13, 14, 15, 17, 19, 198, 75, 76, 77, 65, 66, 78, 79, 80, 82, 83, 84, 85, 86, 87, 88, 89, 90, 91, 92, 199, 200, 201, 202, 203, 204, 205, 206, 207, 208, 209, 220, 221, 222, 223] (by decide +kernel) (by decide +kernel)
set_option maxRecDepth 20000 in
theorem gL_photos_X6_hits : GoodIn wsL_photos (wsV RL 28 RX6 yX6_hits wsX6_hits) := goodIn_app (goodIn_of _ (by decide +kernel)) ggL_photos_X6_hits
theorem dL_photos_0 : decode cL_photos 0 = .ok (.aload_n 0, 1) := by decide +kernel
theorem dL_photos_1 : decode cL_photos 1 = .ok (.iconst 0, 1) := by decide +kernel
theorem dL_photos_2 : decode cL_photos 2 = .ok (.invokevirtual 11, 3) := by decide +kernel
theorem dL_photos_5 : decode cL_photos 5 = .ok (.istore_n 1, 1) := by decide +kernel
theorem dL_photos_6 : decode cL_photos 6 = .ok (.iconst (-1), 1) := by decide +kernel
theorem dL_photos_7 : decode cL_photos 7 = .ok (.istore_n 2, 1) := by decide +kernel
theorem dL_photos_8 : decode cL_photos 8 = .ok (.iconst 0, 1) := by decide +kernel
theorem dL_photos_9 : decode cL_photos 9 = .ok (.istore_n 3, 1) := by decide +kernel
theorem dL_photos_10 : decode cL_photos 10 = .ok (.iconst 0, 1) := by decide +kernel
theorem dL_photos_11 : decode cL_photos 11 = .ok (.istore 4, 2) := by decide +kernel
theorem dL_photos_13 : decode cL_photos 13 = .ok (.iconst 0, 1) := by decide +kernel
theorem dL_photos_14 : decode cL_photos 14 = .ok (.istore 5, 2) := by decide +kernel
theorem dL_photos_16 : decode cL_photos 16 = .ok (.iload 5, 2) := by decide +kernel
theorem dL_photos_18 : decode cL_photos 18 = .ok (.iload_n 1, 1) := by decide +kernel
theorem dL_photos_19 : decode cL_photos 19 = .ok (.if_icmp .ge 153, 3) := by decide +kernel
theorem dL_photos_22 : decode cL_photos 22 = .ok (.aload_n 0, 1) := by decide +kernel
theorem dL_photos_23 : decode cL_photos 23 = .ok (.iload 5, 2) := by decide +kernel
theorem dL_photos_25 : decode cL_photos 25 = .ok (.iconst 0, 1) := by decide +kernel
theorem dL_photos_26 : decode cL_photos 26 = .ok (.invokevirtual 19, 3) := by decide +kernel
theorem dL_photos_29 : decode cL_photos 29 = .ok (.istore 6, 2) := by decide +kernel
theorem dL_photos_31 : decode cL_photos 31 = .ok (.aload_n 0, 1) := by decide +kernel
theorem dL_photos_32 : decode cL_photos 32 = .ok (.iload 5, 2) := by decide +kernel
theorem dL_photos_34 : decode cL_photos 34 = .ok (.bipush 6, 2) := by decide +kernel
theorem dL_photos_36 : decode cL_photos 36 = .ok (.invokevirtual 19, 3) := by decide +kernel
theorem dL_photos_39 : decode cL_photos 39 = .ok (.iconst 1, 1) := by decide +kernel
theorem dL_photos_40 : decode cL_photos 40 = .ok (.if_icmp .ne 7, 3) := by decide +kernel
theorem dL_photos_43 : decode cL_photos 43 = .ok (.iconst 1, 1) := by decide +kernel
theorem dL_photos_44 : decode cL_photos 44 = .ok (.goto 4, 3) := by decide +kernel
theorem dL_photos_47 : decode cL_photos 47 = .ok (.iconst 0, 1) := by decide +kernel
theorem dL_photos_48 : decode cL_photos 48 = .ok (.istore 7, 2) := by decide +kernel
theorem dL_photos_50 : decode cL_photos 50 = .ok (.aload_n 0, 1) := by decide +kernel
theorem dL_photos_51 : decode cL_photos 51 = .ok (.iload 5, 2) := by decide +kernel
theorem dL_photos_53 : decode cL_photos 53 = .ok (.iconst 4, 1) := by decide +kernel
theorem dL_photos_54 : decode cL_photos 54 = .ok (.invokevirtual 19, 3) := by decide +kernel
theorem dL_photos_57 : decode cL_photos 57 = .ok (.istore 8, 2) := by decide +kernel
theorem dL_photos_59 : decode cL_photos 59 = .ok (.iload_n 3, 1) := by decide +kernel
theorem dL_photos_60 : decode cL_photos 60 = .ok (.iload 7, 2) := by decide +kernel
theorem dL_photos_62 : decode cL_photos 62 = .ok (.ifCond .eq 7, 3) := by decide +kernel
theorem dL_photos_65 : decode cL_photos 65 = .ok (.iconst 0, 1) := by decide +kernel
theorem dL_photos_66 : decode cL_photos 66 = .ok (.goto 7, 3) := by decide +kernel
theorem dL_photos_69 : decode cL_photos 69 = .ok (.iconst 1, 1) := by decide +kernel
theorem dL_photos_70 : decode cL_photos 70 = .ok (.iload 5, 2) := by decide +kernel
theorem dL_photos_72 : decode cL_photos 72 = .ok (.ishl, 1) := by decide +kernel
theorem dL_photos_73 : decode cL_photos 73 = .ok (.ior, 1) := by decide +kernel
theorem dL_photos_74 : decode cL_photos 74 = .ok (.istore_n 3, 1) := by decide +kernel
theorem dL_photos_75 : decode cL_photos 75 = .ok (.iload 4, 2) := by decide +kernel
theorem dL_photos_77 : decode cL_photos 77 = .ok (.iload 7, 2) := by decide +kernel
theorem dL_photos_79 : decode cL_photos 79 = .ok (.ifCond .ne 15, 3) := by decide +kernel
theorem dL_photos_82 : decode cL_photos 82 = .ok (.iload 8, 2) := by decide +kernel
theorem dL_photos_84 : decode cL_photos 84 = .ok (.ifCond .lt 10, 3) := by decide +kernel
theorem dL_photos_87 : decode cL_photos 87 = .ok (.iconst 1, 1) := by decide +kernel
theorem dL_photos_88 : decode cL_photos 88 = .ok (.iload 5, 2) := by decide +kernel
theorem dL_photos_90 : decode cL_photos 90 = .ok (.ishl, 1) := by decide +kernel
theorem dL_photos_91 : decode cL_photos 91 = .ok (.goto 4, 3) := by decide +kernel
theorem dL_photos_94 : decode cL_photos 94 = .ok (.iconst 0, 1) := by decide +kernel
theorem dL_photos_95 : decode cL_photos 95 = .ok (.ior, 1) := by decide +kernel
theorem dL_photos_96 : decode cL_photos 96 = .ok (.istore 4, 2) := by decide +kernel
theorem dL_photos_98 : decode cL_photos 98 = .ok (.iload 6, 2) := by decide +kernel
theorem dL_photos_100 : decode cL_photos 100 = .ok (.iload_n 2, 1) := by decide +kernel
theorem dL_photos_101 : decode cL_photos 101 = .ok (.if_icmp .le 60, 3) := by decide +kernel
theorem dL_photos_104 : decode cL_photos 104 = .ok (.iload 8, 2) := by decide +kernel
theorem dL_photos_106 : decode cL_photos 106 = .ok (.ifCond .ge 7, 3) := by decide +kernel
theorem dL_photos_109 : decode cL_photos 109 = .ok (.iconst 1, 1) := by decide +kernel
theorem dL_photos_110 : decode cL_photos 110 = .ok (.goto 4, 3) := by decide +kernel
theorem dL_photos_113 : decode cL_photos 113 = .ok (.iconst 0, 1) := by decide +kernel
theorem dL_photos_114 : decode cL_photos 114 = .ok (.aload_n 0, 1) := by decide +kernel
theorem dL_photos_115 : decode cL_photos 115 = .ok (.iload 5, 2) := by decide +kernel
theorem dL_photos_117 : decode cL_photos 117 = .ok (.iconst 5, 1) := by decide +kernel
theorem dL_photos_118 : decode cL_photos 118 = .ok (.invokevirtual 19, 3) := by decide +kernel
theorem dL_photos_121 : decode cL_photos 121 = .ok (.ifCond .ge 7, 3) := by decide +kernel
theorem dL_photos_124 : decode cL_photos 124 = .ok (.iconst 1, 1) := by decide +kernel
theorem dL_photos_125 : decode cL_photos 125 = .ok (.goto 4, 3) := by decide +kernel
theorem dL_photos_128 : decode cL_photos 128 = .ok (.iconst 0, 1) := by decide +kernel
theorem dL_photos_129 : decode cL_photos 129 = .ok (.if_icmp .ne 32, 3) := by decide +kernel
theorem dL_photos_132 : decode cL_photos 132 = .ok (.aload_n 0, 1) := by decide +kernel
theorem dL_photos_133 : decode cL_photos 133 = .ok (.iload 5, 2) := by decide +kernel
theorem dL_photos_135 : decode cL_photos 135 = .ok (.bipush 8, 2) := by decide +kernel
theorem dL_photos_137 : decode cL_photos 137 = .ok (.invokevirtual 19, 3) := by decide +kernel
theorem dL_photos_140 : decode cL_photos 140 = .ok (.bipush (-2), 2) := by decide +kernel
theorem dL_photos_142 : decode cL_photos 142 = .ok (.if_icmp .ne 19, 3) := by decide +kernel
theorem dL_photos_145 : decode cL_photos 145 = .ok (.iload 7, 2) := by decide +kernel
theorem dL_photos_147 : decode cL_photos 147 = .ok (.ifCond .eq 16, 3) := by decide +kernel
theorem dL_photos_150 : decode cL_photos 150 = .ok (.aload_n 0, 1) := by decide +kernel
theorem dL_photos_151 : decode cL_photos 151 = .ok (.iload 5, 2) := by decide +kernel
theorem dL_photos_153 : decode cL_photos 153 = .ok (.invokevirtual 25, 3) := by decide +kernel
theorem dL_photos_156 : decode cL_photos 156 = .ok (.bipush (-4), 2) := by decide +kernel
theorem dL_photos_158 : decode cL_photos 158 = .ok (.if_icmp .eq 5, 3) := by decide +kernel
theorem dL_photos_161 : decode cL_photos 161 = .ok (.iconst 0, 1) := by decide +kernel
theorem dL_photos_162 : decode cL_photos 162 = .ok (.ireturn, 1) := by decide +kernel
theorem dL_photos_163 : decode cL_photos 163 = .ok (.iload 6, 2) := by decide +kernel
theorem dL_photos_165 : decode cL_photos 165 = .ok (.istore_n 2, 1) := by decide +kernel
theorem dL_photos_166 : decode cL_photos 166 = .ok (.iinc 5 1, 3) := by decide +kernel
theorem dL_photos_169 : decode cL_photos 169 = .ok (.goto (-153), 3) := by decide +kernel
theorem dL_photos_172 : decode cL_photos 172 = .ok (.aload_n 0, 1) := by decide +kernel
theorem dL_photos_173 : decode cL_photos 173 = .ok (.iconst 1, 1) := by decide +kernel
theorem dL_photos_174 : decode cL_photos 174 = .ok (.invokevirtual 11, 3) := by decide +kernel
theorem dL_photos_177 : decode cL_photos 177 = .ok (.iload_n 3, 1) := by decide +kernel
theorem dL_photos_178 : decode cL_photos 178 = .ok (.if_icmp .ne 47, 3) := by decide +kernel
theorem dL_photos_181 : decode cL_photos 181 = .ok (.aload_n 0, 1) := by decide +kernel
theorem dL_photos_182 : decode cL_photos 182 = .ok (.iconst 2, 1) := by decide +kernel
theorem dL_photos_183 : decode cL_photos 183 = .ok (.invokevirtual 11, 3) := by decide +kernel
theorem dL_photos_186 : decode cL_photos 186 = .ok (.iload 4, 2) := by decide +kernel
theorem dL_photos_188 : decode cL_photos 188 = .ok (.if_icmp .ne 37, 3) := by decide +kernel
theorem dL_photos_191 : decode cL_photos 191 = .ok (.aload_n 0, 1) := by decide +kernel
theorem dL_photos_192 : decode cL_photos 192 = .ok (.iload_n 1, 1) := by decide +kernel
theorem dL_photos_193 : decode cL_photos 193 = .ok (.iconst 0, 1) := by decide +kernel
theorem dL_photos_194 : decode cL_photos 194 = .ok (.invokevirtual 19, 3) := by decide +kernel
theorem dL_photos_197 : decode cL_photos 197 = .ok (.iconst (-1), 1) := by decide +kernel
theorem dL_photos_198 : decode cL_photos 198 = .ok (.if_icmp .ne 27, 3) := by decide +kernel
theorem dL_photos_201 : decode cL_photos 201 = .ok (.aload_n 0, 1) := by decide +kernel
theorem dL_photos_202 : decode cL_photos 202 = .ok (.iload_n 1, 1) := by decide +kernel
theorem dL_photos_203 : decode cL_photos 203 = .ok (.iconst 0, 1) := by decide +kernel
theorem dL_photos_204 : decode cL_photos 204 = .ok (.iconst 1, 1) := by decide +kernel
theorem dL_photos_205 : decode cL_photos 205 = .ok (.invokevirtual 28, 3) := by decide +kernel
theorem dL_photos_208 : decode cL_photos 208 = .ok (.iconst (-1), 1) := by decide +kernel
theorem dL_photos_209 : decode cL_photos 209 = .ok (.if_icmp .ne 16, 3) := by decide +kernel
theorem dL_photos_212 : decode cL_photos 212 = .ok (.aload_n 0, 1) := by decide +kernel
theorem dL_photos_213 : decode cL_photos 213 = .ok (.iload_n 1, 1) := by decide +kernel
theorem dL_photos_214 : decode cL_photos 214 = .ok (.invokevirtual 25, 3) := by decide +kernel
theorem dL_photos_217 : decode cL_photos 217 = .ok (.iconst (-1), 1) := by decide +kernel
theorem dL_photos_218 : decode cL_photos 218 = .ok (.if_icmp .ne 7, 3) := by decide +kernel
theorem dL_photos_221 : decode cL_photos 221 = .ok (.iconst 1, 1) := by decide +kernel
theorem dL_photos_222 : decode cL_photos 222 = .ok (.goto 4, 3) := by decide +kernel
theorem dL_photos_225 : decode cL_photos 225 = .ok (.iconst 0, 1) := by decide +kernel
theorem dL_photos_226 : decode cL_photos 226 = .ok (.ireturn, 1) := by decide +kernel
set_option maxRecDepth 20000 in
theorem ggL_arcs_X6_hits : GoodIn wsL_arcs wsX6_hits := goodIn_r _ [7, 8, 9, 10, 11, 12, 6, 13, 14, 15, 16, 17, 18, 19, 20, 21, 22, 23, 24, 25, 26, 27, 28, 29, 30, 31, 32, 33, 34, 35, 36, 37, 38, 39, 40, 41, 42, 43, 44, 45, 46, 47, 48, 49, 50, 51, 52, 53, 54, 55, 56, 57, 58, 59, 60, 61, 62, 63, 64, 65, 66, 67, 68, 69, 70, 71, 72, 73, 74, 75, 222, 223, 224, 225, 226, 227, 228, 229, 230, 231, 232, 233, 234, 235, 236] (by decide +kernel) (by decide +kernel)
set_option maxRecDepth 20000 in
theorem gL_arcs_X6_hits : GoodIn wsL_arcs (wsV RL 28 RX6 yX6_hits wsX6_hits) := goodIn_app (goodIn_of _ (by decide +kernel)) ggL_arcs_X6_hits
set_option maxRecDepth 20000 in
theorem ggL_arcs_X6_arc : GoodIn wsL_arcs wsX6_arc := goodIn_r _ [79, 80, 81, 82, 9, 10, 11, 12, 6, 13, 8, 14, 15, 16, 17, 18, 19, 20, 21, 22, 83, 84, 85, 86, 87, 88, 23, 24, 25, 26, 27, 28, 29, 30, 31, 32, 33, 34, 35, 36, 37, 38, 39, 40, 41, 42, 43, 44, 45, 46, 47, 48, 49, 50, 89, 73, 74, 75, 60, 62, 90, 67, 68, 69, 91, 92, 93, 94, 64, 65, 95, 96, 97, 98, 99, 100, 101, 222, 223, 224, 225, 226, 227, 228, 229, 230, 231, 232, 233, 234, 235, 236] (by decide +kernel) (by decide +kernel)
set_option maxRecDepth 20000 in
theorem gL_arcs_X6_arc : GoodIn wsL_arcs (wsV RL 32 RX6 yX6_arc wsX6_arc) := goodIn_app (goodIn_of _ (by decide +kernel)) ggL_arcs_X6_arc
set_option maxRecDepth 20000 in
theorem ggL_arcs_X6_photo : GoodIn wsL_arcs wsX6_photo := goodIn_r _ [105, 8, 106, 107, 108, 14, 15, 16, 17, 18, 19, 86, 87, 6, 88, 109, 110, 111, 112, 31, 113, 114, 115, 116, 55, 28, 29, 30, 117, 118, 119, 120, 121, 122, 123, 124, 125, 126, 127, 128, 129, 130, 131, 132, 133, 134, 135, 136, 137, 138, 139, 140, 141, 142, 143, 144, 145, 146, 147, 148, 149, 150, 151, 152, 38, 153, 154, 37, 39, 155, 156, 157, 158, 159, 160, 161, 162, 163, 164, 165, 166, 167, 168, 169, 70, 71, 222, 223, 224, 225, 226, 227, 228, 229, 230, 231, 232, 237, 238, 239, 240] (by decide +kernel) (by decide +kernel)
set_option maxRecDepth 20000 in
theorem gL_arcs_X6_photo : GoodIn wsL_arcs (wsV RL 19 RX6 yX6_photo wsX6_photo) := goodIn_app (goodIn_of _ (by decide +kernel)) ggL_arcs_X6_photo
set_option maxRecDepth 20000 in
theorem ggL_arcs_X6_count : GoodIn wsL_arcs wsX6_count := goodIn_r _ [173, 8, 174, 175, 176, 177, 178, 179, 51, 52, 53, 17, 54, 19, 55, 28, 29, 30, 31, 180, 128, 129, 130, 131, 114, 115, 116, 117, 110, 111, 112, 181, 182, 183, 184, 185, 186, 187, 188, 189, 190, 191, 192, 193, 194, 195, 196, 197, 198, 199, 200, 201, 202, 203, 204, 205, 206, 207, 46, 208, 60, 61, 209, 44, 45, 47, 48, 49, 50, 210, 57, 58, 59, 62, 63, 64, 38, 65, 66, 67, 68, 69, 70, 6, 71, 72, 73, 74, 75, 211, 163, 164, 165, 166, 167, 168, 212, 213, 214, 215, 216, 222, 223, 224, 225, 226, 227, 228, 229, 230, 231, 232, 241, 242, 243, 244, 245, 246, 247, 248, 249, 250, 233, 234, 235, 236] (by decide +kernel) (by decide +kernel)
set_option maxRecDepth 20000 in
theorem gL_arcs_X6_count : GoodIn wsL_arcs (wsV RL 11 RX6 yX6_count wsX6_count) := goodIn_app (goodIn_of _ (by decide +kernel)) ggL_arcs_X6_count
set_option maxRecDepth 20000 in
theorem ggL_arcs_L_upper : GoodIn wsL_arcs wsL_upper := goodIn_r _ [220, 221] (by decide +kernel) (by decide +kernel)
set_option maxRecDepth 20000 in
theorem gL_arcs_L_upper : GoodIn wsL_arcs (va_wsS RL 40 yL_upper wsL_upper) := goodIn_app (goodIn_of _ (by decide +kernel)) ggL_arcs_L_upper
