theorem dX3_tryBeginning_0 : decode cX3_tryBeginning 0 = .ok (.aload_n 0, 1) := by decide +kernel
theorem dX3_tryBeginning_1 : decode cX3_tryBeginning 1 = .ok (.iload_n 1, 1) := by decide +kernel
theorem dX3_tryBeginning_2 : decode cX3_tryBeginning 2 = .ok (.iload_n 2, 1) := by decide +kernel
theorem dX3_tryBeginning_3 : decode cX3_tryBeginning 3 = .ok (.invokevirtual 71, 3) := by decide +kernel
theorem dX3_tryBeginning_6 : decode cX3_tryBeginning 6 = .ok (.istore 4, 2) := by decide +kernel
theorem dX3_tryBeginning_8 : decode cX3_tryBeginning 8 = .ok (.iload 4, 2) := by decide +kernel
theorem dX3_tryBeginning_10 : decode cX3_tryBeginning 10 = .ok (.invokestatic 74, 3) := by decide +kernel
theorem dX3_tryBeginning_13 : decode cX3_tryBeginning 13 = .ok (.aload_n 0, 1) := by decide +kernel
theorem dX3_tryBeginning_14 : decode cX3_tryBeginning 14 = .ok (.getfield 56, 3) := by decide +kernel
theorem dX3_tryBeginning_17 : decode cX3_tryBeginning 17 = .ok (.invokestatic 74, 3) := by decide +kernel
theorem dX3_tryBeginning_20 : decode cX3_tryBeginning 20 = .ok (.isub, 1) := by decide +kernel
theorem dX3_tryBeginning_21 : decode cX3_tryBeginning 21 = .ok (.istore 5, 2) := by decide +kernel
theorem dX3_tryBeginning_23 : decode cX3_tryBeginning 23 = .ok (.iload 5, 2) := by decide +kernel
theorem dX3_tryBeginning_25 : decode cX3_tryBeginning 25 = .ok (.ifCond .gt 12, 3) := by decide +kernel
theorem dX3_tryBeginning_28 : decode cX3_tryBeginning 28 = .ok (.iload 5, 2) := by decide +kernel
theorem dX3_tryBeginning_30 : decode cX3_tryBeginning 30 = .ok (.ifCond .ne 23, 3) := by decide +kernel
theorem dX3_tryBeginning_33 : decode cX3_tryBeginning 33 = .ok (.iload_n 3, 1) := by decide +kernel
theorem dX3_tryBeginning_34 : decode cX3_tryBeginning 34 = .ok (.ifCond .eq 19, 3) := by decide +kernel
theorem dX3_tryBeginning_37 : decode cX3_tryBeginning 37 = .ok (.aload_n 0, 1) := by decide +kernel
theorem dX3_tryBeginning_38 : decode cX3_tryBeginning 38 = .ok (.iload_n 1, 1) := by decide +kernel
theorem dX3_tryBeginning_39 : decode cX3_tryBeginning 39 = .ok (.putfield 50, 3) := by decide +kernel
theorem dX3_tryBeginning_42 : decode cX3_tryBeginning 42 = .ok (.aload_n 0, 1) := by decide +kernel
theorem dX3_tryBeginning_43 : decode cX3_tryBeginning 43 = .ok (.iload_n 2, 1) := by decide +kernel
theorem dX3_tryBeginning_44 : decode cX3_tryBeginning 44 = .ok (.putfield 53, 3) := by decide +kernel
theorem dX3_tryBeginning_47 : decode cX3_tryBeginning 47 = .ok (.aload_n 0, 1) := by decide +kernel
theorem dX3_tryBeginning_48 : decode cX3_tryBeginning 48 = .ok (.iload 4, 2) := by decide +kernel
theorem dX3_tryBeginning_50 : decode cX3_tryBeginning 50 = .ok (.putfield 56, 3) := by decide +kernel
theorem dX3_tryBeginning_53 : decode cX3_tryBeginning 53 = .ok (.return_, 1) := by decide +kernel
theorem dX4_init_0 : decode cX4_init 0 = .ok (.aload_n 0, 1) := by decide +kernel
theorem dX4_init_1 : decode cX4_init 1 = .ok (.invokespecial 3, 3) := by decide +kernel
theorem dX4_init_4 : decode cX4_init 4 = .ok (.aload_n 0, 1) := by decide +kernel
theorem dX4_init_5 : decode cX4_init 5 = .ok (.bipush 60, 2) := by decide +kernel
theorem dX4_init_7 : decode cX4_init 7 = .ok (.newarray .char, 2) := by decide +kernel
theorem dX4_init_9 : decode cX4_init 9 = .ok (.putfield 9, 3) := by decide +kernel
theorem dX4_init_12 : decode cX4_init 12 = .ok (.return_, 1) := by decide +kernel
set_option maxRecDepth 20000 in
theorem ggX4_readInto_X4_readPlace : GoodIn wsX4_readInto wsX4_readPlace := goodIn_r _ [8, 9, 10, 11, 7, 12, 13, 1, 14, 15, 16, 17, 3, 18, 19, 20, 21, 22, 23, 24, 25, 26, 27, 28, 29] (by decide +kernel) (by decide +kernel)
set_option maxRecDepth 20000 in
theorem gX4_readInto_X4_readPlace : GoodIn wsX4_readInto (wsV RX4 26 RX4 yX4_readPlace wsX4_readPlace) := goodIn_app (goodIn_of _ (by decide +kernel)) ggX4_readInto_X4_readPlace
set_option maxRecDepth 20000 in
theorem ggX4_readInto_X4_pass : GoodIn wsX4_readInto wsX4_pass := goodIn_r _ [17, 1, 3, 13, 26, 27, 28, 29] (by decide +kernel) (by decide +kernel)
set_option maxRecDepth 20000 in
theorem gX4_readInto_X4_pass : GoodIn wsX4_readInto (wsV RX4 30 RX4 yX4_pass wsX4_pass) := goodIn_app (goodIn_of _ (by decide +kernel)) ggX4_readInto_X4_pass
set_option maxRecDepth 20000 in
theorem ggX4_readInto_X4_readNumber : GoodIn wsX4_readInto wsX4_readNumber := goodIn_r _ [12, 13, 1, 14, 15, 16, 7, 17, 3, 18, 19, 20, 21, 22, 23, 24, 25, 26, 27, 28, 29] (by decide +kernel) (by decide +kernel)
set_option maxRecDepth 20000 in
theorem gX4_readInto_X4_readNumber : GoodIn wsX4_readInto (wsV RX4 34 RX4 yX4_readNumber wsX4_readNumber) := goodIn_app (goodIn_of _ (by decide +kernel)) ggX4_readInto_X4_readNumber
theorem dX4_readInto_0 : decode cX4_readInto 0 = .ok (.aload_n 0, 1) := by decide +kernel
theorem dX4_readInto_1 : decode cX4_readInto 1 = .ok (.iconst 0, 1) := by decide +kernel
theorem dX4_readInto_2 : decode cX4_readInto 2 = .ok (.putfield 19, 3) := by decide +kernel
theorem dX4_readInto_5 : decode cX4_readInto 5 = .ok (.aload_n 0, 1) := by decide +kernel
theorem dX4_readInto_6 : decode cX4_readInto 6 = .ok (.iconst 0, 1) := by decide +kernel
theorem dX4_readInto_7 : decode cX4_readInto 7 = .ok (.putfield 22, 3) := by decide +kernel
theorem dX4_readInto_10 : decode cX4_readInto 10 = .ok (.aload_n 1, 1) := by decide +kernel
theorem dX4_readInto_11 : decode cX4_readInto 11 = .ok (.iconst 4, 1) := by decide +kernel
theorem dX4_readInto_12 : decode cX4_readInto 12 = .ok (.sipush 360, 3) := by decide +kernel
theorem dX4_readInto_15 : decode cX4_readInto 15 = .ok (.iastore, 1) := by decide +kernel
theorem dX4_readInto_16 : decode cX4_readInto 16 = .ok (.aload_n 1, 1) := by decide +kernel
theorem dX4_readInto_17 : decode cX4_readInto 17 = .ok (.iconst 5, 1) := by decide +kernel
theorem dX4_readInto_18 : decode cX4_readInto 18 = .ok (.iconst 0, 1) := by decide +kernel
theorem dX4_readInto_19 : decode cX4_readInto 19 = .ok (.iastore, 1) := by decide +kernel
theorem dX4_readInto_20 : decode cX4_readInto 20 = .ok (.aload_n 0, 1) := by decide +kernel
theorem dX4_readInto_21 : decode cX4_readInto 21 = .ok (.aload_n 1, 1) := by decide +kernel
theorem dX4_readInto_22 : decode cX4_readInto 22 = .ok (.invokevirtual 26, 3) := by decide +kernel
theorem dX4_readInto_25 : decode cX4_readInto 25 = .ok (.ifCond .ne 5, 3) := by decide +kernel
theorem dX4_readInto_28 : decode cX4_readInto 28 = .ok (.iconst 0, 1) := by decide +kernel
theorem dX4_readInto_29 : decode cX4_readInto 29 = .ok (.ireturn, 1) := by decide +kernel
theorem dX4_readInto_30 : decode cX4_readInto 30 = .ok (.aload_n 0, 1) := by decide +kernel
theorem dX4_readInto_31 : decode cX4_readInto 31 = .ok (.getfield 19, 3) := by decide +kernel
theorem dX4_readInto_34 : decode cX4_readInto 34 = .ok (.aload_n 0, 1) := by decide +kernel
theorem dX4_readInto_35 : decode cX4_readInto 35 = .ok (.getfield 15, 3) := by decide +kernel
theorem dX4_readInto_38 : decode cX4_readInto 38 = .ok (.if_icmp .ne 5, 3) := by decide +kernel
theorem dX4_readInto_41 : decode cX4_readInto 41 = .ok (.iconst 1, 1) := by decide +kernel
theorem dX4_readInto_42 : decode cX4_readInto 42 = .ok (.ireturn, 1) := by decide +kernel
theorem dX4_readInto_43 : decode cX4_readInto 43 = .ok (.aload_n 0, 1) := by decide +kernel
theorem dX4_readInto_44 : decode cX4_readInto 44 = .ok (.aload_n 0, 1) := by decide +kernel
theorem dX4_readInto_45 : decode cX4_readInto 45 = .ok (.bipush 64, 2) := by decide +kernel
theorem dX4_readInto_47 : decode cX4_readInto 47 = .ok (.invokevirtual 30, 3) := by decide +kernel
theorem dX4_readInto_50 : decode cX4_readInto 50 = .ok (.putfield 22, 3) := by decide +kernel
theorem dX4_readInto_53 : decode cX4_readInto 53 = .ok (.aload_n 0, 1) := by decide +kernel
theorem dX4_readInto_54 : decode cX4_readInto 54 = .ok (.getfield 22, 3) := by decide +kernel
theorem dX4_readInto_57 : decode cX4_readInto 57 = .ok (.ifCond .eq 47, 3) := by decide +kernel
theorem dX4_readInto_60 : decode cX4_readInto 60 = .ok (.aload_n 0, 1) := by decide +kernel
theorem dX4_readInto_61 : decode cX4_readInto 61 = .ok (.aload_n 1, 1) := by decide +kernel
theorem dX4_readInto_62 : decode cX4_readInto 62 = .ok (.iconst 4, 1) := by decide +kernel
theorem dX4_readInto_63 : decode cX4_readInto 63 = .ok (.iconst 0, 1) := by decide +kernel
theorem dX4_readInto_64 : decode cX4_readInto 64 = .ok (.invokevirtual 34, 3) := by decide +kernel
theorem dX4_readInto_67 : decode cX4_readInto 67 = .ok (.ifCond .eq 37, 3) := by decide +kernel
theorem dX4_readInto_70 : decode cX4_readInto 70 = .ok (.aload_n 0, 1) := by decide +kernel
theorem dX4_readInto_71 : decode cX4_readInto 71 = .ok (.bipush 44, 2) := by decide +kernel
theorem dX4_readInto_73 : decode cX4_readInto 73 = .ok (.invokevirtual 30, 3) := by decide +kernel
theorem dX4_readInto_76 : decode cX4_readInto 76 = .ok (.ifCond .eq 28, 3) := by decide +kernel
theorem dX4_readInto_79 : decode cX4_readInto 79 = .ok (.aload_n 0, 1) := by decide +kernel
theorem dX4_readInto_80 : decode cX4_readInto 80 = .ok (.aload_n 1, 1) := by decide +kernel
theorem dX4_readInto_81 : decode cX4_readInto 81 = .ok (.iconst 5, 1) := by decide +kernel
theorem dX4_readInto_82 : decode cX4_readInto 82 = .ok (.iconst 0, 1) := by decide +kernel
theorem dX4_readInto_83 : decode cX4_readInto 83 = .ok (.invokevirtual 34, 3) := by decide +kernel
theorem dX4_readInto_86 : decode cX4_readInto 86 = .ok (.ifCond .eq 18, 3) := by decide +kernel
theorem dX4_readInto_89 : decode cX4_readInto 89 = .ok (.aload_n 0, 1) := by decide +kernel
theorem dX4_readInto_90 : decode cX4_readInto 90 = .ok (.getfield 19, 3) := by decide +kernel
theorem dX4_readInto_93 : decode cX4_readInto 93 = .ok (.aload_n 0, 1) := by decide +kernel
theorem dX4_readInto_94 : decode cX4_readInto 94 = .ok (.getfield 15, 3) := by decide +kernel
theorem dX4_readInto_97 : decode cX4_readInto 97 = .ok (.if_icmp .ne 7, 3) := by decide +kernel
theorem dX4_readInto_100 : decode cX4_readInto 100 = .ok (.iconst 1, 1) := by decide +kernel
theorem dX4_readInto_101 : decode cX4_readInto 101 = .ok (.goto 4, 3) := by decide +kernel
theorem dX4_readInto_104 : decode cX4_readInto 104 = .ok (.iconst 0, 1) := by decide +kernel
theorem dX4_readInto_105 : decode cX4_readInto 105 = .ok (.ireturn, 1) := by decide +kernel
set_option maxRecDepth 20000 in
theorem ggX4_readPlace_X4_readNumber : GoodIn wsX4_readPlace wsX4_readNumber := goodIn_r _ [5, 6, 7, 8, 9, 10, 4, 11, 12, 13, 14, 15, 16, 17, 18, 19, 20, 21, 22, 23, 24] (by decide +kernel) (by decide +kernel)
set_option maxRecDepth 20000 in
theorem gX4_readPlace_X4_readNumber : GoodIn wsX4_readPlace (wsV RX4 34 RX4 yX4_readNumber wsX4_readNumber) := goodIn_app (goodIn_of _ (by decide +kernel)) ggX4_readPlace_X4_readNumber
set_option maxRecDepth 20000 in
theorem ggX4_readPlace_X4_pass : GoodIn wsX4_readPlace wsX4_pass := goodIn_r _ [11, 7, 12, 6, 21, 22, 23, 24] (by decide +kernel) (by decide +kernel)
set_option maxRecDepth 20000 in
theorem gX4_readPlace_X4_pass : GoodIn wsX4_readPlace (wsV RX4 30 RX4 yX4_pass wsX4_pass) := goodIn_app (goodIn_of _ (by decide +kernel)) ggX4_readPlace_X4_pass
theorem dX4_readPlace_0 : decode cX4_readPlace 0 = .ok (.aload_n 0, 1) := by decide +kernel
theorem dX4_readPlace_1 : decode cX4_readPlace 1 = .ok (.aload_n 1, 1) := by decide +kernel
theorem dX4_readPlace_2 : decode cX4_readPlace 2 = .ok (.iconst 0, 1) := by decide +kernel
theorem dX4_readPlace_3 : decode cX4_readPlace 3 = .ok (.iconst 0, 1) := by decide +kernel
theorem dX4_readPlace_4 : decode cX4_readPlace 4 = .ok (.invokevirtual 34, 3) := by decide +kernel
theorem dX4_readPlace_7 : decode cX4_readPlace 7 = .ok (.ifCond .eq 64, 3) := by decide +kernel
theorem dX4_readPlace_10 : decode cX4_readPlace 10 = .ok (.aload_n 0, 1) := by decide +kernel
theorem dX4_readPlace_11 : decode cX4_readPlace 11 = .ok (.bipush 58, 2) := by decide +kernel
theorem dX4_readPlace_13 : decode cX4_readPlace 13 = .ok (.invokevirtual 30, 3) := by decide +kernel
theorem dX4_readPlace_16 : decode cX4_readPlace 16 = .ok (.ifCond .eq 55, 3) := by decide +kernel
theorem dX4_readPlace_19 : decode cX4_readPlace 19 = .ok (.aload_n 0, 1) := by decide +kernel
theorem dX4_readPlace_20 : decode cX4_readPlace 20 = .ok (.aload_n 1, 1) := by decide +kernel
theorem dX4_readPlace_21 : decode cX4_readPlace 21 = .ok (.iconst 1, 1) := by decide +kernel
theorem dX4_readPlace_22 : decode cX4_readPlace 22 = .ok (.iconst 1, 1) := by decide +kernel
theorem dX4_readPlace_23 : decode cX4_readPlace 23 = .ok (.invokevirtual 34, 3) := by decide +kernel
theorem dX4_readPlace_26 : decode cX4_readPlace 26 = .ok (.ifCond .eq 45, 3) := by decide +kernel
theorem dX4_readPlace_29 : decode cX4_readPlace 29 = .ok (.aload_n 0, 1) := by decide +kernel
theorem dX4_readPlace_30 : decode cX4_readPlace 30 = .ok (.bipush 44, 2) := by decide +kernel
theorem dX4_readPlace_32 : decode cX4_readPlace 32 = .ok (.invokevirtual 30, 3) := by decide +kernel
theorem dX4_readPlace_35 : decode cX4_readPlace 35 = .ok (.ifCond .eq 36, 3) := by decide +kernel
theorem dX4_readPlace_38 : decode cX4_readPlace 38 = .ok (.aload_n 0, 1) := by decide +kernel
theorem dX4_readPlace_39 : decode cX4_readPlace 39 = .ok (.aload_n 1, 1) := by decide +kernel
theorem dX4_readPlace_40 : decode cX4_readPlace 40 = .ok (.iconst 2, 1) := by decide +kernel
theorem dX4_readPlace_41 : decode cX4_readPlace 41 = .ok (.iconst 1, 1) := by decide +kernel
theorem dX4_readPlace_42 : decode cX4_readPlace 42 = .ok (.invokevirtual 34, 3) := by decide +kernel
theorem dX4_readPlace_45 : decode cX4_readPlace 45 = .ok (.ifCond .eq 26, 3) := by decide +kernel
theorem dX4_readPlace_48 : decode cX4_readPlace 48 = .ok (.aload_n 0, 1) := by decide +kernel
theorem dX4_readPlace_49 : decode cX4_readPlace 49 = .ok (.bipush 44, 2) := by decide +kernel
theorem dX4_readPlace_51 : decode cX4_readPlace 51 = .ok (.invokevirtual 30, 3) := by decide +kernel
theorem dX4_readPlace_54 : decode cX4_readPlace 54 = .ok (.ifCond .eq 17, 3) := by decide +kernel
theorem dX4_readPlace_57 : decode cX4_readPlace 57 = .ok (.aload_n 0, 1) := by decide +kernel
theorem dX4_readPlace_58 : decode cX4_readPlace 58 = .ok (.aload_n 1, 1) := by decide +kernel
theorem dX4_readPlace_59 : decode cX4_readPlace 59 = .ok (.iconst 3, 1) := by decide +kernel
theorem dX4_readPlace_60 : decode cX4_readPlace 60 = .ok (.iconst 0, 1) := by decide +kernel
theorem dX4_readPlace_61 : decode cX4_readPlace 61 = .ok (.invokevirtual 34, 3) := by decide +kernel
theorem dX4_readPlace_64 : decode cX4_readPlace 64 = .ok (.ifCond .eq 7, 3) := by decide +kernel
theorem dX4_readPlace_67 : decode cX4_readPlace 67 = .ok (.iconst 1, 1) := by decide +kernel
theorem dX4_readPlace_68 : decode cX4_readPlace 68 = .ok (.goto 4, 3) := by decide +kernel
theorem dX4_readPlace_71 : decode cX4_readPlace 71 = .ok (.iconst 0, 1) := by decide +kernel
theorem dX4_readPlace_72 : decode cX4_readPlace 72 = .ok (.ireturn, 1) := by decide +kernel
set_option maxRecDepth 20000 in
theorem ggX4_readNumber_X4_pass : GoodIn wsX4_readNumber wsX4_pass := goodIn_r _ [7, 2, 8, 1, 17, 18, 19, 20] (by decide +kernel) (by decide +kernel)
set_option maxRecDepth 20000 in
theorem gX4_readNumber_X4_pass : GoodIn wsX4_readNumber (wsV RX4 30 RX4 yX4_pass wsX4_pass) := goodIn_app (goodIn_of _ (by decide +kernel)) ggX4_readNumber_X4_pass
set_option maxRecDepth 20000 in
theorem ggX4_readNumber_X4_isDigit : GoodIn wsX4_readNumber wsX4_isDigit := goodIn_r _ [12, 2, 8, 1, 17, 18, 19, 20] (by decide +kernel) (by decide +kernel)
set_option maxRecDepth 20000 in
theorem gX4_readNumber_X4_isDigit : GoodIn wsX4_readNumber (wsV RX4 38 RX4 yX4_isDigit wsX4_isDigit) := goodIn_app (goodIn_of _ (by decide +kernel)) ggX4_readNumber_X4_isDigit
set_option maxRecDepth 20000 in
theorem ggX4_readNumber_X4_readDigit : GoodIn wsX4_readNumber wsX4_readDigit := goodIn_r _ [16, 1, 2, 17, 18, 19, 20] (by decide +kernel) (by decide +kernel)
set_option maxRecDepth 20000 in
theorem gX4_readNumber_X4_readDigit : GoodIn wsX4_readNumber (wsV RX4 42 RX4 yX4_readDigit wsX4_readDigit) := goodIn_app (goodIn_of _ (by decide +kernel)) ggX4_readNumber_X4_readDigit
theorem dX4_readNumber_0 : decode cX4_readNumber 0 = .ok (.iload_n 3, 1) := by decide +kernel
theorem dX4_readNumber_1 : decode cX4_readNumber 1 = .ok (.ifCond .eq 16, 3) := by decide +kernel
theorem dX4_readNumber_4 : decode cX4_readNumber 4 = .ok (.aload_n 0, 1) := by decide +kernel
theorem dX4_readNumber_5 : decode cX4_readNumber 5 = .ok (.bipush 45, 2) := by decide +kernel
theorem dX4_readNumber_7 : decode cX4_readNumber 7 = .ok (.invokevirtual 30, 3) := by decide +kernel
theorem dX4_readNumber_10 : decode cX4_readNumber 10 = .ok (.ifCond .eq 7, 3) := by decide +kernel
theorem dX4_readNumber_13 : decode cX4_readNumber 13 = .ok (.iconst 1, 1) := by decide +kernel
theorem dX4_readNumber_14 : decode cX4_readNumber 14 = .ok (.goto 4, 3) := by decide +kernel
theorem dX4_readNumber_17 : decode cX4_readNumber 17 = .ok (.iconst 0, 1) := by decide +kernel
theorem dX4_readNumber_18 : decode cX4_readNumber 18 = .ok (.istore 4, 2) := by decide +kernel
theorem dX4_readNumber_20 : decode cX4_readNumber 20 = .ok (.aload_n 0, 1) := by decide +kernel
theorem dX4_readNumber_21 : decode cX4_readNumber 21 = .ok (.invokevirtual 38, 3) := by decide +kernel
theorem dX4_readNumber_24 : decode cX4_readNumber 24 = .ok (.ifCond .eq 22, 3) := by decide +kernel
theorem dX4_readNumber_27 : decode cX4_readNumber 27 = .ok (.iload 4, 2) := by decide +kernel
theorem dX4_readNumber_29 : decode cX4_readNumber 29 = .ok (.ifCond .eq 19, 3) := by decide +kernel
theorem dX4_readNumber_32 : decode cX4_readNumber 32 = .ok (.aload_n 0, 1) := by decide +kernel
theorem dX4_readNumber_33 : decode cX4_readNumber 33 = .ok (.getfield 9, 3) := by decide +kernel
theorem dX4_readNumber_36 : decode cX4_readNumber 36 = .ok (.aload_n 0, 1) := by decide +kernel
theorem dX4_readNumber_37 : decode cX4_readNumber 37 = .ok (.getfield 19, 3) := by decide +kernel
theorem dX4_readNumber_40 : decode cX4_readNumber 40 = .ok (.caload, 1) := by decide +kernel
theorem dX4_readNumber_41 : decode cX4_readNumber 41 = .ok (.bipush 48, 2) := by decide +kernel
theorem dX4_readNumber_43 : decode cX4_readNumber 43 = .ok (.if_icmp .ne 5, 3) := by decide +kernel
theorem dX4_readNumber_46 : decode cX4_readNumber 46 = .ok (.iconst 0, 1) := by decide +kernel
theorem dX4_readNumber_47 : decode cX4_readNumber 47 = .ok (.ireturn, 1) := by decide +kernel
theorem dX4_readNumber_48 : decode cX4_readNumber 48 = .ok (.aload_n 0, 1) := by decide +kernel
theorem dX4_readNumber_49 : decode cX4_readNumber 49 = .ok (.invokevirtual 42, 3) := by decide +kernel
theorem dX4_readNumber_52 : decode cX4_readNumber 52 = .ok (.istore 5, 2) := by decide +kernel
theorem dX4_readNumber_54 : decode cX4_readNumber 54 = .ok (.iconst 1, 1) := by decide +kernel
theorem dX4_readNumber_55 : decode cX4_readNumber 55 = .ok (.istore 6, 2) := by decide +kernel
theorem dX4_readNumber_57 : decode cX4_readNumber 57 = .ok (.iload 6, 2) := by decide +kernel
theorem dX4_readNumber_59 : decode cX4_readNumber 59 = .ok (.iconst 3, 1) := by decide +kernel
theorem dX4_readNumber_60 : decode cX4_readNumber 60 = .ok (.if_icmp .ge 33, 3) := by decide +kernel
theorem dX4_readNumber_63 : decode cX4_readNumber 63 = .ok (.iload 5, 2) := by decide +kernel
theorem dX4_readNumber_65 : decode cX4_readNumber 65 = .ok (.ifCond .eq 28, 3) := by decide +kernel
theorem dX4_readNumber_68 : decode cX4_readNumber 68 = .ok (.aload_n 0, 1) := by decide +kernel
theorem dX4_readNumber_69 : decode cX4_readNumber 69 = .ok (.invokevirtual 38, 3) := by decide +kernel
theorem dX4_readNumber_72 : decode cX4_readNumber 72 = .ok (.ifCond .eq 21, 3) := by decide +kernel
theorem dX4_readNumber_75 : decode cX4_readNumber 75 = .ok (.bipush 10, 2) := by decide +kernel
theorem dX4_readNumber_77 : decode cX4_readNumber 77 = .ok (.iload 5, 2) := by decide +kernel
theorem dX4_readNumber_79 : decode cX4_readNumber 79 = .ok (.imul, 1) := by decide +kernel
theorem dX4_readNumber_80 : decode cX4_readNumber 80 = .ok (.aload_n 0, 1) := by decide +kernel
theorem dX4_readNumber_81 : decode cX4_readNumber 81 = .ok (.invokevirtual 42, 3) := by decide +kernel
theorem dX4_readNumber_84 : decode cX4_readNumber 84 = .ok (.iadd, 1) := by decide +kernel
theorem dX4_readNumber_85 : decode cX4_readNumber 85 = .ok (.istore 5, 2) := by decide +kernel
theorem dX4_readNumber_87 : decode cX4_readNumber 87 = .ok (.iinc 6 1, 3) := by decide +kernel
theorem dX4_readNumber_90 : decode cX4_readNumber 90 = .ok (.goto (-33), 3) := by decide +kernel
theorem dX4_readNumber_93 : decode cX4_readNumber 93 = .ok (.aload_n 1, 1) := by decide +kernel
theorem dX4_readNumber_94 : decode cX4_readNumber 94 = .ok (.iload_n 2, 1) := by decide +kernel
theorem dX4_readNumber_95 : decode cX4_readNumber 95 = .ok (.iload 4, 2) := by decide +kernel
theorem dX4_readNumber_97 : decode cX4_readNumber 97 = .ok (.ifCond .eq 9, 3) := by decide +kernel
theorem dX4_readNumber_100 : decode cX4_readNumber 100 = .ok (.iload 5, 2) := by decide +kernel
theorem dX4_readNumber_102 : decode cX4_readNumber 102 = .ok (.ineg, 1) := by decide +kernel
theorem dX4_readNumber_103 : decode cX4_readNumber 103 = .ok (.goto 5, 3) := by decide +kernel
theorem dX4_readNumber_106 : decode cX4_readNumber 106 = .ok (.iload 5, 2) := by decide +kernel
theorem dX4_readNumber_108 : decode cX4_readNumber 108 = .ok (.iastore, 1) := by decide +kernel
theorem dX4_readNumber_109 : decode cX4_readNumber 109 = .ok (.iconst 1, 1) := by decide +kernel
theorem dX4_readNumber_110 : decode cX4_readNumber 110 = .ok (.ireturn, 1) := by decide +kernel
theorem dX4_isDigit_0 : decode cX4_isDigit 0 = .ok (.aload_n 0, 1) := by decide +kernel
theorem dX4_isDigit_1 : decode cX4_isDigit 1 = .ok (.getfield 19, 3) := by decide +kernel
theorem dX4_isDigit_4 : decode cX4_isDigit 4 = .ok (.aload_n 0, 1) := by decide +kernel
theorem dX4_isDigit_5 : decode cX4_isDigit 5 = .ok (.getfield 15, 3) := by decide +kernel
theorem dX4_isDigit_8 : decode cX4_isDigit 8 = .ok (.if_icmp .ge 35, 3) := by decide +kernel
theorem dX4_isDigit_11 : decode cX4_isDigit 11 = .ok (.aload_n 0, 1) := by decide +kernel
theorem dX4_isDigit_12 : decode cX4_isDigit 12 = .ok (.getfield 9, 3) := by decide +kernel
theorem dX4_isDigit_15 : decode cX4_isDigit 15 = .ok (.aload_n 0, 1) := by decide +kernel
theorem dX4_isDigit_16 : decode cX4_isDigit 16 = .ok (.getfield 19, 3) := by decide +kernel
theorem dX4_isDigit_19 : decode cX4_isDigit 19 = .ok (.caload, 1) := by decide +kernel
theorem dX4_isDigit_20 : decode cX4_isDigit 20 = .ok (.bipush 48, 2) := by decide +kernel
theorem dX4_isDigit_22 : decode cX4_isDigit 22 = .ok (.if_icmp .lt 21, 3) := by decide +kernel
theorem dX4_isDigit_25 : decode cX4_isDigit 25 = .ok (.aload_n 0, 1) := by decide +kernel
theorem dX4_isDigit_26 : decode cX4_isDigit 26 = .ok (.getfield 9, 3) := by decide +kernel
theorem dX4_isDigit_29 : decode cX4_isDigit 29 = .ok (.aload_n 0, 1) := by decide +kernel
theorem dX4_isDigit_30 : decode cX4_isDigit 30 = .ok (.getfield 19, 3) := by decide +kernel
theorem dX4_isDigit_33 : decode cX4_isDigit 33 = .ok (.caload, 1) := by decide +kernel
theorem dX4_isDigit_34 : decode cX4_isDigit 34 = .ok (.bipush 57, 2) := by decide +kernel
theorem dX4_isDigit_36 : decode cX4_isDigit 36 = .ok (.if_icmp .gt 7, 3) := by decide +kernel
theorem dX4_isDigit_39 : decode cX4_isDigit 39 = .ok (.iconst 1, 1) := by decide +kernel
theorem dX4_isDigit_40 : decode cX4_isDigit 40 = .ok (.goto 4, 3) := by decide +kernel
theorem dX4_isDigit_43 : decode cX4_isDigit 43 = .ok (.iconst 0, 1) := by decide +kernel
theorem dX4_isDigit_44 : decode cX4_isDigit 44 = .ok (.ireturn, 1) := by decide +kernel
theorem dX4_readDigit_0 : decode cX4_readDigit 0 = .ok (.aload_n 0, 1) := by decide +kernel
theorem dX4_readDigit_1 : decode cX4_readDigit 1 = .ok (.getfield 9, 3) := by decide +kernel
theorem dX4_readDigit_4 : decode cX4_readDigit 4 = .ok (.aload_n 0, 1) := by decide +kernel
theorem dX4_readDigit_5 : decode cX4_readDigit 5 = .ok (.getfield 19, 3) := by decide +kernel
theorem dX4_readDigit_8 : decode cX4_readDigit 8 = .ok (.caload, 1) := by decide +kernel
theorem dX4_readDigit_9 : decode cX4_readDigit 9 = .ok (.bipush 48, 2) := by decide +kernel
theorem dX4_readDigit_11 : decode cX4_readDigit 11 = .ok (.isub, 1) := by decide +kernel
theorem dX4_readDigit_12 : decode cX4_readDigit 12 = .ok (.istore_n 1, 1) := by decide +kernel
theorem dX4_readDigit_13 : decode cX4_readDigit 13 = .ok (.aload_n 0, 1) := by decide +kernel
theorem dX4_readDigit_14 : decode cX4_readDigit 14 = .ok (.dup, 1) := by decide +kernel
theorem dX4_readDigit_15 : decode cX4_readDigit 15 = .ok (.getfield 19, 3) := by decide +kernel
theorem dX4_readDigit_18 : decode cX4_readDigit 18 = .ok (.iconst 1, 1) := by decide +kernel
theorem dX4_readDigit_19 : decode cX4_readDigit 19 = .ok (.iadd, 1) := by decide +kernel
theorem dX4_readDigit_20 : decode cX4_readDigit 20 = .ok (.putfield 19, 3) := by decide +kernel
theorem dX4_readDigit_23 : decode cX4_readDigit 23 = .ok (.iload_n 1, 1) := by decide +kernel
theorem dX4_readDigit_24 : decode cX4_readDigit 24 = .ok (.ireturn, 1) := by decide +kernel
theorem dX4_pass_0 : decode cX4_pass 0 = .ok (.aload_n 0, 1) := by decide +kernel
theorem dX4_pass_1 : decode cX4_pass 1 = .ok (.getfield 19, 3) := by decide +kernel
theorem dX4_pass_4 : decode cX4_pass 4 = .ok (.aload_n 0, 1) := by decide +kernel
theorem dX4_pass_5 : decode cX4_pass 5 = .ok (.getfield 15, 3) := by decide +kernel
theorem dX4_pass_8 : decode cX4_pass 8 = .ok (.if_icmp .ge 16, 3) := by decide +kernel
theorem dX4_pass_11 : decode cX4_pass 11 = .ok (.aload_n 0, 1) := by decide +kernel
theorem dX4_pass_12 : decode cX4_pass 12 = .ok (.getfield 9, 3) := by decide +kernel
theorem dX4_pass_15 : decode cX4_pass 15 = .ok (.aload_n 0, 1) := by decide +kernel
theorem dX4_pass_16 : decode cX4_pass 16 = .ok (.getfield 19, 3) := by decide +kernel
theorem dX4_pass_19 : decode cX4_pass 19 = .ok (.caload, 1) := by decide +kernel
theorem dX4_pass_20 : decode cX4_pass 20 = .ok (.iload_n 1, 1) := by decide +kernel
theorem dX4_pass_21 : decode cX4_pass 21 = .ok (.if_icmp .eq 5, 3) := by decide +kernel
theorem dX4_pass_24 : decode cX4_pass 24 = .ok (.iconst 0, 1) := by decide +kernel
theorem dX4_pass_25 : decode cX4_pass 25 = .ok (.ireturn, 1) := by decide +kernel
theorem dX4_pass_26 : decode cX4_pass 26 = .ok (.aload_n 0, 1) := by decide +kernel
theorem dX4_pass_27 : decode cX4_pass 27 = .ok (.dup, 1) := by decide +kernel
theorem dX4_pass_28 : decode cX4_pass 28 = .ok (.getfield 19, 3) := by decide +kernel
theorem dX4_pass_31 : decode cX4_pass 31 = .ok (.iconst 1, 1) := by decide +kernel
theorem dX4_pass_32 : decode cX4_pass 32 = .ok (.iadd, 1) := by decide +kernel
theorem dX4_pass_33 : decode cX4_pass 33 = .ok (.putfield 19, 3) := by decide +kernel
theorem dX4_pass_36 : decode cX4_pass 36 = .ok (.iconst 1, 1) := by decide +kernel
theorem dX4_pass_37 : decode cX4_pass 37 = .ok (.ireturn, 1) := by decide +kernel
theorem dX5_init_0 : decode cX5_init 0 = .ok (.aload_n 0, 1) := by decide +kernel
theorem dX5_init_1 : decode cX5_init 1 = .ok (.invokespecial 3, 3) := by decide +kernel
theorem dX5_init_4 : decode cX5_init 4 = .ok (.aload_n 0, 1) := by decide +kernel
theorem dX5_init_5 : decode cX5_init 5 = .ok (.bipush 11, 2) := by decide +kernel
theorem dX5_init_7 : decode cX5_init 7 = .ok (.newarray .int, 2) := by decide +kernel
theorem dX5_init_9 : decode cX5_init 9 = .ok (.putfield 9, 3) := by decide +kernel
theorem dX5_init_12 : decode cX5_init 12 = .ok (.aload_n 0, 1) := by decide +kernel
theorem dX5_init_13 : decode cX5_init 13 = .ok (.bipush 11, 2) := by decide +kernel
theorem dX5_init_15 : decode cX5_init 15 = .ok (.newarray .int, 2) := by decide +kernel
theorem dX5_init_17 : decode cX5_init 17 = .ok (.putfield 15, 3) := by decide +kernel
theorem dX5_init_20 : decode cX5_init 20 = .ok (.aload_n 0, 1) := by decide +kernel
theorem dX5_init_21 : decode cX5_init 21 = .ok (.aload_n 1, 1) := by decide +kernel
theorem dX5_init_22 : decode cX5_init 22 = .ok (.putfield 18, 3) := by decide +kernel
theorem dX5_init_25 : decode cX5_init 25 = .ok (.aload_n 0, 1) := by decide +kernel
theorem dX5_init_26 : decode cX5_init 26 = .ok (.aload_n 2, 1) := by decide +kernel
theorem dX5_init_27 : decode cX5_init 27 = .ok (.putfield 22, 3) := by decide +kernel
theorem dX5_init_30 : decode cX5_init 30 = .ok (.return_, 1) := by decide +kernel
set_option maxRecDepth 20000 in
theorem ggX5_between_X2_usable : GoodIn wsX5_between wsX2_usable := goodIn_r _ [6, 7, 8, 9, 10, 5, 11, 12, 17, 18] (by decide +kernel) (by decide +kernel)
set_option maxRecDepth 20000 in
theorem gX5_between_X2_usable : GoodIn wsX5_between (wsV RX5 26 RX2 yX2_usable wsX2_usable) := goodIn_app (goodIn_of _ (by decide +kernel)) ggX5_between_X2_usable
theorem dX5_between_0 : decode cX5_between 0 = .ok (.aload_n 0, 1) := by decide +kernel
theorem dX5_between_1 : decode cX5_between 1 = .ok (.getfield 18, 3) := by decide +kernel
theorem dX5_between_4 : decode cX5_between 4 = .ok (.invokevirtual 26, 3) := by decide +kernel
theorem dX5_between_7 : decode cX5_between 7 = .ok (.iconst 1, 1) := by decide +kernel
theorem dX5_between_8 : decode cX5_between 8 = .ok (.iload_n 2, 1) := by decide +kernel
theorem dX5_between_9 : decode cX5_between 9 = .ok (.ishl, 1) := by decide +kernel
theorem dX5_between_10 : decode cX5_between 10 = .ok (.iconst 1, 1) := by decide +kernel
theorem dX5_between_11 : decode cX5_between 11 = .ok (.iload_n 1, 1) := by decide +kernel
theorem dX5_between_12 : decode cX5_between 12 = .ok (.ishl, 1) := by decide +kernel
theorem dX5_between_13 : decode cX5_between 13 = .ok (.isub, 1) := by decide +kernel
theorem dX5_between_14 : decode cX5_between 14 = .ok (.iand, 1) := by decide +kernel
theorem dX5_between_15 : decode cX5_between 15 = .ok (.ireturn, 1) := by decide +kernel
set_option maxRecDepth 20000 in
theorem ggX5_isFitting_X0_layBest : GoodIn wsX5_isFitting wsX0_layBest := goodIn_r _ [6, 7, 8, 9, 10, 11, 5, 12, 13, 14, 15, 16, 17, 18, 19, 20, 21, 22, 23, 24, 25, 26, 27, 28, 29, 30, 31, 32, 33, 34, 35, 36, 37, 38, 39, 40, 41, 42, 43, 44, 45, 46, 52, 53, 54, 55, 56, 57] (by decide +kernel) (by decide +kernel)
set_option maxRecDepth 20000 in
theorem gX5_isFitting_X0_layBest : GoodIn wsX5_isFitting (wsV RX5 32 RX0 yX0_layBest wsX0_layBest) := goodIn_app (goodIn_of _ (by decide +kernel)) ggX5_isFitting_X0_layBest
set_option maxRecDepth 20000 in
theorem ggX5_isFitting_X0_missedOf : GoodIn wsX5_isFitting wsX0_missedOf := goodIn_r _ [19, 7, 8, 20, 21, 22, 23, 24, 25, 26, 27, 5, 28, 13, 14, 15, 29, 30, 31, 32, 33, 34, 35, 52, 53, 54, 55, 56, 57] (by decide +kernel) (by decide +kernel)
set_option maxRecDepth 20000 in
theorem gX5_isFitting_X0_missedOf : GoodIn wsX5_isFitting (wsV RX5 38 RX0 yX0_missedOf wsX0_missedOf) := goodIn_app (goodIn_of _ (by decide +kernel)) ggX5_isFitting_X0_missedOf
theorem dX5_isFitting_0 : decode cX5_isFitting 0 = .ok (.aload_n 0, 1) := by decide +kernel
theorem dX5_isFitting_1 : decode cX5_isFitting 1 = .ok (.getfield 22, 3) := by decide +kernel
theorem dX5_isFitting_4 : decode cX5_isFitting 4 = .ok (.iload_n 1, 1) := by decide +kernel
theorem dX5_isFitting_5 : decode cX5_isFitting 5 = .ok (.invokevirtual 32, 3) := by decide +kernel
theorem dX5_isFitting_8 : decode cX5_isFitting 8 = .ok (.ifCond .eq 14, 3) := by decide +kernel
theorem dX5_isFitting_11 : decode cX5_isFitting 11 = .ok (.aload_n 0, 1) := by decide +kernel
theorem dX5_isFitting_12 : decode cX5_isFitting 12 = .ok (.getfield 22, 3) := by decide +kernel
theorem dX5_isFitting_15 : decode cX5_isFitting 15 = .ok (.iload_n 1, 1) := by decide +kernel
theorem dX5_isFitting_16 : decode cX5_isFitting 16 = .ok (.invokevirtual 38, 3) := by decide +kernel
theorem dX5_isFitting_19 : decode cX5_isFitting 19 = .ok (.ifCond .ne 7, 3) := by decide +kernel
theorem dX5_isFitting_22 : decode cX5_isFitting 22 = .ok (.iconst 1, 1) := by decide +kernel
theorem dX5_isFitting_23 : decode cX5_isFitting 23 = .ok (.goto 4, 3) := by decide +kernel
theorem dX5_isFitting_26 : decode cX5_isFitting 26 = .ok (.iconst 0, 1) := by decide +kernel
theorem dX5_isFitting_27 : decode cX5_isFitting 27 = .ok (.ireturn, 1) := by decide +kernel
set_option maxRecDepth 20000 in
theorem ggX5_plan_X2_isUsable : GoodIn wsX5_plan wsX2_isUsable := goodIn_r _ [9, 10, 81, 82] (by decide +kernel) (by decide +kernel)
set_option maxRecDepth 20000 in
theorem gX5_plan_X2_isUsable : GoodIn wsX5_plan (wsV RX5 46 RX2 yX2_isUsable wsX2_isUsable) := goodIn_app (goodIn_of _ (by decide +kernel)) ggX5_plan_X2_isUsable
set_option maxRecDepth 20000 in
theorem ggX5_plan_X5_planFrom : GoodIn wsX5_plan wsX5_planFrom := goodIn_r _ [15, 1, 2, 3, 4, 16, 17, 18, 14, 19, 20, 21, 22, 8, 23, 24, 25, 6, 7, 9, 10, 26, 27, 28, 29, 30, 31, 32, 33, 34, 35, 36, 37, 38, 39, 40, 41, 42, 43, 44, 45, 46, 47, 48, 49, 50, 51, 52, 53, 54, 55, 56, 57, 58, 59, 60, 61, 62, 63, 64, 65, 66, 67, 68, 69, 70, 71, 72, 73, 74, 75, 76, 77, 78, 79, 80, 81, 82, 83, 84, 85, 86] (by decide +kernel) (by decide +kernel)
set_option maxRecDepth 20000 in
theorem gX5_plan_X5_planFrom : GoodIn wsX5_plan (wsV RX5 49 RX5 yX5_planFrom wsX5_planFrom) := goodIn_app (goodIn_of _ (by decide +kernel)) ggX5_plan_X5_planFrom
theorem dX5_plan_0 : decode cX5_plan 0 = .ok (.aload_n 0, 1) := by decide +kernel
theorem dX5_plan_1 : decode cX5_plan 1 = .ok (.getfield 9, 3) := by decide +kernel
theorem dX5_plan_4 : decode cX5_plan 4 = .ok (.aload_n 0, 1) := by decide +kernel
theorem dX5_plan_5 : decode cX5_plan 5 = .ok (.getfield 18, 3) := by decide +kernel
theorem dX5_plan_8 : decode cX5_plan 8 = .ok (.getfield 42, 3) := by decide +kernel
theorem dX5_plan_11 : decode cX5_plan 11 = .ok (.iconst 0, 1) := by decide +kernel
theorem dX5_plan_12 : decode cX5_plan 12 = .ok (.iastore, 1) := by decide +kernel
theorem dX5_plan_13 : decode cX5_plan 13 = .ok (.aload_n 0, 1) := by decide +kernel
theorem dX5_plan_14 : decode cX5_plan 14 = .ok (.getfield 15, 3) := by decide +kernel
theorem dX5_plan_17 : decode cX5_plan 17 = .ok (.aload_n 0, 1) := by decide +kernel
theorem dX5_plan_18 : decode cX5_plan 18 = .ok (.getfield 18, 3) := by decide +kernel
theorem dX5_plan_21 : decode cX5_plan 21 = .ok (.getfield 42, 3) := by decide +kernel
theorem dX5_plan_24 : decode cX5_plan 24 = .ok (.aload_n 0, 1) := by decide +kernel
theorem dX5_plan_25 : decode cX5_plan 25 = .ok (.getfield 18, 3) := by decide +kernel
theorem dX5_plan_28 : decode cX5_plan 28 = .ok (.getfield 42, 3) := by decide +kernel
theorem dX5_plan_31 : decode cX5_plan 31 = .ok (.iastore, 1) := by decide +kernel
theorem dX5_plan_32 : decode cX5_plan 32 = .ok (.aload_n 0, 1) := by decide +kernel
theorem dX5_plan_33 : decode cX5_plan 33 = .ok (.getfield 18, 3) := by decide +kernel
theorem dX5_plan_36 : decode cX5_plan 36 = .ok (.getfield 42, 3) := by decide +kernel
theorem dX5_plan_39 : decode cX5_plan 39 = .ok (.iconst 1, 1) := by decide +kernel
theorem dX5_plan_40 : decode cX5_plan 40 = .ok (.isub, 1) := by decide +kernel
theorem dX5_plan_41 : decode cX5_plan 41 = .ok (.istore_n 1, 1) := by decide +kernel
theorem dX5_plan_42 : decode cX5_plan 42 = .ok (.iload_n 1, 1) := by decide +kernel
theorem dX5_plan_43 : decode cX5_plan 43 = .ok (.ifCond .lt 56, 3) := by decide +kernel
theorem dX5_plan_46 : decode cX5_plan 46 = .ok (.aload_n 0, 1) := by decide +kernel
theorem dX5_plan_47 : decode cX5_plan 47 = .ok (.getfield 18, 3) := by decide +kernel
theorem dX5_plan_50 : decode cX5_plan 50 = .ok (.iload_n 1, 1) := by decide +kernel
theorem dX5_plan_51 : decode cX5_plan 51 = .ok (.invokevirtual 46, 3) := by decide +kernel
theorem dX5_plan_54 : decode cX5_plan 54 = .ok (.ifCond .eq 11, 3) := by decide +kernel
theorem dX5_plan_57 : decode cX5_plan 57 = .ok (.aload_n 0, 1) := by decide +kernel
theorem dX5_plan_58 : decode cX5_plan 58 = .ok (.iload_n 1, 1) := by decide +kernel
theorem dX5_plan_59 : decode cX5_plan 59 = .ok (.invokevirtual 49, 3) := by decide +kernel
theorem dX5_plan_62 : decode cX5_plan 62 = .ok (.goto 31, 3) := by decide +kernel
theorem dX5_plan_65 : decode cX5_plan 65 = .ok (.aload_n 0, 1) := by decide +kernel
theorem dX5_plan_66 : decode cX5_plan 66 = .ok (.getfield 9, 3) := by decide +kernel
theorem dX5_plan_69 : decode cX5_plan 69 = .ok (.iload_n 1, 1) := by decide +kernel
theorem dX5_plan_70 : decode cX5_plan 70 = .ok (.aload_n 0, 1) := by decide +kernel
theorem dX5_plan_71 : decode cX5_plan 71 = .ok (.getfield 9, 3) := by decide +kernel
theorem dX5_plan_74 : decode cX5_plan 74 = .ok (.iload_n 1, 1) := by decide +kernel
theorem dX5_plan_75 : decode cX5_plan 75 = .ok (.iconst 1, 1) := by decide +kernel
theorem dX5_plan_76 : decode cX5_plan 76 = .ok (.iadd, 1) := by decide +kernel
theorem dX5_plan_77 : decode cX5_plan 77 = .ok (.iaload, 1) := by decide +kernel
theorem dX5_plan_78 : decode cX5_plan 78 = .ok (.iastore, 1) := by decide +kernel
theorem dX5_plan_79 : decode cX5_plan 79 = .ok (.aload_n 0, 1) := by decide +kernel
theorem dX5_plan_80 : decode cX5_plan 80 = .ok (.getfield 15, 3) := by decide +kernel
theorem dX5_plan_83 : decode cX5_plan 83 = .ok (.iload_n 1, 1) := by decide +kernel
theorem dX5_plan_84 : decode cX5_plan 84 = .ok (.aload_n 0, 1) := by decide +kernel
theorem dX5_plan_85 : decode cX5_plan 85 = .ok (.getfield 15, 3) := by decide +kernel
theorem dX5_plan_88 : decode cX5_plan 88 = .ok (.iload_n 1, 1) := by decide +kernel
theorem dX5_plan_89 : decode cX5_plan 89 = .ok (.iconst 1, 1) := by decide +kernel
theorem dX5_plan_90 : decode cX5_plan 90 = .ok (.iadd, 1) := by decide +kernel
theorem dX5_plan_91 : decode cX5_plan 91 = .ok (.iaload, 1) := by decide +kernel
theorem dX5_plan_92 : decode cX5_plan 92 = .ok (.iastore, 1) := by decide +kernel
theorem dX5_plan_93 : decode cX5_plan 93 = .ok (.iinc 1 (-1), 3) := by decide +kernel
theorem dX5_plan_96 : decode cX5_plan 96 = .ok (.goto (-54), 3) := by decide +kernel
theorem dX5_plan_99 : decode cX5_plan 99 = .ok (.aload_n 0, 1) := by decide +kernel
theorem dX5_plan_100 : decode cX5_plan 100 = .ok (.getfield 9, 3) := by decide +kernel
theorem dX5_plan_103 : decode cX5_plan 103 = .ok (.iconst 0, 1) := by decide +kernel
theorem dX5_plan_104 : decode cX5_plan 104 = .ok (.iaload, 1) := by decide +kernel
theorem dX5_plan_105 : decode cX5_plan 105 = .ok (.ireturn, 1) := by decide +kernel
set_option maxRecDepth 20000 in
theorem ggX5_planFrom_X5_between : GoodIn wsX5_planFrom wsX5_between := goodIn_r _ [9, 2, 10, 11, 12, 13, 14, 15, 16, 17, 18, 19, 20, 72, 73, 74, 75, 76, 77] (by decide +kernel) (by decide +kernel)
set_option maxRecDepth 20000 in
theorem gX5_planFrom_X5_between : GoodIn wsX5_planFrom (wsV RX5 53 RX5 yX5_between wsX5_between) := goodIn_app (goodIn_of _ (by decide +kernel)) ggX5_planFrom_X5_between
set_option maxRecDepth 20000 in
theorem ggX5_planFrom_X5_isFitting : GoodIn wsX5_planFrom wsX5_isFitting := goodIn_r _ [24, 25, 26, 27, 28, 29, 30, 31, 32, 33, 34, 35, 36, 37, 38, 39, 40, 41, 42, 43, 44, 45, 46, 47, 48, 49, 50, 51, 52, 53, 54, 55, 56, 57, 58, 59, 60, 61, 62, 63, 64, 65, 66, 67, 68, 69, 70, 71, 72, 73, 74, 75, 78, 79, 80, 81, 76, 77] (by decide +kernel) (by decide +kernel)
set_option maxRecDepth 20000 in
theorem gX5_planFrom_X5_isFitting : GoodIn wsX5_planFrom (wsV RX5 57 RX5 yX5_isFitting wsX5_isFitting) := goodIn_app (goodIn_of _ (by decide +kernel)) ggX5_planFrom_X5_isFitting
theorem dX5_planFrom_0 : decode cX5_planFrom 0 = .ok (.aload_n 0, 1) := by decide +kernel
theorem dX5_planFrom_1 : decode cX5_planFrom 1 = .ok (.getfield 9, 3) := by decide +kernel
theorem dX5_planFrom_4 : decode cX5_planFrom 4 = .ok (.iload_n 1, 1) := by decide +kernel
theorem dX5_planFrom_5 : decode cX5_planFrom 5 = .ok (.bipush 11, 2) := by decide +kernel
theorem dX5_planFrom_7 : decode cX5_planFrom 7 = .ok (.iastore, 1) := by decide +kernel
theorem dX5_planFrom_8 : decode cX5_planFrom 8 = .ok (.iload_n 1, 1) := by decide +kernel
theorem dX5_planFrom_9 : decode cX5_planFrom 9 = .ok (.iconst 1, 1) := by decide +kernel
theorem dX5_planFrom_10 : decode cX5_planFrom 10 = .ok (.iadd, 1) := by decide +kernel
theorem dX5_planFrom_11 : decode cX5_planFrom 11 = .ok (.istore_n 2, 1) := by decide +kernel
theorem dX5_planFrom_12 : decode cX5_planFrom 12 = .ok (.iload_n 2, 1) := by decide +kernel
theorem dX5_planFrom_13 : decode cX5_planFrom 13 = .ok (.aload_n 0, 1) := by decide +kernel
theorem dX5_planFrom_14 : decode cX5_planFrom 14 = .ok (.getfield 18, 3) := by decide +kernel
theorem dX5_planFrom_17 : decode cX5_planFrom 17 = .ok (.getfield 42, 3) := by decide +kernel
theorem dX5_planFrom_20 : decode cX5_planFrom 20 = .ok (.if_icmp .gt 60, 3) := by decide +kernel
theorem dX5_planFrom_23 : decode cX5_planFrom 23 = .ok (.iconst 1, 1) := by decide +kernel
theorem dX5_planFrom_24 : decode cX5_planFrom 24 = .ok (.aload_n 0, 1) := by decide +kernel
theorem dX5_planFrom_25 : decode cX5_planFrom 25 = .ok (.getfield 9, 3) := by decide +kernel
theorem dX5_planFrom_28 : decode cX5_planFrom 28 = .ok (.iload_n 2, 1) := by decide +kernel
theorem dX5_planFrom_29 : decode cX5_planFrom 29 = .ok (.iaload, 1) := by decide +kernel
theorem dX5_planFrom_30 : decode cX5_planFrom 30 = .ok (.iadd, 1) := by decide +kernel
theorem dX5_planFrom_31 : decode cX5_planFrom 31 = .ok (.aload_n 0, 1) := by decide +kernel
theorem dX5_planFrom_32 : decode cX5_planFrom 32 = .ok (.getfield 9, 3) := by decide +kernel
theorem dX5_planFrom_35 : decode cX5_planFrom 35 = .ok (.iload_n 1, 1) := by decide +kernel
theorem dX5_planFrom_36 : decode cX5_planFrom 36 = .ok (.iaload, 1) := by decide +kernel
theorem dX5_planFrom_37 : decode cX5_planFrom 37 = .ok (.if_icmp .gt 37, 3) := by decide +kernel
theorem dX5_planFrom_40 : decode cX5_planFrom 40 = .ok (.aload_n 0, 1) := by decide +kernel
theorem dX5_planFrom_41 : decode cX5_planFrom 41 = .ok (.aload_n 0, 1) := by decide +kernel
theorem dX5_planFrom_42 : decode cX5_planFrom 42 = .ok (.iload_n 1, 1) := by decide +kernel
theorem dX5_planFrom_43 : decode cX5_planFrom 43 = .ok (.iload_n 2, 1) := by decide +kernel
theorem dX5_planFrom_44 : decode cX5_planFrom 44 = .ok (.invokevirtual 53, 3) := by decide +kernel
theorem dX5_planFrom_47 : decode cX5_planFrom 47 = .ok (.invokevirtual 57, 3) := by decide +kernel
theorem dX5_planFrom_50 : decode cX5_planFrom 50 = .ok (.ifCond .eq 24, 3) := by decide +kernel
theorem dX5_planFrom_53 : decode cX5_planFrom 53 = .ok (.aload_n 0, 1) := by decide +kernel
theorem dX5_planFrom_54 : decode cX5_planFrom 54 = .ok (.getfield 9, 3) := by decide +kernel
theorem dX5_planFrom_57 : decode cX5_planFrom 57 = .ok (.iload_n 1, 1) := by decide +kernel
theorem dX5_planFrom_58 : decode cX5_planFrom 58 = .ok (.iconst 1, 1) := by decide +kernel
theorem dX5_planFrom_59 : decode cX5_planFrom 59 = .ok (.aload_n 0, 1) := by decide +kernel
theorem dX5_planFrom_60 : decode cX5_planFrom 60 = .ok (.getfield 9, 3) := by decide +kernel
theorem dX5_planFrom_63 : decode cX5_planFrom 63 = .ok (.iload_n 2, 1) := by decide +kernel
theorem dX5_planFrom_64 : decode cX5_planFrom 64 = .ok (.iaload, 1) := by decide +kernel
theorem dX5_planFrom_65 : decode cX5_planFrom 65 = .ok (.iadd, 1) := by decide +kernel
theorem dX5_planFrom_66 : decode cX5_planFrom 66 = .ok (.iastore, 1) := by decide +kernel
theorem dX5_planFrom_67 : decode cX5_planFrom 67 = .ok (.aload_n 0, 1) := by decide +kernel
theorem dX5_planFrom_68 : decode cX5_planFrom 68 = .ok (.getfield 15, 3) := by decide +kernel
theorem dX5_planFrom_71 : decode cX5_planFrom 71 = .ok (.iload_n 1, 1) := by decide +kernel
theorem dX5_planFrom_72 : decode cX5_planFrom 72 = .ok (.iload_n 2, 1) := by decide +kernel
theorem dX5_planFrom_73 : decode cX5_planFrom 73 = .ok (.iastore, 1) := by decide +kernel
theorem dX5_planFrom_74 : decode cX5_planFrom 74 = .ok (.iinc 2 1, 3) := by decide +kernel
theorem dX5_planFrom_77 : decode cX5_planFrom 77 = .ok (.goto (-65), 3) := by decide +kernel
theorem dX5_planFrom_80 : decode cX5_planFrom 80 = .ok (.return_, 1) := by decide +kernel
set_option maxRecDepth 20000 in
theorem ggX5_rowAt_X5_between : GoodIn wsX5_rowAt wsX5_between := goodIn_r _ [8, 1, 9, 10, 11, 12, 13, 14, 15, 16, 17, 18, 19, 20, 21, 22, 23, 24, 25] (by decide +kernel) (by decide +kernel)
set_option maxRecDepth 20000 in
theorem gX5_rowAt_X5_between : GoodIn wsX5_rowAt (wsV RX5 53 RX5 yX5_between wsX5_between) := goodIn_app (goodIn_of _ (by decide +kernel)) ggX5_rowAt_X5_between
theorem dX5_rowAt_0 : decode cX5_rowAt 0 = .ok (.iconst 0, 1) := by decide +kernel
theorem dX5_rowAt_1 : decode cX5_rowAt 1 = .ok (.istore_n 2, 1) := by decide +kernel
theorem dX5_rowAt_2 : decode cX5_rowAt 2 = .ok (.iconst 0, 1) := by decide +kernel
theorem dX5_rowAt_3 : decode cX5_rowAt 3 = .ok (.istore_n 3, 1) := by decide +kernel
theorem dX5_rowAt_4 : decode cX5_rowAt 4 = .ok (.iload_n 3, 1) := by decide +kernel
theorem dX5_rowAt_5 : decode cX5_rowAt 5 = .ok (.iload_n 1, 1) := by decide +kernel
theorem dX5_rowAt_6 : decode cX5_rowAt 6 = .ok (.if_icmp .ge 27, 3) := by decide +kernel
theorem dX5_rowAt_9 : decode cX5_rowAt 9 = .ok (.iload_n 2, 1) := by decide +kernel
theorem dX5_rowAt_10 : decode cX5_rowAt 10 = .ok (.aload_n 0, 1) := by decide +kernel
theorem dX5_rowAt_11 : decode cX5_rowAt 11 = .ok (.getfield 18, 3) := by decide +kernel
theorem dX5_rowAt_14 : decode cX5_rowAt 14 = .ok (.getfield 42, 3) := by decide +kernel
theorem dX5_rowAt_17 : decode cX5_rowAt 17 = .ok (.if_icmp .ge 16, 3) := by decide +kernel
theorem dX5_rowAt_20 : decode cX5_rowAt 20 = .ok (.aload_n 0, 1) := by decide +kernel
theorem dX5_rowAt_21 : decode cX5_rowAt 21 = .ok (.getfield 15, 3) := by decide +kernel
theorem dX5_rowAt_24 : decode cX5_rowAt 24 = .ok (.iload_n 2, 1) := by decide +kernel
theorem dX5_rowAt_25 : decode cX5_rowAt 25 = .ok (.iaload, 1) := by decide +kernel
theorem dX5_rowAt_26 : decode cX5_rowAt 26 = .ok (.istore_n 2, 1) := by decide +kernel
theorem dX5_rowAt_27 : decode cX5_rowAt 27 = .ok (.iinc 3 1, 3) := by decide +kernel
theorem dX5_rowAt_30 : decode cX5_rowAt 30 = .ok (.goto (-26), 3) := by decide +kernel
theorem dX5_rowAt_33 : decode cX5_rowAt 33 = .ok (.aload_n 0, 1) := by decide +kernel
theorem dX5_rowAt_34 : decode cX5_rowAt 34 = .ok (.iload_n 2, 1) := by decide +kernel
theorem dX5_rowAt_35 : decode cX5_rowAt 35 = .ok (.aload_n 0, 1) := by decide +kernel
theorem dX5_rowAt_36 : decode cX5_rowAt 36 = .ok (.getfield 15, 3) := by decide +kernel
theorem dX5_rowAt_39 : decode cX5_rowAt 39 = .ok (.iload_n 2, 1) := by decide +kernel
theorem dX5_rowAt_40 : decode cX5_rowAt 40 = .ok (.iaload, 1) := by decide +kernel
theorem dX5_rowAt_41 : decode cX5_rowAt 41 = .ok (.invokevirtual 53, 3) := by decide +kernel
theorem dX5_rowAt_44 : decode cX5_rowAt 44 = .ok (.ireturn, 1) := by decide +kernel
set_option maxRecDepth 20000 in
theorem ggX6_init_X2_init : GoodIn wsX6_init wsX2_init := goodIn_r _ [32, 33, 2, 3, 34, 17, 35, 65, 66] (by decide +kernel) (by decide +kernel)
set_option maxRecDepth 20000 in
theorem gX6_init_X2_init_n9 : GoodIn wsX6_init (wsX2_init) := ggX6_init_X2_init
set_option maxRecDepth 20000 in
theorem ggX6_init_X1_init : GoodIn wsX6_init wsX1_init := goodIn_r _ [38, 39, 2, 3, 40, 41, 5, 6, 31, 32, 33, 34, 17, 35, 76, 77, 65, 66] (by decide +kernel) (by decide +kernel)
set_option maxRecDepth 20000 in
theorem gX6_init_X1_init : GoodIn wsX6_init (wsX1_init) := ggX6_init_X1_init
set_option maxRecDepth 20000 in
theorem ggX6_init_X4_init : GoodIn wsX6_init wsX4_init := goodIn_r _ [43, 44, 2, 3, 45, 46, 78, 79, 80, 81] (by decide +kernel) (by decide +kernel)
set_option maxRecDepth 20000 in
theorem gX6_init_X4_init_n28 : GoodIn wsX6_init (wsX4_init) := ggX6_init_X4_init
set_option maxRecDepth 20000 in
theorem ggX6_init_X0_init : GoodIn wsX6_init wsX0_init := goodIn_r _ [49, 50, 2, 3, 51, 82, 83, 84, 85] (by decide +kernel) (by decide +kernel)
set_option maxRecDepth 20000 in
theorem gX6_init_X0_init : GoodIn wsX6_init (wsX0_init) := ggX6_init_X0_init
set_option maxRecDepth 20000 in
theorem ggX6_init_X5_init : GoodIn wsX6_init wsX5_init := goodIn_r _ [54, 55, 2, 3, 17, 56, 57, 58, 59, 86, 87, 88, 89] (by decide +kernel) (by decide +kernel)
set_option maxRecDepth 20000 in
theorem gX6_init_X5_init : GoodIn wsX6_init (wsX5_init) := ggX6_init_X5_init
set_option maxRecDepth 20000 in
theorem ggX6_init_X3_init : GoodIn wsX6_init wsX3_init := goodIn_r _ [62, 63, 2, 3, 64, 90, 91, 92, 93] (by decide +kernel) (by decide +kernel)
set_option maxRecDepth 20000 in
theorem gX6_init_X3_init : GoodIn wsX6_init (wsX3_init) := ggX6_init_X3_init
theorem dX6_init_0 : decode cX6_init 0 = .ok (.aload_n 0, 1) := by decide +kernel
theorem dX6_init_1 : decode cX6_init 1 = .ok (.invokespecial 1, 3) := by decide +kernel
theorem dX6_init_4 : decode cX6_init 4 = .ok (.aload_n 0, 1) := by decide +kernel
theorem dX6_init_5 : decode cX6_init 5 = .ok (.new 7, 3) := by decide +kernel
theorem dX6_init_8 : decode cX6_init 8 = .ok (.dup, 1) := by decide +kernel
theorem dX6_init_9 : decode cX6_init 9 = .ok (.invokespecial 9, 3) := by decide +kernel
theorem dX6_init_12 : decode cX6_init 12 = .ok (.putfield 10, 3) := by decide +kernel
theorem dX6_init_15 : decode cX6_init 15 = .ok (.aload_n 0, 1) := by decide +kernel
theorem dX6_init_16 : decode cX6_init 16 = .ok (.new 7, 3) := by decide +kernel
theorem dX6_init_19 : decode cX6_init 19 = .ok (.dup, 1) := by decide +kernel
theorem dX6_init_20 : decode cX6_init 20 = .ok (.invokespecial 9, 3) := by decide +kernel
theorem dX6_init_23 : decode cX6_init 23 = .ok (.putfield 16, 3) := by decide +kernel
theorem dX6_init_26 : decode cX6_init 26 = .ok (.aload_n 0, 1) := by decide +kernel
theorem dX6_init_27 : decode cX6_init 27 = .ok (.new 19, 3) := by decide +kernel
theorem dX6_init_30 : decode cX6_init 30 = .ok (.dup, 1) := by decide +kernel
theorem dX6_init_31 : decode cX6_init 31 = .ok (.invokespecial 21, 3) := by decide +kernel
theorem dX6_init_34 : decode cX6_init 34 = .ok (.putfield 22, 3) := by decide +kernel
theorem dX6_init_37 : decode cX6_init 37 = .ok (.aload_n 0, 1) := by decide +kernel
theorem dX6_init_38 : decode cX6_init 38 = .ok (.new 26, 3) := by decide +kernel
theorem dX6_init_41 : decode cX6_init 41 = .ok (.dup, 1) := by decide +kernel
theorem dX6_init_42 : decode cX6_init 42 = .ok (.invokespecial 28, 3) := by decide +kernel
theorem dX6_init_45 : decode cX6_init 45 = .ok (.putfield 29, 3) := by decide +kernel
theorem dX6_init_48 : decode cX6_init 48 = .ok (.aload_n 0, 1) := by decide +kernel
theorem dX6_init_49 : decode cX6_init 49 = .ok (.bipush 6, 2) := by decide +kernel
theorem dX6_init_51 : decode cX6_init 51 = .ok (.newarray .int, 2) := by decide +kernel
theorem dX6_init_53 : decode cX6_init 53 = .ok (.putfield 33, 3) := by decide +kernel
theorem dX6_init_56 : decode cX6_init 56 = .ok (.aload_n 0, 1) := by decide +kernel
theorem dX6_init_57 : decode cX6_init 57 = .ok (.new 37, 3) := by decide +kernel
theorem dX6_init_60 : decode cX6_init 60 = .ok (.dup, 1) := by decide +kernel
theorem dX6_init_61 : decode cX6_init 61 = .ok (.aload_n 0, 1) := by decide +kernel
theorem dX6_init_62 : decode cX6_init 62 = .ok (.getfield 10, 3) := by decide +kernel
theorem dX6_init_65 : decode cX6_init 65 = .ok (.invokespecial 39, 3) := by decide +kernel
theorem dX6_init_68 : decode cX6_init 68 = .ok (.putfield 42, 3) := by decide +kernel
theorem dX6_init_71 : decode cX6_init 71 = .ok (.aload_n 0, 1) := by decide +kernel
theorem dX6_init_72 : decode cX6_init 72 = .ok (.new 46, 3) := by decide +kernel
theorem dX6_init_75 : decode cX6_init 75 = .ok (.dup, 1) := by decide +kernel
theorem dX6_init_76 : decode cX6_init 76 = .ok (.aload_n 0, 1) := by decide +kernel
theorem dX6_init_77 : decode cX6_init 77 = .ok (.getfield 10, 3) := by decide +kernel
theorem dX6_init_80 : decode cX6_init 80 = .ok (.aload_n 0, 1) := by decide +kernel
theorem dX6_init_81 : decode cX6_init 81 = .ok (.getfield 42, 3) := by decide +kernel
theorem dX6_init_84 : decode cX6_init 84 = .ok (.invokespecial 48, 3) := by decide +kernel
theorem dX6_init_87 : decode cX6_init 87 = .ok (.putfield 51, 3) := by decide +kernel
theorem dX6_init_90 : decode cX6_init 90 = .ok (.aload_n 0, 1) := by decide +kernel
theorem dX6_init_91 : decode cX6_init 91 = .ok (.new 55, 3) := by decide +kernel
theorem dX6_init_94 : decode cX6_init 94 = .ok (.dup, 1) := by decide +kernel
theorem dX6_init_95 : decode cX6_init 95 = .ok (.aload_n 0, 1) := by decide +kernel
theorem dX6_init_96 : decode cX6_init 96 = .ok (.getfield 10, 3) := by decide +kernel
theorem dX6_init_99 : decode cX6_init 99 = .ok (.invokespecial 57, 3) := by decide +kernel
theorem dX6_init_102 : decode cX6_init 102 = .ok (.putfield 58, 3) := by decide +kernel
theorem dX6_init_105 : decode cX6_init 105 = .ok (.return_, 1) := by decide +kernel
set_option maxRecDepth 20000 in
theorem ggX6_addPhoto_X6_toldIsInRange : GoodIn wsX6_addPhoto wsX6_toldIsInRange := goodIn_r _ [6, 1, 7, 8, 5, 9, 48, 49, 50, 51, 52, 53, 54, 55, 56] (by decide +kernel) (by decide +kernel)
set_option maxRecDepth 20000 in
theorem gX6_addPhoto_X6_toldIsInRange : GoodIn wsX6_addPhoto (wsV RX6 62 RX6 yX6_toldIsInRange wsX6_toldIsInRange) := goodIn_app (goodIn_of _ (by decide +kernel)) ggX6_addPhoto_X6_toldIsInRange
set_option maxRecDepth 20000 in
theorem ggX6_addPhoto_X6_addTold : GoodIn wsX6_addPhoto wsX6_addTold := goodIn_r _ [13, 14, 1, 15, 16, 17, 18, 19, 20, 21, 22, 23, 24, 25, 26, 27, 28, 29, 30, 31, 32, 33, 34, 35, 36, 37, 38, 39, 40, 41, 42, 43, 44, 45, 46, 47, 48, 49, 50, 51, 52, 53, 54, 55, 56, 57, 58, 59, 60] (by decide +kernel) (by decide +kernel)
set_option maxRecDepth 20000 in
theorem gX6_addPhoto_X6_addTold : GoodIn wsX6_addPhoto (wsV RX6 66 RX6 yX6_addTold wsX6_addTold) := goodIn_app (goodIn_of _ (by decide +kernel)) ggX6_addPhoto_X6_addTold
theorem dX6_addPhoto_0 : decode cX6_addPhoto 0 = .ok (.aload_n 0, 1) := by decide +kernel
theorem dX6_addPhoto_1 : decode cX6_addPhoto 1 = .ok (.getfield 33, 3) := by decide +kernel
theorem dX6_addPhoto_4 : decode cX6_addPhoto 4 = .ok (.iconst 0, 1) := by decide +kernel
theorem dX6_addPhoto_5 : decode cX6_addPhoto 5 = .ok (.iload_n 1, 1) := by decide +kernel
theorem dX6_addPhoto_6 : decode cX6_addPhoto 6 = .ok (.iastore, 1) := by decide +kernel
theorem dX6_addPhoto_7 : decode cX6_addPhoto 7 = .ok (.aload_n 0, 1) := by decide +kernel
theorem dX6_addPhoto_8 : decode cX6_addPhoto 8 = .ok (.getfield 33, 3) := by decide +kernel
theorem dX6_addPhoto_11 : decode cX6_addPhoto 11 = .ok (.iconst 1, 1) := by decide +kernel
theorem dX6_addPhoto_12 : decode cX6_addPhoto 12 = .ok (.iload_n 2, 1) := by decide +kernel
theorem dX6_addPhoto_13 : decode cX6_addPhoto 13 = .ok (.iastore, 1) := by decide +kernel
theorem dX6_addPhoto_14 : decode cX6_addPhoto 14 = .ok (.aload_n 0, 1) := by decide +kernel
theorem dX6_addPhoto_15 : decode cX6_addPhoto 15 = .ok (.getfield 33, 3) := by decide +kernel
theorem dX6_addPhoto_18 : decode cX6_addPhoto 18 = .ok (.iconst 2, 1) := by decide +kernel
theorem dX6_addPhoto_19 : decode cX6_addPhoto 19 = .ok (.iload_n 3, 1) := by decide +kernel
theorem dX6_addPhoto_20 : decode cX6_addPhoto 20 = .ok (.iastore, 1) := by decide +kernel
theorem dX6_addPhoto_21 : decode cX6_addPhoto 21 = .ok (.aload_n 0, 1) := by decide +kernel
theorem dX6_addPhoto_22 : decode cX6_addPhoto 22 = .ok (.getfield 33, 3) := by decide +kernel
theorem dX6_addPhoto_25 : decode cX6_addPhoto 25 = .ok (.iconst 3, 1) := by decide +kernel
theorem dX6_addPhoto_26 : decode cX6_addPhoto 26 = .ok (.iload 4, 2) := by decide +kernel
theorem dX6_addPhoto_28 : decode cX6_addPhoto 28 = .ok (.iastore, 1) := by decide +kernel
theorem dX6_addPhoto_29 : decode cX6_addPhoto 29 = .ok (.aload_n 0, 1) := by decide +kernel
theorem dX6_addPhoto_30 : decode cX6_addPhoto 30 = .ok (.getfield 33, 3) := by decide +kernel
theorem dX6_addPhoto_33 : decode cX6_addPhoto 33 = .ok (.iconst 4, 1) := by decide +kernel
theorem dX6_addPhoto_34 : decode cX6_addPhoto 34 = .ok (.sipush 360, 3) := by decide +kernel
theorem dX6_addPhoto_37 : decode cX6_addPhoto 37 = .ok (.iastore, 1) := by decide +kernel
theorem dX6_addPhoto_38 : decode cX6_addPhoto 38 = .ok (.aload_n 0, 1) := by decide +kernel
theorem dX6_addPhoto_39 : decode cX6_addPhoto 39 = .ok (.getfield 33, 3) := by decide +kernel
theorem dX6_addPhoto_42 : decode cX6_addPhoto 42 = .ok (.iconst 5, 1) := by decide +kernel
theorem dX6_addPhoto_43 : decode cX6_addPhoto 43 = .ok (.iconst 0, 1) := by decide +kernel
theorem dX6_addPhoto_44 : decode cX6_addPhoto 44 = .ok (.iastore, 1) := by decide +kernel
theorem dX6_addPhoto_45 : decode cX6_addPhoto 45 = .ok (.aload_n 0, 1) := by decide +kernel
theorem dX6_addPhoto_46 : decode cX6_addPhoto 46 = .ok (.invokevirtual 62, 3) := by decide +kernel
theorem dX6_addPhoto_49 : decode cX6_addPhoto 49 = .ok (.ifCond .eq 10, 3) := by decide +kernel
theorem dX6_addPhoto_52 : decode cX6_addPhoto 52 = .ok (.aload_n 0, 1) := by decide +kernel
theorem dX6_addPhoto_53 : decode cX6_addPhoto 53 = .ok (.invokevirtual 66, 3) := by decide +kernel
theorem dX6_addPhoto_56 : decode cX6_addPhoto 56 = .ok (.goto 5, 3) := by decide +kernel
theorem dX6_addPhoto_59 : decode cX6_addPhoto 59 = .ok (.bipush (-2), 2) := by decide +kernel
theorem dX6_addPhoto_61 : decode cX6_addPhoto 61 = .ok (.ireturn, 1) := by decide +kernel
set_option maxRecDepth 20000 in
theorem ggX6_readPhoto_X4_readInto : GoodIn wsX6_readPhoto wsX4_readInto := goodIn_r _ [9, 10, 11, 12, 13, 14, 15, 8, 16, 17, 18, 19, 20, 21, 22, 23, 24, 25, 26, 27, 28, 29, 30, 31, 32, 33, 89, 90, 91, 92] (by decide +kernel) (by decide +kernel)
set_option maxRecDepth 20000 in
theorem gX6_readPhoto_X4_readInto : GoodIn wsX6_readPhoto (wsV RX6 70 RX4 yX4_readInto wsX4_readInto) := goodIn_app (goodIn_of _ (by decide +kernel)) ggX6_readPhoto_X4_readInto
set_option maxRecDepth 20000 in
theorem ggX6_readPhoto_X6_toldIsInRange : GoodIn wsX6_readPhoto wsX6_toldIsInRange := goodIn_r _ [38, 2, 39, 40, 37, 41, 80, 81, 82, 83, 84, 85, 86, 87, 88] (by decide +kernel) (by decide +kernel)
set_option maxRecDepth 20000 in
theorem gX6_readPhoto_X6_toldIsInRange : GoodIn wsX6_readPhoto (wsV RX6 62 RX6 yX6_toldIsInRange wsX6_toldIsInRange) := goodIn_app (goodIn_of _ (by decide +kernel)) ggX6_readPhoto_X6_toldIsInRange
set_option maxRecDepth 20000 in
theorem ggX6_readPhoto_X6_addTold : GoodIn wsX6_readPhoto wsX6_addTold := goodIn_r _ [45, 46, 2, 47, 48, 49, 50, 51, 52, 53, 54, 55, 56, 57, 58, 59, 60, 61, 62, 63, 64, 65, 66, 67, 68, 69, 70, 71, 72, 73, 74, 75, 76, 77, 78, 79, 80, 81, 82, 83, 84, 85, 86, 87, 88, 93, 94, 95, 96] (by decide +kernel) (by decide +kernel)
set_option maxRecDepth 20000 in
theorem gX6_readPhoto_X6_addTold : GoodIn wsX6_readPhoto (wsV RX6 66 RX6 yX6_addTold wsX6_addTold) := goodIn_app (goodIn_of _ (by decide +kernel)) ggX6_readPhoto_X6_addTold
theorem dX6_readPhoto_0 : decode cX6_readPhoto 0 = .ok (.aload_n 0, 1) := by decide +kernel
theorem dX6_readPhoto_1 : decode cX6_readPhoto 1 = .ok (.getfield 29, 3) := by decide +kernel
theorem dX6_readPhoto_4 : decode cX6_readPhoto 4 = .ok (.aload_n 0, 1) := by decide +kernel
theorem dX6_readPhoto_5 : decode cX6_readPhoto 5 = .ok (.getfield 33, 3) := by decide +kernel
theorem dX6_readPhoto_8 : decode cX6_readPhoto 8 = .ok (.invokevirtual 70, 3) := by decide +kernel
theorem dX6_readPhoto_11 : decode cX6_readPhoto 11 = .ok (.ifCond .ne 14, 3) := by decide +kernel
theorem dX6_readPhoto_14 : decode cX6_readPhoto 14 = .ok (.bipush (-100), 2) := by decide +kernel
theorem dX6_readPhoto_16 : decode cX6_readPhoto 16 = .ok (.aload_n 0, 1) := by decide +kernel
theorem dX6_readPhoto_17 : decode cX6_readPhoto 17 = .ok (.getfield 29, 3) := by decide +kernel
theorem dX6_readPhoto_20 : decode cX6_readPhoto 20 = .ok (.getfield 74, 3) := by decide +kernel
theorem dX6_readPhoto_23 : decode cX6_readPhoto 23 = .ok (.isub, 1) := by decide +kernel
theorem dX6_readPhoto_24 : decode cX6_readPhoto 24 = .ok (.ireturn, 1) := by decide +kernel
theorem dX6_readPhoto_25 : decode cX6_readPhoto 25 = .ok (.aload_n 0, 1) := by decide +kernel
theorem dX6_readPhoto_26 : decode cX6_readPhoto 26 = .ok (.invokevirtual 62, 3) := by decide +kernel
theorem dX6_readPhoto_29 : decode cX6_readPhoto 29 = .ok (.ifCond .eq 25, 3) := by decide +kernel
theorem dX6_readPhoto_32 : decode cX6_readPhoto 32 = .ok (.aload_n 0, 1) := by decide +kernel
theorem dX6_readPhoto_33 : decode cX6_readPhoto 33 = .ok (.getfield 29, 3) := by decide +kernel
theorem dX6_readPhoto_36 : decode cX6_readPhoto 36 = .ok (.getfield 78, 3) := by decide +kernel
theorem dX6_readPhoto_39 : decode cX6_readPhoto 39 = .ok (.ifCond .eq 18, 3) := by decide +kernel
theorem dX6_readPhoto_42 : decode cX6_readPhoto 42 = .ok (.aload_n 0, 1) := by decide +kernel
theorem dX6_readPhoto_43 : decode cX6_readPhoto 43 = .ok (.getfield 33, 3) := by decide +kernel
theorem dX6_readPhoto_46 : decode cX6_readPhoto 46 = .ok (.iconst 4, 1) := by decide +kernel
theorem dX6_readPhoto_47 : decode cX6_readPhoto 47 = .ok (.iaload, 1) := by decide +kernel
theorem dX6_readPhoto_48 : decode cX6_readPhoto 48 = .ok (.sipush 360, 3) := by decide +kernel
theorem dX6_readPhoto_51 : decode cX6_readPhoto 51 = .ok (.if_icmp .ne 6, 3) := by decide +kernel
theorem dX6_readPhoto_54 : decode cX6_readPhoto 54 = .ok (.bipush (-2), 2) := by decide +kernel
theorem dX6_readPhoto_56 : decode cX6_readPhoto 56 = .ok (.ireturn, 1) := by decide +kernel
theorem dX6_readPhoto_57 : decode cX6_readPhoto 57 = .ok (.aload_n 0, 1) := by decide +kernel
theorem dX6_readPhoto_58 : decode cX6_readPhoto 58 = .ok (.invokevirtual 66, 3) := by decide +kernel
theorem dX6_readPhoto_61 : decode cX6_readPhoto 61 = .ok (.ireturn, 1) := by decide +kernel
set_option maxRecDepth 20000 in
theorem ggX6_setAngle_X2_holds : GoodIn wsX6_setAngle wsX2_holds := goodIn_r _ [8, 9, 43, 44] (by decide +kernel) (by decide +kernel)
set_option maxRecDepth 20000 in
theorem gX6_setAngle_X2_holds : GoodIn wsX6_setAngle (wsV RX6 82 RX2 yX2_holds wsX2_holds) := goodIn_app (goodIn_of _ (by decide +kernel)) ggX6_setAngle_X2_holds
set_option maxRecDepth 20000 in
theorem ggX6_setAngle_X6_isWithin : GoodIn wsX6_setAngle wsX6_isWithin := goodIn_r _ [13] (by decide +kernel) (by decide +kernel)
set_option maxRecDepth 20000 in
theorem gX6_setAngle_X6_isWithin : GoodIn wsX6_setAngle (va_wsS RX6 86 yX6_isWithin wsX6_isWithin) := goodIn_app (goodIn_of _ (by decide +kernel)) ggX6_setAngle_X6_isWithin
set_option maxRecDepth 20000 in
theorem ggX6_setAngle_X1_record : GoodIn wsX6_setAngle wsX1_record := goodIn_r _ [18, 19, 20, 21, 22, 23, 17, 24, 25, 26, 27, 7, 28, 29, 30, 31, 32, 33, 9, 45, 46, 43, 44] (by decide +kernel) (by decide +kernel)
set_option maxRecDepth 20000 in
theorem gX6_setAngle_X1_record : GoodIn wsX6_setAngle (wsV RX6 94 RX1 yX1_record wsX1_record) := goodIn_app (goodIn_of _ (by decide +kernel)) ggX6_setAngle_X1_record
theorem dX6_setAngle_0 : decode cX6_setAngle 0 = .ok (.aload_n 0, 1) := by decide +kernel
theorem dX6_setAngle_1 : decode cX6_setAngle 1 = .ok (.getfield 10, 3) := by decide +kernel
theorem dX6_setAngle_4 : decode cX6_setAngle 4 = .ok (.iload_n 1, 1) := by decide +kernel
theorem dX6_setAngle_5 : decode cX6_setAngle 5 = .ok (.invokevirtual 82, 3) := by decide +kernel
theorem dX6_setAngle_8 : decode cX6_setAngle 8 = .ok (.ifCond .ne 5, 3) := by decide +kernel
theorem dX6_setAngle_11 : decode cX6_setAngle 11 = .ok (.iconst (-1), 1) := by decide +kernel
theorem dX6_setAngle_12 : decode cX6_setAngle 12 = .ok (.ireturn, 1) := by decide +kernel
theorem dX6_setAngle_13 : decode cX6_setAngle 13 = .ok (.iload_n 2, 1) := by decide +kernel
theorem dX6_setAngle_14 : decode cX6_setAngle 14 = .ok (.iconst 0, 1) := by decide +kernel
theorem dX6_setAngle_15 : decode cX6_setAngle 15 = .ok (.sipush 360, 3) := by decide +kernel
theorem dX6_setAngle_18 : decode cX6_setAngle 18 = .ok (.invokestatic 86, 3) := by decide +kernel
theorem dX6_setAngle_21 : decode cX6_setAngle 21 = .ok (.ifCond .eq 24, 3) := by decide +kernel
theorem dX6_setAngle_24 : decode cX6_setAngle 24 = .ok (.iload_n 3, 1) := by decide +kernel
theorem dX6_setAngle_25 : decode cX6_setAngle 25 = .ok (.iconst 0, 1) := by decide +kernel
theorem dX6_setAngle_26 : decode cX6_setAngle 26 = .ok (.bipush 60, 2) := by decide +kernel
theorem dX6_setAngle_28 : decode cX6_setAngle 28 = .ok (.invokestatic 86, 3) := by decide +kernel
theorem dX6_setAngle_31 : decode cX6_setAngle 31 = .ok (.ifCond .eq 14, 3) := by decide +kernel
theorem dX6_setAngle_34 : decode cX6_setAngle 34 = .ok (.iload_n 2, 1) := by decide +kernel
theorem dX6_setAngle_35 : decode cX6_setAngle 35 = .ok (.sipush 360, 3) := by decide +kernel
theorem dX6_setAngle_38 : decode cX6_setAngle 38 = .ok (.if_icmp .ne 10, 3) := by decide +kernel
theorem dX6_setAngle_41 : decode cX6_setAngle 41 = .ok (.iload_n 3, 1) := by decide +kernel
theorem dX6_setAngle_42 : decode cX6_setAngle 42 = .ok (.ifCond .eq 6, 3) := by decide +kernel
theorem dX6_setAngle_45 : decode cX6_setAngle 45 = .ok (.bipush (-2), 2) := by decide +kernel
theorem dX6_setAngle_47 : decode cX6_setAngle 47 = .ok (.ireturn, 1) := by decide +kernel
theorem dX6_setAngle_48 : decode cX6_setAngle 48 = .ok (.aload_n 0, 1) := by decide +kernel
theorem dX6_setAngle_49 : decode cX6_setAngle 49 = .ok (.getfield 10, 3) := by decide +kernel
theorem dX6_setAngle_52 : decode cX6_setAngle 52 = .ok (.getfield 90, 3) := by decide +kernel
theorem dX6_setAngle_55 : decode cX6_setAngle 55 = .ok (.iconst 4, 1) := by decide +kernel
theorem dX6_setAngle_56 : decode cX6_setAngle 56 = .ok (.aaload, 1) := by decide +kernel
theorem dX6_setAngle_57 : decode cX6_setAngle 57 = .ok (.iload_n 1, 1) := by decide +kernel
theorem dX6_setAngle_58 : decode cX6_setAngle 58 = .ok (.iaload, 1) := by decide +kernel
theorem dX6_setAngle_59 : decode cX6_setAngle 59 = .ok (.istore 4, 2) := by decide +kernel
theorem dX6_setAngle_61 : decode cX6_setAngle 61 = .ok (.iload 4, 2) := by decide +kernel
theorem dX6_setAngle_63 : decode cX6_setAngle 63 = .ok (.iload_n 2, 1) := by decide +kernel
theorem dX6_setAngle_64 : decode cX6_setAngle 64 = .ok (.if_icmp .ne 21, 3) := by decide +kernel
theorem dX6_setAngle_67 : decode cX6_setAngle 67 = .ok (.aload_n 0, 1) := by decide +kernel
theorem dX6_setAngle_68 : decode cX6_setAngle 68 = .ok (.getfield 10, 3) := by decide +kernel
theorem dX6_setAngle_71 : decode cX6_setAngle 71 = .ok (.getfield 90, 3) := by decide +kernel
theorem dX6_setAngle_74 : decode cX6_setAngle 74 = .ok (.iconst 5, 1) := by decide +kernel
theorem dX6_setAngle_75 : decode cX6_setAngle 75 = .ok (.aaload, 1) := by decide +kernel
theorem dX6_setAngle_76 : decode cX6_setAngle 76 = .ok (.iload_n 1, 1) := by decide +kernel
theorem dX6_setAngle_77 : decode cX6_setAngle 77 = .ok (.iaload, 1) := by decide +kernel
theorem dX6_setAngle_78 : decode cX6_setAngle 78 = .ok (.iload_n 3, 1) := by decide +kernel
theorem dX6_setAngle_79 : decode cX6_setAngle 79 = .ok (.if_icmp .ne 6, 3) := by decide +kernel
theorem dX6_setAngle_82 : decode cX6_setAngle 82 = .ok (.bipush (-5), 2) := by decide +kernel
theorem dX6_setAngle_84 : decode cX6_setAngle 84 = .ok (.ireturn, 1) := by decide +kernel
theorem dX6_setAngle_85 : decode cX6_setAngle 85 = .ok (.aload_n 0, 1) := by decide +kernel
theorem dX6_setAngle_86 : decode cX6_setAngle 86 = .ok (.getfield 22, 3) := by decide +kernel
theorem dX6_setAngle_89 : decode cX6_setAngle 89 = .ok (.aload_n 0, 1) := by decide +kernel
theorem dX6_setAngle_90 : decode cX6_setAngle 90 = .ok (.getfield 10, 3) := by decide +kernel
theorem dX6_setAngle_93 : decode cX6_setAngle 93 = .ok (.invokevirtual 94, 3) := by decide +kernel
theorem dX6_setAngle_96 : decode cX6_setAngle 96 = .ok (.aload_n 0, 1) := by decide +kernel
theorem dX6_setAngle_97 : decode cX6_setAngle 97 = .ok (.getfield 10, 3) := by decide +kernel
theorem dX6_setAngle_100 : decode cX6_setAngle 100 = .ok (.getfield 90, 3) := by decide +kernel
theorem dX6_setAngle_103 : decode cX6_setAngle 103 = .ok (.iconst 4, 1) := by decide +kernel
theorem dX6_setAngle_104 : decode cX6_setAngle 104 = .ok (.aaload, 1) := by decide +kernel
theorem dX6_setAngle_105 : decode cX6_setAngle 105 = .ok (.iload_n 1, 1) := by decide +kernel
theorem dX6_setAngle_106 : decode cX6_setAngle 106 = .ok (.iload_n 2, 1) := by decide +kernel
theorem dX6_setAngle_107 : decode cX6_setAngle 107 = .ok (.iastore, 1) := by decide +kernel
theorem dX6_setAngle_108 : decode cX6_setAngle 108 = .ok (.aload_n 0, 1) := by decide +kernel
theorem dX6_setAngle_109 : decode cX6_setAngle 109 = .ok (.getfield 10, 3) := by decide +kernel
theorem dX6_setAngle_112 : decode cX6_setAngle 112 = .ok (.getfield 90, 3) := by decide +kernel
theorem dX6_setAngle_115 : decode cX6_setAngle 115 = .ok (.iconst 5, 1) := by decide +kernel
theorem dX6_setAngle_116 : decode cX6_setAngle 116 = .ok (.aaload, 1) := by decide +kernel
theorem dX6_setAngle_117 : decode cX6_setAngle 117 = .ok (.iload_n 1, 1) := by decide +kernel
theorem dX6_setAngle_118 : decode cX6_setAngle 118 = .ok (.iload_n 3, 1) := by decide +kernel
theorem dX6_setAngle_119 : decode cX6_setAngle 119 = .ok (.iastore, 1) := by decide +kernel
theorem dX6_setAngle_120 : decode cX6_setAngle 120 = .ok (.iload 4, 2) := by decide +kernel
theorem dX6_setAngle_122 : decode cX6_setAngle 122 = .ok (.ireturn, 1) := by decide +kernel
set_option maxRecDepth 20000 in
theorem ggX6_move_X2_holds : GoodIn wsX6_move wsX2_holds := goodIn_r _ [8, 9, 102, 103] (by decide +kernel) (by decide +kernel)
set_option maxRecDepth 20000 in
theorem gX6_move_X2_holds : GoodIn wsX6_move (wsV RX6 82 RX2 yX2_holds wsX2_holds) := goodIn_app (goodIn_of _ (by decide +kernel)) ggX6_move_X2_holds
set_option maxRecDepth 20000 in
theorem ggX6_move_X6_isWithin : GoodIn wsX6_move wsX6_isWithin := goodIn_r _ [13] (by decide +kernel) (by decide +kernel)
set_option maxRecDepth 20000 in
theorem gX6_move_X6_isWithin : GoodIn wsX6_move (va_wsS RX6 86 yX6_isWithin wsX6_isWithin) := goodIn_app (goodIn_of _ (by decide +kernel)) ggX6_move_X6_isWithin
set_option maxRecDepth 20000 in
theorem ggX6_move_X1_record : GoodIn wsX6_move wsX1_record := goodIn_r _ [18, 19, 20, 21, 22, 23, 17, 24, 25, 26, 27, 7, 28, 29, 30, 31, 32, 33, 9, 104, 105, 102, 103] (by decide +kernel) (by decide +kernel)
set_option maxRecDepth 20000 in
theorem gX6_move_X1_record : GoodIn wsX6_move (wsV RX6 94 RX1 yX1_record wsX1_record) := goodIn_app (goodIn_of _ (by decide +kernel)) ggX6_move_X1_record
set_option maxRecDepth 20000 in
theorem ggX6_move_X6_missedByBest : GoodIn wsX6_move wsX6_missedByBest := goodIn_r _ [37, 1, 38, 39, 40, 41, 7, 42, 9, 43, 44, 45, 46, 29, 47, 48, 49, 50, 51, 52, 53, 54, 55, 56, 57, 58, 59, 60, 61, 62, 63, 64, 65, 66, 67, 68, 69, 70, 71, 72, 73, 74, 12, 75, 76, 77, 78, 79, 80, 81, 82, 83, 84, 85, 86, 87, 88, 89, 90, 91, 93, 94, 95, 96, 97, 98, 99, 100, 101, 102, 103, 106, 107, 108, 109] (by decide +kernel) (by decide +kernel)
set_option maxRecDepth 20000 in
theorem gX6_move_X6_missedByBest : GoodIn wsX6_move (wsV RX6 97 RX6 yX6_missedByBest wsX6_missedByBest) := goodIn_app (goodIn_of _ (by decide +kernel)) ggX6_move_X6_missedByBest
set_option maxRecDepth 20000 in
theorem ggX6_move_J6_bitCount_0f7a4 : GoodIn wsX6_move wsJ6_bitCount_0f7a4 := goodIn_r _ [83, 84, 85, 86] (by decide +kernel) (by decide +kernel)
set_option maxRecDepth 20000 in
theorem gX6_move_J6_bitCount_0f7a4 : GoodIn wsX6_move (va_wsS RX6 100 yJ6_bitCount_0f7a4 wsJ6_bitCount_0f7a4) := goodIn_app (goodIn_of _ (by decide +kernel)) ggX6_move_J6_bitCount_0f7a4
theorem dX6_move_0 : decode cX6_move 0 = .ok (.aload_n 0, 1) := by decide +kernel
theorem dX6_move_1 : decode cX6_move 1 = .ok (.getfield 10, 3) := by decide +kernel
theorem dX6_move_4 : decode cX6_move 4 = .ok (.iload_n 1, 1) := by decide +kernel
theorem dX6_move_5 : decode cX6_move 5 = .ok (.invokevirtual 82, 3) := by decide +kernel
theorem dX6_move_8 : decode cX6_move 8 = .ok (.ifCond .ne 5, 3) := by decide +kernel
theorem dX6_move_11 : decode cX6_move 11 = .ok (.iconst (-1), 1) := by decide +kernel
theorem dX6_move_12 : decode cX6_move 12 = .ok (.ireturn, 1) := by decide +kernel
theorem dX6_move_13 : decode cX6_move 13 = .ok (.iload_n 2, 1) := by decide +kernel
theorem dX6_move_14 : decode cX6_move 14 = .ok (.sipush (-400), 3) := by decide +kernel
theorem dX6_move_17 : decode cX6_move 17 = .ok (.sipush 400, 3) := by decide +kernel
theorem dX6_move_20 : decode cX6_move 20 = .ok (.invokestatic 86, 3) := by decide +kernel
theorem dX6_move_23 : decode cX6_move 23 = .ok (.ifCond .eq 16, 3) := by decide +kernel
theorem dX6_move_26 : decode cX6_move 26 = .ok (.iload_n 3, 1) := by decide +kernel
theorem dX6_move_27 : decode cX6_move 27 = .ok (.sipush (-400), 3) := by decide +kernel
theorem dX6_move_30 : decode cX6_move 30 = .ok (.sipush 400, 3) := by decide +kernel
theorem dX6_move_33 : decode cX6_move 33 = .ok (.invokestatic 86, 3) := by decide +kernel
theorem dX6_move_36 : decode cX6_move 36 = .ok (.ifCond .ne 6, 3) := by decide +kernel
theorem dX6_move_39 : decode cX6_move 39 = .ok (.bipush (-2), 2) := by decide +kernel
theorem dX6_move_41 : decode cX6_move 41 = .ok (.ireturn, 1) := by decide +kernel
theorem dX6_move_42 : decode cX6_move 42 = .ok (.aload_n 0, 1) := by decide +kernel
theorem dX6_move_43 : decode cX6_move 43 = .ok (.getfield 10, 3) := by decide +kernel
theorem dX6_move_46 : decode cX6_move 46 = .ok (.getfield 90, 3) := by decide +kernel
theorem dX6_move_49 : decode cX6_move 49 = .ok (.iconst 1, 1) := by decide +kernel
theorem dX6_move_50 : decode cX6_move 50 = .ok (.aaload, 1) := by decide +kernel
theorem dX6_move_51 : decode cX6_move 51 = .ok (.iload_n 1, 1) := by decide +kernel
theorem dX6_move_52 : decode cX6_move 52 = .ok (.iaload, 1) := by decide +kernel
theorem dX6_move_53 : decode cX6_move 53 = .ok (.iload_n 2, 1) := by decide +kernel
theorem dX6_move_54 : decode cX6_move 54 = .ok (.if_icmp .ne 21, 3) := by decide +kernel
theorem dX6_move_57 : decode cX6_move 57 = .ok (.aload_n 0, 1) := by decide +kernel
theorem dX6_move_58 : decode cX6_move 58 = .ok (.getfield 10, 3) := by decide +kernel
theorem dX6_move_61 : decode cX6_move 61 = .ok (.getfield 90, 3) := by decide +kernel
theorem dX6_move_64 : decode cX6_move 64 = .ok (.iconst 2, 1) := by decide +kernel
theorem dX6_move_65 : decode cX6_move 65 = .ok (.aaload, 1) := by decide +kernel
theorem dX6_move_66 : decode cX6_move 66 = .ok (.iload_n 1, 1) := by decide +kernel
theorem dX6_move_67 : decode cX6_move 67 = .ok (.iaload, 1) := by decide +kernel
theorem dX6_move_68 : decode cX6_move 68 = .ok (.iload_n 3, 1) := by decide +kernel
theorem dX6_move_69 : decode cX6_move 69 = .ok (.if_icmp .ne 6, 3) := by decide +kernel
theorem dX6_move_72 : decode cX6_move 72 = .ok (.bipush (-5), 2) := by decide +kernel
theorem dX6_move_74 : decode cX6_move 74 = .ok (.ireturn, 1) := by decide +kernel
theorem dX6_move_75 : decode cX6_move 75 = .ok (.aload_n 0, 1) := by decide +kernel
theorem dX6_move_76 : decode cX6_move 76 = .ok (.getfield 22, 3) := by decide +kernel
theorem dX6_move_79 : decode cX6_move 79 = .ok (.aload_n 0, 1) := by decide +kernel
theorem dX6_move_80 : decode cX6_move 80 = .ok (.getfield 10, 3) := by decide +kernel
theorem dX6_move_83 : decode cX6_move 83 = .ok (.invokevirtual 94, 3) := by decide +kernel
theorem dX6_move_86 : decode cX6_move 86 = .ok (.aload_n 0, 1) := by decide +kernel
theorem dX6_move_87 : decode cX6_move 87 = .ok (.getfield 10, 3) := by decide +kernel
theorem dX6_move_90 : decode cX6_move 90 = .ok (.getfield 90, 3) := by decide +kernel
theorem dX6_move_93 : decode cX6_move 93 = .ok (.iconst 1, 1) := by decide +kernel
theorem dX6_move_94 : decode cX6_move 94 = .ok (.aaload, 1) := by decide +kernel
theorem dX6_move_95 : decode cX6_move 95 = .ok (.iload_n 1, 1) := by decide +kernel
theorem dX6_move_96 : decode cX6_move 96 = .ok (.iload_n 2, 1) := by decide +kernel
theorem dX6_move_97 : decode cX6_move 97 = .ok (.iastore, 1) := by decide +kernel
theorem dX6_move_98 : decode cX6_move 98 = .ok (.aload_n 0, 1) := by decide +kernel
theorem dX6_move_99 : decode cX6_move 99 = .ok (.getfield 10, 3) := by decide +kernel
theorem dX6_move_102 : decode cX6_move 102 = .ok (.getfield 90, 3) := by decide +kernel
theorem dX6_move_105 : decode cX6_move 105 = .ok (.iconst 2, 1) := by decide +kernel
theorem dX6_move_106 : decode cX6_move 106 = .ok (.aaload, 1) := by decide +kernel
theorem dX6_move_107 : decode cX6_move 107 = .ok (.iload_n 1, 1) := by decide +kernel
theorem dX6_move_108 : decode cX6_move 108 = .ok (.iload_n 3, 1) := by decide +kernel
theorem dX6_move_109 : decode cX6_move 109 = .ok (.iastore, 1) := by decide +kernel
theorem dX6_move_110 : decode cX6_move 110 = .ok (.aload_n 0, 1) := by decide +kernel
theorem dX6_move_111 : decode cX6_move 111 = .ok (.invokevirtual 97, 3) := by decide +kernel
theorem dX6_move_114 : decode cX6_move 114 = .ok (.invokestatic 100, 3) := by decide +kernel
theorem dX6_move_117 : decode cX6_move 117 = .ok (.ireturn, 1) := by decide +kernel
set_option maxRecDepth 20000 in
theorem ggX6_setAside_X2_holds : GoodIn wsX6_setAside wsX2_holds := goodIn_r _ [8, 9, 55, 56] (by decide +kernel) (by decide +kernel)
set_option maxRecDepth 20000 in
theorem gX6_setAside_X2_holds : GoodIn wsX6_setAside (wsV RX6 82 RX2 yX2_holds wsX2_holds) := goodIn_app (goodIn_of _ (by decide +kernel)) ggX6_setAside_X2_holds
set_option maxRecDepth 20000 in
theorem ggX6_setAside_X2_isUsable : GoodIn wsX6_setAside wsX2_isUsable := goodIn_r _ [13, 14, 55, 56] (by decide +kernel) (by decide +kernel)
set_option maxRecDepth 20000 in
theorem gX6_setAside_X2_isUsable : GoodIn wsX6_setAside (wsV RX6 106 RX2 yX2_isUsable wsX2_isUsable) := goodIn_app (goodIn_of _ (by decide +kernel)) ggX6_setAside_X2_isUsable
set_option maxRecDepth 20000 in
theorem ggX6_setAside_X1_record : GoodIn wsX6_setAside wsX1_record := goodIn_r _ [19, 20, 21, 22, 23, 24, 18, 25, 26, 27, 28, 7, 29, 14, 30, 31, 32, 33, 9, 57, 58, 55, 56] (by decide +kernel) (by decide +kernel)
set_option maxRecDepth 20000 in
theorem gX6_setAside_X1_record : GoodIn wsX6_setAside (wsV RX6 94 RX1 yX1_record wsX1_record) := goodIn_app (goodIn_of _ (by decide +kernel)) ggX6_setAside_X1_record
set_option maxRecDepth 20000 in
theorem ggX6_setAside_X2_usable : GoodIn wsX6_setAside wsX2_usable := goodIn_r _ [37, 9, 38, 11, 12, 7, 13, 14, 55, 56] (by decide +kernel) (by decide +kernel)
set_option maxRecDepth 20000 in
theorem gX6_setAside_X2_usable : GoodIn wsX6_setAside (wsV RX6 109 RX2 yX2_usable wsX2_usable) := goodIn_app (goodIn_of _ (by decide +kernel)) ggX6_setAside_X2_usable
set_option maxRecDepth 20000 in
theorem ggX6_setAside_J6_bitCount_0f7a4 : GoodIn wsX6_setAside wsJ6_bitCount_0f7a4 := goodIn_r _ [42, 43, 44, 45] (by decide +kernel) (by decide +kernel)
set_option maxRecDepth 20000 in
theorem gX6_setAside_J6_bitCount_0f7a4 : GoodIn wsX6_setAside (va_wsS RX6 100 yJ6_bitCount_0f7a4 wsJ6_bitCount_0f7a4) := goodIn_app (goodIn_of _ (by decide +kernel)) ggX6_setAside_J6_bitCount_0f7a4
theorem dX6_setAside_0 : decode cX6_setAside 0 = .ok (.aload_n 0, 1) := by decide +kernel
theorem dX6_setAside_1 : decode cX6_setAside 1 = .ok (.getfield 10, 3) := by decide +kernel
theorem dX6_setAside_4 : decode cX6_setAside 4 = .ok (.iload_n 1, 1) := by decide +kernel
theorem dX6_setAside_5 : decode cX6_setAside 5 = .ok (.invokevirtual 82, 3) := by decide +kernel
theorem dX6_setAside_8 : decode cX6_setAside 8 = .ok (.ifCond .ne 5, 3) := by decide +kernel
theorem dX6_setAside_11 : decode cX6_setAside 11 = .ok (.iconst (-1), 1) := by decide +kernel
theorem dX6_setAside_12 : decode cX6_setAside 12 = .ok (.ireturn, 1) := by decide +kernel
theorem dX6_setAside_13 : decode cX6_setAside 13 = .ok (.aload_n 0, 1) := by decide +kernel
theorem dX6_setAside_14 : decode cX6_setAside 14 = .ok (.getfield 10, 3) := by decide +kernel
theorem dX6_setAside_17 : decode cX6_setAside 17 = .ok (.iload_n 1, 1) := by decide +kernel
theorem dX6_setAside_18 : decode cX6_setAside 18 = .ok (.invokevirtual 106, 3) := by decide +kernel
theorem dX6_setAside_21 : decode cX6_setAside 21 = .ok (.iload_n 2, 1) := by decide +kernel
theorem dX6_setAside_22 : decode cX6_setAside 22 = .ok (.if_icmp .eq 6, 3) := by decide +kernel
theorem dX6_setAside_25 : decode cX6_setAside 25 = .ok (.bipush (-5), 2) := by decide +kernel
theorem dX6_setAside_27 : decode cX6_setAside 27 = .ok (.ireturn, 1) := by decide +kernel
theorem dX6_setAside_28 : decode cX6_setAside 28 = .ok (.aload_n 0, 1) := by decide +kernel
theorem dX6_setAside_29 : decode cX6_setAside 29 = .ok (.getfield 22, 3) := by decide +kernel
theorem dX6_setAside_32 : decode cX6_setAside 32 = .ok (.aload_n 0, 1) := by decide +kernel
theorem dX6_setAside_33 : decode cX6_setAside 33 = .ok (.getfield 10, 3) := by decide +kernel
theorem dX6_setAside_36 : decode cX6_setAside 36 = .ok (.invokevirtual 94, 3) := by decide +kernel
theorem dX6_setAside_39 : decode cX6_setAside 39 = .ok (.aload_n 0, 1) := by decide +kernel
theorem dX6_setAside_40 : decode cX6_setAside 40 = .ok (.getfield 10, 3) := by decide +kernel
theorem dX6_setAside_43 : decode cX6_setAside 43 = .ok (.getfield 90, 3) := by decide +kernel
theorem dX6_setAside_46 : decode cX6_setAside 46 = .ok (.bipush 6, 2) := by decide +kernel
theorem dX6_setAside_48 : decode cX6_setAside 48 = .ok (.aaload, 1) := by decide +kernel
theorem dX6_setAside_49 : decode cX6_setAside 49 = .ok (.iload_n 1, 1) := by decide +kernel
theorem dX6_setAside_50 : decode cX6_setAside 50 = .ok (.iload_n 2, 1) := by decide +kernel
theorem dX6_setAside_51 : decode cX6_setAside 51 = .ok (.ifCond .eq 7, 3) := by decide +kernel
theorem dX6_setAside_54 : decode cX6_setAside 54 = .ok (.iconst 1, 1) := by decide +kernel
theorem dX6_setAside_55 : decode cX6_setAside 55 = .ok (.goto 4, 3) := by decide +kernel
theorem dX6_setAside_58 : decode cX6_setAside 58 = .ok (.iconst 0, 1) := by decide +kernel
theorem dX6_setAside_59 : decode cX6_setAside 59 = .ok (.iastore, 1) := by decide +kernel
theorem dX6_setAside_60 : decode cX6_setAside 60 = .ok (.aload_n 0, 1) := by decide +kernel
theorem dX6_setAside_61 : decode cX6_setAside 61 = .ok (.getfield 10, 3) := by decide +kernel
theorem dX6_setAside_64 : decode cX6_setAside 64 = .ok (.invokevirtual 109, 3) := by decide +kernel
theorem dX6_setAside_67 : decode cX6_setAside 67 = .ok (.invokestatic 100, 3) := by decide +kernel
theorem dX6_setAside_70 : decode cX6_setAside 70 = .ok (.ireturn, 1) := by decide +kernel
set_option maxRecDepth 20000 in
theorem ggX6_dropMissed_X2_usable : GoodIn wsX6_dropMissed wsX2_usable := goodIn_r _ [10, 11, 12, 13, 14, 9, 15, 16, 93, 94] (by decide +kernel) (by decide +kernel)
set_option maxRecDepth 20000 in
theorem gX6_dropMissed_X2_usable : GoodIn wsX6_dropMissed (wsV RX6 109 RX2 yX2_usable wsX2_usable) := goodIn_app (goodIn_of _ (by decide +kernel)) ggX6_dropMissed_X2_usable
set_option maxRecDepth 20000 in
theorem ggX6_dropMissed_X0_layBest : GoodIn wsX6_dropMissed wsX0_layBest := goodIn_r _ [21, 22, 23, 24, 25, 26, 20, 27, 28, 29, 30, 31, 32, 33, 34, 35, 36, 37, 38, 39, 40, 41, 42, 43, 44, 45, 46, 47, 48, 49, 50, 51, 52, 53, 54, 55, 56, 57, 58, 59, 60, 61, 95, 96, 97, 98, 93, 94] (by decide +kernel) (by decide +kernel)
set_option maxRecDepth 20000 in
theorem gX6_dropMissed_X0_layBest : GoodIn wsX6_dropMissed (wsV RX6 112 RX0 yX0_layBest wsX0_layBest) := goodIn_app (goodIn_of _ (by decide +kernel)) ggX6_dropMissed_X0_layBest
set_option maxRecDepth 20000 in
theorem ggX6_dropMissed_X0_missedOf : GoodIn wsX6_dropMissed wsX0_missedOf := goodIn_r _ [34, 22, 23, 35, 36, 37, 38, 39, 40, 41, 42, 20, 43, 28, 29, 30, 44, 45, 46, 47, 48, 49, 50, 95, 96, 97, 98, 93, 94] (by decide +kernel) (by decide +kernel)
set_option maxRecDepth 20000 in
theorem gX6_dropMissed_X0_missedOf : GoodIn wsX6_dropMissed (wsV RX6 115 RX0 yX0_missedOf wsX0_missedOf) := goodIn_app (goodIn_of _ (by decide +kernel)) ggX6_dropMissed_X0_missedOf
set_option maxRecDepth 20000 in
theorem ggX6_dropMissed_X1_record : GoodIn wsX6_dropMissed wsX1_record := goodIn_r _ [67, 68, 69, 70, 71, 72, 66, 73, 74, 75, 76, 9, 77, 16, 78, 79, 80, 81, 11, 99, 100, 93, 94] (by decide +kernel) (by decide +kernel)
set_option maxRecDepth 20000 in
theorem gX6_dropMissed_X1_record : GoodIn wsX6_dropMissed (wsV RX6 94 RX1 yX1_record wsX1_record) := goodIn_app (goodIn_of _ (by decide +kernel)) ggX6_dropMissed_X1_record
set_option maxRecDepth 20000 in
theorem ggX6_dropMissed_X6_isIn : GoodIn wsX6_dropMissed wsX6_isIn := goodIn_r _ [46] (by decide +kernel) (by decide +kernel)
set_option maxRecDepth 20000 in
theorem gX6_dropMissed_X6_isIn : GoodIn wsX6_dropMissed (va_wsS RX6 121 yX6_isIn wsX6_isIn) := goodIn_app (goodIn_of _ (by decide +kernel)) ggX6_dropMissed_X6_isIn
set_option maxRecDepth 20000 in
theorem ggX6_dropMissed_J6_bitCount_0f7a4 : GoodIn wsX6_dropMissed wsJ6_bitCount_0f7a4 := goodIn_r _ [54, 55, 56, 57] (by decide +kernel) (by decide +kernel)
set_option maxRecDepth 20000 in
theorem gX6_dropMissed_J6_bitCount_0f7a4 : GoodIn wsX6_dropMissed (va_wsS RX6 100 yJ6_bitCount_0f7a4 wsJ6_bitCount_0f7a4) := goodIn_app (goodIn_of _ (by decide +kernel)) ggX6_dropMissed_J6_bitCount_0f7a4
theorem dX6_dropMissed_0 : decode cX6_dropMissed 0 = .ok (.aload_n 0, 1) := by decide +kernel
theorem dX6_dropMissed_1 : decode cX6_dropMissed 1 = .ok (.getfield 10, 3) := by decide +kernel
theorem dX6_dropMissed_4 : decode cX6_dropMissed 4 = .ok (.invokevirtual 109, 3) := by decide +kernel
theorem dX6_dropMissed_7 : decode cX6_dropMissed 7 = .ok (.istore_n 1, 1) := by decide +kernel
theorem dX6_dropMissed_8 : decode cX6_dropMissed 8 = .ok (.aload_n 0, 1) := by decide +kernel
theorem dX6_dropMissed_9 : decode cX6_dropMissed 9 = .ok (.getfield 42, 3) := by decide +kernel
theorem dX6_dropMissed_12 : decode cX6_dropMissed 12 = .ok (.iload_n 1, 1) := by decide +kernel
theorem dX6_dropMissed_13 : decode cX6_dropMissed 13 = .ok (.invokevirtual 112, 3) := by decide +kernel
theorem dX6_dropMissed_16 : decode cX6_dropMissed 16 = .ok (.ifCond .ne 6, 3) := by decide +kernel
theorem dX6_dropMissed_19 : decode cX6_dropMissed 19 = .ok (.bipush (-4), 2) := by decide +kernel
theorem dX6_dropMissed_21 : decode cX6_dropMissed 21 = .ok (.ireturn, 1) := by decide +kernel
theorem dX6_dropMissed_22 : decode cX6_dropMissed 22 = .ok (.aload_n 0, 1) := by decide +kernel
theorem dX6_dropMissed_23 : decode cX6_dropMissed 23 = .ok (.getfield 42, 3) := by decide +kernel
theorem dX6_dropMissed_26 : decode cX6_dropMissed 26 = .ok (.iload_n 1, 1) := by decide +kernel
theorem dX6_dropMissed_27 : decode cX6_dropMissed 27 = .ok (.invokevirtual 115, 3) := by decide +kernel
theorem dX6_dropMissed_30 : decode cX6_dropMissed 30 = .ok (.istore_n 2, 1) := by decide +kernel
theorem dX6_dropMissed_31 : decode cX6_dropMissed 31 = .ok (.iload_n 2, 1) := by decide +kernel
theorem dX6_dropMissed_32 : decode cX6_dropMissed 32 = .ok (.ifCond .ne 6, 3) := by decide +kernel
theorem dX6_dropMissed_35 : decode cX6_dropMissed 35 = .ok (.bipush (-5), 2) := by decide +kernel
theorem dX6_dropMissed_37 : decode cX6_dropMissed 37 = .ok (.ireturn, 1) := by decide +kernel
theorem dX6_dropMissed_38 : decode cX6_dropMissed 38 = .ok (.aload_n 0, 1) := by decide +kernel
theorem dX6_dropMissed_39 : decode cX6_dropMissed 39 = .ok (.getfield 22, 3) := by decide +kernel
theorem dX6_dropMissed_42 : decode cX6_dropMissed 42 = .ok (.aload_n 0, 1) := by decide +kernel
theorem dX6_dropMissed_43 : decode cX6_dropMissed 43 = .ok (.getfield 10, 3) := by decide +kernel
theorem dX6_dropMissed_46 : decode cX6_dropMissed 46 = .ok (.invokevirtual 94, 3) := by decide +kernel
theorem dX6_dropMissed_49 : decode cX6_dropMissed 49 = .ok (.iconst 0, 1) := by decide +kernel
theorem dX6_dropMissed_50 : decode cX6_dropMissed 50 = .ok (.istore_n 3, 1) := by decide +kernel
theorem dX6_dropMissed_51 : decode cX6_dropMissed 51 = .ok (.iload_n 3, 1) := by decide +kernel
theorem dX6_dropMissed_52 : decode cX6_dropMissed 52 = .ok (.aload_n 0, 1) := by decide +kernel
theorem dX6_dropMissed_53 : decode cX6_dropMissed 53 = .ok (.getfield 10, 3) := by decide +kernel
theorem dX6_dropMissed_56 : decode cX6_dropMissed 56 = .ok (.getfield 118, 3) := by decide +kernel
theorem dX6_dropMissed_59 : decode cX6_dropMissed 59 = .ok (.if_icmp .ge 30, 3) := by decide +kernel
theorem dX6_dropMissed_62 : decode cX6_dropMissed 62 = .ok (.iload_n 2, 1) := by decide +kernel
theorem dX6_dropMissed_63 : decode cX6_dropMissed 63 = .ok (.iload_n 3, 1) := by decide +kernel
theorem dX6_dropMissed_64 : decode cX6_dropMissed 64 = .ok (.invokestatic 121, 3) := by decide +kernel
theorem dX6_dropMissed_67 : decode cX6_dropMissed 67 = .ok (.ifCond .eq 16, 3) := by decide +kernel
theorem dX6_dropMissed_70 : decode cX6_dropMissed 70 = .ok (.aload_n 0, 1) := by decide +kernel
theorem dX6_dropMissed_71 : decode cX6_dropMissed 71 = .ok (.getfield 10, 3) := by decide +kernel
theorem dX6_dropMissed_74 : decode cX6_dropMissed 74 = .ok (.getfield 90, 3) := by decide +kernel
theorem dX6_dropMissed_77 : decode cX6_dropMissed 77 = .ok (.bipush 6, 2) := by decide +kernel
theorem dX6_dropMissed_79 : decode cX6_dropMissed 79 = .ok (.aaload, 1) := by decide +kernel
theorem dX6_dropMissed_80 : decode cX6_dropMissed 80 = .ok (.iload_n 3, 1) := by decide +kernel
theorem dX6_dropMissed_81 : decode cX6_dropMissed 81 = .ok (.iconst 1, 1) := by decide +kernel
theorem dX6_dropMissed_82 : decode cX6_dropMissed 82 = .ok (.iastore, 1) := by decide +kernel
theorem dX6_dropMissed_83 : decode cX6_dropMissed 83 = .ok (.iinc 3 1, 3) := by decide +kernel
theorem dX6_dropMissed_86 : decode cX6_dropMissed 86 = .ok (.goto (-35), 3) := by decide +kernel
theorem dX6_dropMissed_89 : decode cX6_dropMissed 89 = .ok (.iload_n 2, 1) := by decide +kernel
theorem dX6_dropMissed_90 : decode cX6_dropMissed 90 = .ok (.invokestatic 100, 3) := by decide +kernel
theorem dX6_dropMissed_93 : decode cX6_dropMissed 93 = .ok (.ireturn, 1) := by decide +kernel
set_option maxRecDepth 20000 in
theorem ggX6_remove_X2_holds : GoodIn wsX6_remove wsX2_holds := goodIn_r _ [8, 9, 44, 45] (by decide +kernel) (by decide +kernel)
set_option maxRecDepth 20000 in
theorem gX6_remove_X2_holds : GoodIn wsX6_remove (wsV RX6 82 RX2 yX2_holds wsX2_holds) := goodIn_app (goodIn_of _ (by decide +kernel)) ggX6_remove_X2_holds
set_option maxRecDepth 20000 in
theorem ggX6_remove_X1_record : GoodIn wsX6_remove wsX1_record := goodIn_r _ [14, 15, 16, 17, 18, 19, 13, 20, 21, 22, 23, 7, 24, 25, 26, 27, 28, 29, 9, 46, 47, 44, 45] (by decide +kernel) (by decide +kernel)
set_option maxRecDepth 20000 in
theorem gX6_remove_X1_record : GoodIn wsX6_remove (wsV RX6 94 RX1 yX1_record wsX1_record) := goodIn_app (goodIn_of _ (by decide +kernel)) ggX6_remove_X1_record
set_option maxRecDepth 20000 in
theorem ggX6_remove_X2_delete : GoodIn wsX6_remove wsX2_delete := goodIn_r _ [33, 25, 9, 26, 27, 28, 29, 34, 5, 6, 7, 8, 44, 45] (by decide +kernel) (by decide +kernel)
set_option maxRecDepth 20000 in
theorem gX6_remove_X2_delete : GoodIn wsX6_remove (wsV RX6 125 RX2 yX2_delete wsX2_delete) := goodIn_app (goodIn_of _ (by decide +kernel)) ggX6_remove_X2_delete
theorem dX6_remove_0 : decode cX6_remove 0 = .ok (.aload_n 0, 1) := by decide +kernel
theorem dX6_remove_1 : decode cX6_remove 1 = .ok (.getfield 10, 3) := by decide +kernel
theorem dX6_remove_4 : decode cX6_remove 4 = .ok (.iload_n 1, 1) := by decide +kernel
theorem dX6_remove_5 : decode cX6_remove 5 = .ok (.invokevirtual 82, 3) := by decide +kernel
theorem dX6_remove_8 : decode cX6_remove 8 = .ok (.ifCond .ne 5, 3) := by decide +kernel
theorem dX6_remove_11 : decode cX6_remove 11 = .ok (.iconst (-1), 1) := by decide +kernel
theorem dX6_remove_12 : decode cX6_remove 12 = .ok (.ireturn, 1) := by decide +kernel
theorem dX6_remove_13 : decode cX6_remove 13 = .ok (.aload_n 0, 1) := by decide +kernel
theorem dX6_remove_14 : decode cX6_remove 14 = .ok (.getfield 22, 3) := by decide +kernel
theorem dX6_remove_17 : decode cX6_remove 17 = .ok (.aload_n 0, 1) := by decide +kernel
theorem dX6_remove_18 : decode cX6_remove 18 = .ok (.getfield 10, 3) := by decide +kernel
theorem dX6_remove_21 : decode cX6_remove 21 = .ok (.invokevirtual 94, 3) := by decide +kernel
theorem dX6_remove_24 : decode cX6_remove 24 = .ok (.aload_n 0, 1) := by decide +kernel
theorem dX6_remove_25 : decode cX6_remove 25 = .ok (.getfield 10, 3) := by decide +kernel
theorem dX6_remove_28 : decode cX6_remove 28 = .ok (.iload_n 1, 1) := by decide +kernel
theorem dX6_remove_29 : decode cX6_remove 29 = .ok (.invokevirtual 125, 3) := by decide +kernel
theorem dX6_remove_32 : decode cX6_remove 32 = .ok (.aload_n 0, 1) := by decide +kernel
theorem dX6_remove_33 : decode cX6_remove 33 = .ok (.getfield 10, 3) := by decide +kernel
theorem dX6_remove_36 : decode cX6_remove 36 = .ok (.getfield 118, 3) := by decide +kernel
theorem dX6_remove_39 : decode cX6_remove 39 = .ok (.ireturn, 1) := by decide +kernel
set_option maxRecDepth 20000 in
theorem ggX6_undo_X1_takeBack : GoodIn wsX6_undo wsX1_takeBack := goodIn_r _ [8, 9, 10, 11, 12, 13, 14, 15, 16, 17, 18, 19, 20, 21, 31, 32, 33, 34] (by decide +kernel) (by decide +kernel)
set_option maxRecDepth 20000 in
theorem gX6_undo_X1_takeBack : GoodIn wsX6_undo (wsV RX6 136 RX1 yX1_takeBack wsX1_takeBack) := goodIn_app (goodIn_of _ (by decide +kernel)) ggX6_undo_X1_takeBack
