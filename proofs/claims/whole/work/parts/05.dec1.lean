theorem dX0_init_0 : decode cX0_init 0 = .ok (.aload_n 0, 1) := by decide +kernel
theorem dX0_init_1 : decode cX0_init 1 = .ok (.invokespecial 3, 3) := by decide +kernel
theorem dX0_init_4 : decode cX0_init 4 = .ok (.aload_n 0, 1) := by decide +kernel
theorem dX0_init_5 : decode cX0_init 5 = .ok (.bipush 7, 2) := by decide +kernel
theorem dX0_init_7 : decode cX0_init 7 = .ok (.newarray .int, 2) := by decide +kernel
theorem dX0_init_9 : decode cX0_init 9 = .ok (.putfield 9, 3) := by decide +kernel
theorem dX0_init_12 : decode cX0_init 12 = .ok (.aload_n 0, 1) := by decide +kernel
theorem dX0_init_13 : decode cX0_init 13 = .ok (.bipush 7, 2) := by decide +kernel
theorem dX0_init_15 : decode cX0_init 15 = .ok (.newarray .int, 2) := by decide +kernel
theorem dX0_init_17 : decode cX0_init 17 = .ok (.putfield 15, 3) := by decide +kernel
theorem dX0_init_20 : decode cX0_init 20 = .ok (.aload_n 0, 1) := by decide +kernel
theorem dX0_init_21 : decode cX0_init 21 = .ok (.bipush 7, 2) := by decide +kernel
theorem dX0_init_23 : decode cX0_init 23 = .ok (.newarray .int, 2) := by decide +kernel
theorem dX0_init_25 : decode cX0_init 25 = .ok (.putfield 18, 3) := by decide +kernel
theorem dX0_init_28 : decode cX0_init 28 = .ok (.aload_n 0, 1) := by decide +kernel
theorem dX0_init_29 : decode cX0_init 29 = .ok (.bipush 7, 2) := by decide +kernel
theorem dX0_init_31 : decode cX0_init 31 = .ok (.bipush 16, 2) := by decide +kernel
theorem dX0_init_33 : decode cX0_init 33 = .ok (.multianewarray 21 2, 4) := by decide +kernel
theorem dX0_init_37 : decode cX0_init 37 = .ok (.putfield 23, 3) := by decide +kernel
theorem dX0_init_40 : decode cX0_init 40 = .ok (.aload_n 0, 1) := by decide +kernel
theorem dX0_init_41 : decode cX0_init 41 = .ok (.bipush 7, 2) := by decide +kernel
theorem dX0_init_43 : decode cX0_init 43 = .ok (.newarray .int, 2) := by decide +kernel
theorem dX0_init_45 : decode cX0_init 45 = .ok (.putfield 26, 3) := by decide +kernel
theorem dX0_init_48 : decode cX0_init 48 = .ok (.aload_n 0, 1) := by decide +kernel
theorem dX0_init_49 : decode cX0_init 49 = .ok (.bipush 7, 2) := by decide +kernel
theorem dX0_init_51 : decode cX0_init 51 = .ok (.newarray .int, 2) := by decide +kernel
theorem dX0_init_53 : decode cX0_init 53 = .ok (.putfield 29, 3) := by decide +kernel
theorem dX0_init_56 : decode cX0_init 56 = .ok (.return_, 1) := by decide +kernel
theorem dX0_forget_0 : decode cX0_forget 0 = .ok (.aload_n 0, 1) := by decide +kernel
theorem dX0_forget_1 : decode cX0_forget 1 = .ok (.iconst 0, 1) := by decide +kernel
theorem dX0_forget_2 : decode cX0_forget 2 = .ok (.putfield 32, 3) := by decide +kernel
theorem dX0_forget_5 : decode cX0_forget 5 = .ok (.return_, 1) := by decide +kernel
set_option maxRecDepth 20000 in
theorem ggX0_find_X0_allowMarks : GoodIn wsX0_find wsX0_allowMarks := goodIn_r _ [10, 4, 11, 12, 13, 5, 14, 15, 16, 17, 18, 19, 20, 82, 83, 84, 85, 86, 87, 88, 89, 90, 73, 74, 75, 76, 77, 78, 79, 80, 81, 91, 92] (by decide +kernel) (by decide +kernel)
set_option maxRecDepth 20000 in
theorem gX0_find_X0_allowMarks : GoodIn wsX0_find (wsV RX0 50 RX0 yX0_allowMarks wsX0_allowMarks) := goodIn_app (goodIn_of _ (by decide +kernel)) ggX0_find_X0_allowMarks
set_option maxRecDepth 20000 in
theorem ggX0_find_X1_isPlayed : GoodIn wsX0_find wsX1_isPlayed := goodIn_r _ [25, 26, 93, 94, 95, 96, 97] (by decide +kernel) (by decide +kernel)
set_option maxRecDepth 20000 in
theorem gX0_find_X1_isPlayed : GoodIn wsX0_find (wsV RX0 54 RX1 yX1_isPlayed wsX1_isPlayed) := goodIn_app (goodIn_of _ (by decide +kernel)) ggX0_find_X1_isPlayed
set_option maxRecDepth 20000 in
theorem ggX0_find_X0_orderFrom : GoodIn wsX0_find wsX0_orderFrom := goodIn_r _ [30, 31, 32, 33, 34, 35, 36, 37, 38, 39, 40, 41, 42, 73, 74, 75, 76, 77, 78, 79, 80, 81, 82, 83, 84, 85, 86, 87, 88, 89, 90, 93, 94, 95, 96, 97] (by decide +kernel) (by decide +kernel)
set_option maxRecDepth 20000 in
theorem gX0_find_X0_orderFrom : GoodIn wsX0_find (wsV RX0 60 RX0 yX0_orderFrom wsX0_orderFrom) := goodIn_app (goodIn_of _ (by decide +kernel)) ggX0_find_X0_orderFrom
set_option maxRecDepth 20000 in
theorem ggX0_find_X0_gather : GoodIn wsX0_find wsX0_gather := goodIn_r _ [46, 4, 47, 32, 31, 35, 12, 13, 48, 36, 37, 38, 39, 40, 41, 42, 49, 50, 51, 9, 52, 53, 54, 55, 56, 57, 58, 59, 60, 61, 62, 63, 64, 65, 66, 67, 68, 82, 83, 84, 85, 86, 87, 88, 89, 90, 73, 74, 75, 76, 77, 78, 79, 80, 81, 91, 92] (by decide +kernel) (by decide +kernel)
set_option maxRecDepth 20000 in
theorem gX0_find_X0_gather : GoodIn wsX0_find (wsV RX0 64 RX0 yX0_gather wsX0_gather) := goodIn_app (goodIn_of _ (by decide +kernel)) ggX0_find_X0_gather
set_option maxRecDepth 20000 in
theorem ggX0_find_X0_choose : GoodIn wsX0_find wsX0_choose := goodIn_r _ [72, 12, 13, 47, 2, 3, 48, 73, 74, 75, 76, 77, 78, 79, 80, 81, 91, 92] (by decide +kernel) (by decide +kernel)
set_option maxRecDepth 20000 in
theorem gX0_find_X0_choose : GoodIn wsX0_find (wsV RX0 67 RX0 yX0_choose wsX0_choose) := goodIn_app (goodIn_of _ (by decide +kernel)) ggX0_find_X0_choose
theorem dX0_find_0 : decode cX0_find 0 = .ok (.aload_n 0, 1) := by decide +kernel
theorem dX0_find_1 : decode cX0_find 1 = .ok (.getfield 32, 3) := by decide +kernel
theorem dX0_find_4 : decode cX0_find 4 = .ok (.ifCond .eq 4, 3) := by decide +kernel
theorem dX0_find_7 : decode cX0_find 7 = .ok (.return_, 1) := by decide +kernel
theorem dX0_find_8 : decode cX0_find 8 = .ok (.aload_n 0, 1) := by decide +kernel
theorem dX0_find_9 : decode cX0_find 9 = .ok (.iconst 1, 1) := by decide +kernel
theorem dX0_find_10 : decode cX0_find 10 = .ok (.putfield 32, 3) := by decide +kernel
theorem dX0_find_13 : decode cX0_find 13 = .ok (.aload_n 0, 1) := by decide +kernel
theorem dX0_find_14 : decode cX0_find 14 = .ok (.bipush (-9), 2) := by decide +kernel
theorem dX0_find_16 : decode cX0_find 16 = .ok (.putfield 36, 3) := by decide +kernel
theorem dX0_find_19 : decode cX0_find 19 = .ok (.iconst 0, 1) := by decide +kernel
theorem dX0_find_20 : decode cX0_find 20 = .ok (.istore 4, 2) := by decide +kernel
theorem dX0_find_22 : decode cX0_find 22 = .ok (.iload 4, 2) := by decide +kernel
theorem dX0_find_24 : decode cX0_find 24 = .ok (.bipush 7, 2) := by decide +kernel
theorem dX0_find_26 : decode cX0_find 26 = .ok (.if_icmp .ge 18, 3) := by decide +kernel
theorem dX0_find_29 : decode cX0_find 29 = .ok (.aload_n 0, 1) := by decide +kernel
theorem dX0_find_30 : decode cX0_find 30 = .ok (.getfield 9, 3) := by decide +kernel
theorem dX0_find_33 : decode cX0_find 33 = .ok (.iload 4, 2) := by decide +kernel
theorem dX0_find_35 : decode cX0_find 35 = .ok (.bipush (-9), 2) := by decide +kernel
theorem dX0_find_37 : decode cX0_find 37 = .ok (.iastore, 1) := by decide +kernel
theorem dX0_find_38 : decode cX0_find 38 = .ok (.iinc 4 1, 3) := by decide +kernel
theorem dX0_find_41 : decode cX0_find 41 = .ok (.goto (-19), 3) := by decide +kernel
theorem dX0_find_44 : decode cX0_find 44 = .ok (.aload_n 1, 1) := by decide +kernel
theorem dX0_find_45 : decode cX0_find 45 = .ok (.getfield 40, 3) := by decide +kernel
theorem dX0_find_48 : decode cX0_find 48 = .ok (.ifCond .eq 10, 3) := by decide +kernel
theorem dX0_find_51 : decode cX0_find 51 = .ok (.aload_n 3, 1) := by decide +kernel
theorem dX0_find_52 : decode cX0_find 52 = .ok (.getfield 45, 3) := by decide +kernel
theorem dX0_find_55 : decode cX0_find 55 = .ok (.ifCond .ne 4, 3) := by decide +kernel
theorem dX0_find_58 : decode cX0_find 58 = .ok (.return_, 1) := by decide +kernel
theorem dX0_find_59 : decode cX0_find 59 = .ok (.aload_n 0, 1) := by decide +kernel
theorem dX0_find_60 : decode cX0_find 60 = .ok (.aload_n 1, 1) := by decide +kernel
theorem dX0_find_61 : decode cX0_find 61 = .ok (.aload_n 3, 1) := by decide +kernel
theorem dX0_find_62 : decode cX0_find 62 = .ok (.invokevirtual 50, 3) := by decide +kernel
theorem dX0_find_65 : decode cX0_find 65 = .ok (.iconst 0, 1) := by decide +kernel
theorem dX0_find_66 : decode cX0_find 66 = .ok (.istore 4, 2) := by decide +kernel
theorem dX0_find_68 : decode cX0_find 68 = .ok (.iload 4, 2) := by decide +kernel
theorem dX0_find_70 : decode cX0_find 70 = .ok (.aload_n 1, 1) := by decide +kernel
theorem dX0_find_71 : decode cX0_find 71 = .ok (.getfield 40, 3) := by decide +kernel
theorem dX0_find_74 : decode cX0_find 74 = .ok (.if_icmp .ge 39, 3) := by decide +kernel
theorem dX0_find_77 : decode cX0_find 77 = .ok (.aload_n 2, 1) := by decide +kernel
theorem dX0_find_78 : decode cX0_find 78 = .ok (.iload 4, 2) := by decide +kernel
theorem dX0_find_80 : decode cX0_find 80 = .ok (.invokevirtual 54, 3) := by decide +kernel
theorem dX0_find_83 : decode cX0_find 83 = .ok (.ifCond .eq 24, 3) := by decide +kernel
theorem dX0_find_86 : decode cX0_find 86 = .ok (.aload_n 0, 1) := by decide +kernel
theorem dX0_find_87 : decode cX0_find 87 = .ok (.iload 4, 2) := by decide +kernel
theorem dX0_find_89 : decode cX0_find 89 = .ok (.aload_n 1, 1) := by decide +kernel
theorem dX0_find_90 : decode cX0_find 90 = .ok (.aload_n 2, 1) := by decide +kernel
theorem dX0_find_91 : decode cX0_find 91 = .ok (.invokevirtual 60, 3) := by decide +kernel
theorem dX0_find_94 : decode cX0_find 94 = .ok (.aload_n 0, 1) := by decide +kernel
theorem dX0_find_95 : decode cX0_find 95 = .ok (.aload_n 1, 1) := by decide +kernel
theorem dX0_find_96 : decode cX0_find 96 = .ok (.aload_n 3, 1) := by decide +kernel
theorem dX0_find_97 : decode cX0_find 97 = .ok (.invokevirtual 64, 3) := by decide +kernel
theorem dX0_find_100 : decode cX0_find 100 = .ok (.aload_n 0, 1) := by decide +kernel
theorem dX0_find_101 : decode cX0_find 101 = .ok (.iload 4, 2) := by decide +kernel
theorem dX0_find_103 : decode cX0_find 103 = .ok (.aload_n 3, 1) := by decide +kernel
theorem dX0_find_104 : decode cX0_find 104 = .ok (.invokevirtual 67, 3) := by decide +kernel
theorem dX0_find_107 : decode cX0_find 107 = .ok (.iinc 4 1, 3) := by decide +kernel
theorem dX0_find_110 : decode cX0_find 110 = .ok (.goto (-42), 3) := by decide +kernel
theorem dX0_find_113 : decode cX0_find 113 = .ok (.return_, 1) := by decide +kernel
set_option maxRecDepth 20000 in
theorem ggX0_allowMarks_X2_indexOf : GoodIn wsX0_allowMarks wsX2_indexOf := goodIn_r _ [10, 11, 12, 31, 32] (by decide +kernel) (by decide +kernel)
set_option maxRecDepth 20000 in
theorem gX0_allowMarks_X2_indexOf : GoodIn wsX0_allowMarks (wsV RX0 74 RX2 yX2_indexOf wsX2_indexOf) := goodIn_app (goodIn_of _ (by decide +kernel)) ggX0_allowMarks_X2_indexOf
theorem dX0_allowMarks_0 : decode cX0_allowMarks 0 = .ok (.iconst 0, 1) := by decide +kernel
theorem dX0_allowMarks_1 : decode cX0_allowMarks 1 = .ok (.istore_n 3, 1) := by decide +kernel
theorem dX0_allowMarks_2 : decode cX0_allowMarks 2 = .ok (.iload_n 3, 1) := by decide +kernel
theorem dX0_allowMarks_3 : decode cX0_allowMarks 3 = .ok (.aload_n 1, 1) := by decide +kernel
theorem dX0_allowMarks_4 : decode cX0_allowMarks 4 = .ok (.getfield 40, 3) := by decide +kernel
theorem dX0_allowMarks_7 : decode cX0_allowMarks 7 = .ok (.if_icmp .ge 64, 3) := by decide +kernel
theorem dX0_allowMarks_10 : decode cX0_allowMarks 10 = .ok (.aload_n 2, 1) := by decide +kernel
theorem dX0_allowMarks_11 : decode cX0_allowMarks 11 = .ok (.aload_n 1, 1) := by decide +kernel
theorem dX0_allowMarks_12 : decode cX0_allowMarks 12 = .ok (.getfield 71, 3) := by decide +kernel
theorem dX0_allowMarks_15 : decode cX0_allowMarks 15 = .ok (.iload_n 3, 1) := by decide +kernel
theorem dX0_allowMarks_16 : decode cX0_allowMarks 16 = .ok (.iaload, 1) := by decide +kernel
theorem dX0_allowMarks_17 : decode cX0_allowMarks 17 = .ok (.invokevirtual 74, 3) := by decide +kernel
theorem dX0_allowMarks_20 : decode cX0_allowMarks 20 = .ok (.istore 4, 2) := by decide +kernel
theorem dX0_allowMarks_22 : decode cX0_allowMarks 22 = .ok (.aload_n 0, 1) := by decide +kernel
theorem dX0_allowMarks_23 : decode cX0_allowMarks 23 = .ok (.getfield 15, 3) := by decide +kernel
theorem dX0_allowMarks_26 : decode cX0_allowMarks 26 = .ok (.iload_n 3, 1) := by decide +kernel
theorem dX0_allowMarks_27 : decode cX0_allowMarks 27 = .ok (.iload 4, 2) := by decide +kernel
theorem dX0_allowMarks_29 : decode cX0_allowMarks 29 = .ok (.bipush (-9), 2) := by decide +kernel
theorem dX0_allowMarks_31 : decode cX0_allowMarks 31 = .ok (.if_icmp .ne 7, 3) := by decide +kernel
theorem dX0_allowMarks_34 : decode cX0_allowMarks 34 = .ok (.iconst 0, 1) := by decide +kernel
theorem dX0_allowMarks_35 : decode cX0_allowMarks 35 = .ok (.goto 5, 3) := by decide +kernel
theorem dX0_allowMarks_38 : decode cX0_allowMarks 38 = .ok (.iload 4, 2) := by decide +kernel
theorem dX0_allowMarks_40 : decode cX0_allowMarks 40 = .ok (.iastore, 1) := by decide +kernel
theorem dX0_allowMarks_41 : decode cX0_allowMarks 41 = .ok (.aload_n 0, 1) := by decide +kernel
theorem dX0_allowMarks_42 : decode cX0_allowMarks 42 = .ok (.getfield 18, 3) := by decide +kernel
theorem dX0_allowMarks_45 : decode cX0_allowMarks 45 = .ok (.iload_n 3, 1) := by decide +kernel
theorem dX0_allowMarks_46 : decode cX0_allowMarks 46 = .ok (.iload 4, 2) := by decide +kernel
theorem dX0_allowMarks_48 : decode cX0_allowMarks 48 = .ok (.bipush (-9), 2) := by decide +kernel
theorem dX0_allowMarks_50 : decode cX0_allowMarks 50 = .ok (.if_icmp .ne 12, 3) := by decide +kernel
theorem dX0_allowMarks_53 : decode cX0_allowMarks 53 = .ok (.aload_n 2, 1) := by decide +kernel
theorem dX0_allowMarks_54 : decode cX0_allowMarks 54 = .ok (.getfield 45, 3) := by decide +kernel
theorem dX0_allowMarks_57 : decode cX0_allowMarks 57 = .ok (.iconst 1, 1) := by decide +kernel
theorem dX0_allowMarks_58 : decode cX0_allowMarks 58 = .ok (.isub, 1) := by decide +kernel
theorem dX0_allowMarks_59 : decode cX0_allowMarks 59 = .ok (.goto 5, 3) := by decide +kernel
theorem dX0_allowMarks_62 : decode cX0_allowMarks 62 = .ok (.iload 4, 2) := by decide +kernel
theorem dX0_allowMarks_64 : decode cX0_allowMarks 64 = .ok (.iastore, 1) := by decide +kernel
theorem dX0_allowMarks_65 : decode cX0_allowMarks 65 = .ok (.iinc 3 1, 3) := by decide +kernel
theorem dX0_allowMarks_68 : decode cX0_allowMarks 68 = .ok (.goto (-66), 3) := by decide +kernel
theorem dX0_allowMarks_71 : decode cX0_allowMarks 71 = .ok (.return_, 1) := by decide +kernel
set_option maxRecDepth 20000 in
theorem ggX0_orderFrom_X3_otherEnd : GoodIn wsX0_orderFrom wsX3_otherEnd := goodIn_r _ [10, 11, 12, 22, 23, 24, 25, 26, 27, 28, 29, 30] (by decide +kernel) (by decide +kernel)
set_option maxRecDepth 20000 in
theorem gX0_orderFrom_X3_otherEnd : GoodIn wsX0_orderFrom (wsV RX0 87 RX3 yX3_otherEnd wsX3_otherEnd) := goodIn_app (goodIn_of _ (by decide +kernel)) ggX0_orderFrom_X3_otherEnd
theorem dX0_orderFrom_0 : decode cX0_orderFrom 0 = .ok (.iconst 1, 1) := by decide +kernel
theorem dX0_orderFrom_1 : decode cX0_orderFrom 1 = .ok (.iload_n 1, 1) := by decide +kernel
theorem dX0_orderFrom_2 : decode cX0_orderFrom 2 = .ok (.ishl, 1) := by decide +kernel
theorem dX0_orderFrom_3 : decode cX0_orderFrom 3 = .ok (.istore 4, 2) := by decide +kernel
theorem dX0_orderFrom_5 : decode cX0_orderFrom 5 = .ok (.aload_n 0, 1) := by decide +kernel
theorem dX0_orderFrom_6 : decode cX0_orderFrom 6 = .ok (.getfield 26, 3) := by decide +kernel
theorem dX0_orderFrom_9 : decode cX0_orderFrom 9 = .ok (.iconst 0, 1) := by decide +kernel
theorem dX0_orderFrom_10 : decode cX0_orderFrom 10 = .ok (.iload_n 1, 1) := by decide +kernel
theorem dX0_orderFrom_11 : decode cX0_orderFrom 11 = .ok (.iastore, 1) := by decide +kernel
theorem dX0_orderFrom_12 : decode cX0_orderFrom 12 = .ok (.aload_n 0, 1) := by decide +kernel
theorem dX0_orderFrom_13 : decode cX0_orderFrom 13 = .ok (.iconst 1, 1) := by decide +kernel
theorem dX0_orderFrom_14 : decode cX0_orderFrom 14 = .ok (.putfield 78, 3) := by decide +kernel
theorem dX0_orderFrom_17 : decode cX0_orderFrom 17 = .ok (.iconst 0, 1) := by decide +kernel
theorem dX0_orderFrom_18 : decode cX0_orderFrom 18 = .ok (.istore 5, 2) := by decide +kernel
theorem dX0_orderFrom_20 : decode cX0_orderFrom 20 = .ok (.iload 5, 2) := by decide +kernel
theorem dX0_orderFrom_22 : decode cX0_orderFrom 22 = .ok (.aload_n 0, 1) := by decide +kernel
theorem dX0_orderFrom_23 : decode cX0_orderFrom 23 = .ok (.getfield 78, 3) := by decide +kernel
theorem dX0_orderFrom_26 : decode cX0_orderFrom 26 = .ok (.if_icmp .ge 127, 3) := by decide +kernel
theorem dX0_orderFrom_29 : decode cX0_orderFrom 29 = .ok (.iload 5, 2) := by decide +kernel
theorem dX0_orderFrom_31 : decode cX0_orderFrom 31 = .ok (.bipush 7, 2) := by decide +kernel
theorem dX0_orderFrom_33 : decode cX0_orderFrom 33 = .ok (.if_icmp .ge 120, 3) := by decide +kernel
theorem dX0_orderFrom_36 : decode cX0_orderFrom 36 = .ok (.iconst 0, 1) := by decide +kernel
theorem dX0_orderFrom_37 : decode cX0_orderFrom 37 = .ok (.istore 6, 2) := by decide +kernel
theorem dX0_orderFrom_39 : decode cX0_orderFrom 39 = .ok (.iload 6, 2) := by decide +kernel
theorem dX0_orderFrom_41 : decode cX0_orderFrom 41 = .ok (.aload_n 2, 1) := by decide +kernel
theorem dX0_orderFrom_42 : decode cX0_orderFrom 42 = .ok (.getfield 81, 3) := by decide +kernel
theorem dX0_orderFrom_45 : decode cX0_orderFrom 45 = .ok (.if_icmp .ge 102, 3) := by decide +kernel
theorem dX0_orderFrom_48 : decode cX0_orderFrom 48 = .ok (.aload_n 3, 1) := by decide +kernel
theorem dX0_orderFrom_49 : decode cX0_orderFrom 49 = .ok (.getfield 84, 3) := by decide +kernel
theorem dX0_orderFrom_52 : decode cX0_orderFrom 52 = .ok (.iload 6, 2) := by decide +kernel
theorem dX0_orderFrom_54 : decode cX0_orderFrom 54 = .ok (.iaload, 1) := by decide +kernel
theorem dX0_orderFrom_55 : decode cX0_orderFrom 55 = .ok (.ifCond .ne 19, 3) := by decide +kernel
theorem dX0_orderFrom_58 : decode cX0_orderFrom 58 = .ok (.aload_n 2, 1) := by decide +kernel
theorem dX0_orderFrom_59 : decode cX0_orderFrom 59 = .ok (.iload 6, 2) := by decide +kernel
theorem dX0_orderFrom_61 : decode cX0_orderFrom 61 = .ok (.aload_n 0, 1) := by decide +kernel
theorem dX0_orderFrom_62 : decode cX0_orderFrom 62 = .ok (.getfield 26, 3) := by decide +kernel
theorem dX0_orderFrom_65 : decode cX0_orderFrom 65 = .ok (.iload 5, 2) := by decide +kernel
theorem dX0_orderFrom_67 : decode cX0_orderFrom 67 = .ok (.iaload, 1) := by decide +kernel
theorem dX0_orderFrom_68 : decode cX0_orderFrom 68 = .ok (.invokevirtual 87, 3) := by decide +kernel
theorem dX0_orderFrom_71 : decode cX0_orderFrom 71 = .ok (.goto 5, 3) := by decide +kernel
theorem dX0_orderFrom_74 : decode cX0_orderFrom 74 = .ok (.bipush (-9), 2) := by decide +kernel
theorem dX0_orderFrom_76 : decode cX0_orderFrom 76 = .ok (.istore 7, 2) := by decide +kernel
theorem dX0_orderFrom_78 : decode cX0_orderFrom 78 = .ok (.iload 7, 2) := by decide +kernel
theorem dX0_orderFrom_80 : decode cX0_orderFrom 80 = .ok (.ifCond .lt 61, 3) := by decide +kernel
theorem dX0_orderFrom_83 : decode cX0_orderFrom 83 = .ok (.iload 4, 2) := by decide +kernel
theorem dX0_orderFrom_85 : decode cX0_orderFrom 85 = .ok (.iconst 1, 1) := by decide +kernel
theorem dX0_orderFrom_86 : decode cX0_orderFrom 86 = .ok (.iload 7, 2) := by decide +kernel
theorem dX0_orderFrom_88 : decode cX0_orderFrom 88 = .ok (.ishl, 1) := by decide +kernel
theorem dX0_orderFrom_89 : decode cX0_orderFrom 89 = .ok (.iand, 1) := by decide +kernel
theorem dX0_orderFrom_90 : decode cX0_orderFrom 90 = .ok (.ifCond .ne 51, 3) := by decide +kernel
theorem dX0_orderFrom_93 : decode cX0_orderFrom 93 = .ok (.aload_n 0, 1) := by decide +kernel
theorem dX0_orderFrom_94 : decode cX0_orderFrom 94 = .ok (.getfield 78, 3) := by decide +kernel
theorem dX0_orderFrom_97 : decode cX0_orderFrom 97 = .ok (.bipush 7, 2) := by decide +kernel
theorem dX0_orderFrom_99 : decode cX0_orderFrom 99 = .ok (.if_icmp .ge 42, 3) := by decide +kernel
theorem dX0_orderFrom_102 : decode cX0_orderFrom 102 = .ok (.iload 4, 2) := by decide +kernel
theorem dX0_orderFrom_104 : decode cX0_orderFrom 104 = .ok (.iconst 1, 1) := by decide +kernel
theorem dX0_orderFrom_105 : decode cX0_orderFrom 105 = .ok (.iload 7, 2) := by decide +kernel
theorem dX0_orderFrom_107 : decode cX0_orderFrom 107 = .ok (.ishl, 1) := by decide +kernel
theorem dX0_orderFrom_108 : decode cX0_orderFrom 108 = .ok (.ior, 1) := by decide +kernel
theorem dX0_orderFrom_109 : decode cX0_orderFrom 109 = .ok (.istore 4, 2) := by decide +kernel
theorem dX0_orderFrom_111 : decode cX0_orderFrom 111 = .ok (.aload_n 0, 1) := by decide +kernel
theorem dX0_orderFrom_112 : decode cX0_orderFrom 112 = .ok (.getfield 29, 3) := by decide +kernel
theorem dX0_orderFrom_115 : decode cX0_orderFrom 115 = .ok (.iload 7, 2) := by decide +kernel
theorem dX0_orderFrom_117 : decode cX0_orderFrom 117 = .ok (.iload 6, 2) := by decide +kernel
theorem dX0_orderFrom_119 : decode cX0_orderFrom 119 = .ok (.iastore, 1) := by decide +kernel
theorem dX0_orderFrom_120 : decode cX0_orderFrom 120 = .ok (.aload_n 0, 1) := by decide +kernel
theorem dX0_orderFrom_121 : decode cX0_orderFrom 121 = .ok (.getfield 26, 3) := by decide +kernel
theorem dX0_orderFrom_124 : decode cX0_orderFrom 124 = .ok (.aload_n 0, 1) := by decide +kernel
theorem dX0_orderFrom_125 : decode cX0_orderFrom 125 = .ok (.getfield 78, 3) := by decide +kernel
theorem dX0_orderFrom_128 : decode cX0_orderFrom 128 = .ok (.iload 7, 2) := by decide +kernel
theorem dX0_orderFrom_130 : decode cX0_orderFrom 130 = .ok (.iastore, 1) := by decide +kernel
theorem dX0_orderFrom_131 : decode cX0_orderFrom 131 = .ok (.aload_n 0, 1) := by decide +kernel
theorem dX0_orderFrom_132 : decode cX0_orderFrom 132 = .ok (.dup, 1) := by decide +kernel
theorem dX0_orderFrom_133 : decode cX0_orderFrom 133 = .ok (.getfield 78, 3) := by decide +kernel
theorem dX0_orderFrom_136 : decode cX0_orderFrom 136 = .ok (.iconst 1, 1) := by decide +kernel
theorem dX0_orderFrom_137 : decode cX0_orderFrom 137 = .ok (.iadd, 1) := by decide +kernel
theorem dX0_orderFrom_138 : decode cX0_orderFrom 138 = .ok (.putfield 78, 3) := by decide +kernel
theorem dX0_orderFrom_141 : decode cX0_orderFrom 141 = .ok (.iinc 6 1, 3) := by decide +kernel
theorem dX0_orderFrom_144 : decode cX0_orderFrom 144 = .ok (.goto (-105), 3) := by decide +kernel
theorem dX0_orderFrom_147 : decode cX0_orderFrom 147 = .ok (.iinc 5 1, 3) := by decide +kernel
theorem dX0_orderFrom_150 : decode cX0_orderFrom 150 = .ok (.goto (-130), 3) := by decide +kernel
theorem dX0_orderFrom_153 : decode cX0_orderFrom 153 = .ok (.return_, 1) := by decide +kernel
set_option maxRecDepth 20000 in
theorem ggX0_gather_X3_otherEnd : GoodIn wsX0_gather wsX3_otherEnd := goodIn_r _ [13, 14, 15, 37, 38, 39, 40, 41, 42, 43, 44, 45] (by decide +kernel) (by decide +kernel)
set_option maxRecDepth 20000 in
theorem gX0_gather_X3_otherEnd : GoodIn wsX0_gather (wsV RX0 87 RX3 yX3_otherEnd wsX3_otherEnd) := goodIn_app (goodIn_of _ (by decide +kernel)) ggX0_gather_X3_otherEnd
set_option maxRecDepth 20000 in
theorem ggX0_gather_X0_leastFrom : GoodIn wsX0_gather wsX0_leastFrom := goodIn_r _ [20, 5, 21, 6, 7, 8, 22, 2, 23, 24, 25, 26, 27, 28, 29, 30, 12, 31, 32, 33, 34, 35, 36, 46, 47, 48, 49, 50, 51, 52, 53, 54, 55, 56, 37, 38, 39, 40, 41, 42, 43, 44, 45] (by decide +kernel) (by decide +kernel)
set_option maxRecDepth 20000 in
theorem gX0_gather_X0_leastFrom : GoodIn wsX0_gather (wsV RX0 94 RX0 yX0_leastFrom wsX0_leastFrom) := goodIn_app (goodIn_of _ (by decide +kernel)) ggX0_gather_X0_leastFrom
theorem dX0_gather_0 : decode cX0_gather 0 = .ok (.iconst 0, 1) := by decide +kernel
theorem dX0_gather_1 : decode cX0_gather 1 = .ok (.istore_n 3, 1) := by decide +kernel
theorem dX0_gather_2 : decode cX0_gather 2 = .ok (.iload_n 3, 1) := by decide +kernel
theorem dX0_gather_3 : decode cX0_gather 3 = .ok (.aload_n 1, 1) := by decide +kernel
theorem dX0_gather_4 : decode cX0_gather 4 = .ok (.getfield 40, 3) := by decide +kernel
theorem dX0_gather_7 : decode cX0_gather 7 = .ok (.if_icmp .ge 35, 3) := by decide +kernel
theorem dX0_gather_10 : decode cX0_gather 10 = .ok (.iconst 0, 1) := by decide +kernel
theorem dX0_gather_11 : decode cX0_gather 11 = .ok (.istore 4, 2) := by decide +kernel
theorem dX0_gather_13 : decode cX0_gather 13 = .ok (.iload 4, 2) := by decide +kernel
theorem dX0_gather_15 : decode cX0_gather 15 = .ok (.bipush 16, 2) := by decide +kernel
theorem dX0_gather_17 : decode cX0_gather 17 = .ok (.if_icmp .ge 19, 3) := by decide +kernel
theorem dX0_gather_20 : decode cX0_gather 20 = .ok (.aload_n 0, 1) := by decide +kernel
theorem dX0_gather_21 : decode cX0_gather 21 = .ok (.getfield 23, 3) := by decide +kernel
theorem dX0_gather_24 : decode cX0_gather 24 = .ok (.iload_n 3, 1) := by decide +kernel
theorem dX0_gather_25 : decode cX0_gather 25 = .ok (.aaload, 1) := by decide +kernel
theorem dX0_gather_26 : decode cX0_gather 26 = .ok (.iload 4, 2) := by decide +kernel
theorem dX0_gather_28 : decode cX0_gather 28 = .ok (.iconst 0, 1) := by decide +kernel
theorem dX0_gather_29 : decode cX0_gather 29 = .ok (.iastore, 1) := by decide +kernel
theorem dX0_gather_30 : decode cX0_gather 30 = .ok (.iinc 4 1, 3) := by decide +kernel
theorem dX0_gather_33 : decode cX0_gather 33 = .ok (.goto (-20), 3) := by decide +kernel
theorem dX0_gather_36 : decode cX0_gather 36 = .ok (.iinc 3 1, 3) := by decide +kernel
theorem dX0_gather_39 : decode cX0_gather 39 = .ok (.goto (-37), 3) := by decide +kernel
theorem dX0_gather_42 : decode cX0_gather 42 = .ok (.aload_n 0, 1) := by decide +kernel
theorem dX0_gather_43 : decode cX0_gather 43 = .ok (.getfield 78, 3) := by decide +kernel
theorem dX0_gather_46 : decode cX0_gather 46 = .ok (.iconst 1, 1) := by decide +kernel
theorem dX0_gather_47 : decode cX0_gather 47 = .ok (.isub, 1) := by decide +kernel
theorem dX0_gather_48 : decode cX0_gather 48 = .ok (.istore_n 3, 1) := by decide +kernel
theorem dX0_gather_49 : decode cX0_gather 49 = .ok (.iload_n 3, 1) := by decide +kernel
theorem dX0_gather_50 : decode cX0_gather 50 = .ok (.ifCond .le 92, 3) := by decide +kernel
theorem dX0_gather_53 : decode cX0_gather 53 = .ok (.aload_n 0, 1) := by decide +kernel
theorem dX0_gather_54 : decode cX0_gather 54 = .ok (.getfield 26, 3) := by decide +kernel
theorem dX0_gather_57 : decode cX0_gather 57 = .ok (.iload_n 3, 1) := by decide +kernel
theorem dX0_gather_58 : decode cX0_gather 58 = .ok (.iaload, 1) := by decide +kernel
theorem dX0_gather_59 : decode cX0_gather 59 = .ok (.istore 4, 2) := by decide +kernel
theorem dX0_gather_61 : decode cX0_gather 61 = .ok (.aload_n 1, 1) := by decide +kernel
theorem dX0_gather_62 : decode cX0_gather 62 = .ok (.aload_n 0, 1) := by decide +kernel
theorem dX0_gather_63 : decode cX0_gather 63 = .ok (.getfield 29, 3) := by decide +kernel
theorem dX0_gather_66 : decode cX0_gather 66 = .ok (.iload 4, 2) := by decide +kernel
theorem dX0_gather_68 : decode cX0_gather 68 = .ok (.iaload, 1) := by decide +kernel
theorem dX0_gather_69 : decode cX0_gather 69 = .ok (.iload 4, 2) := by decide +kernel
theorem dX0_gather_71 : decode cX0_gather 71 = .ok (.invokevirtual 87, 3) := by decide +kernel
theorem dX0_gather_74 : decode cX0_gather 74 = .ok (.istore 5, 2) := by decide +kernel
theorem dX0_gather_76 : decode cX0_gather 76 = .ok (.iload 5, 2) := by decide +kernel
theorem dX0_gather_78 : decode cX0_gather 78 = .ok (.ifCond .lt 58, 3) := by decide +kernel
theorem dX0_gather_81 : decode cX0_gather 81 = .ok (.aload_n 0, 1) := by decide +kernel
theorem dX0_gather_82 : decode cX0_gather 82 = .ok (.getfield 15, 3) := by decide +kernel
theorem dX0_gather_85 : decode cX0_gather 85 = .ok (.iload 5, 2) := by decide +kernel
theorem dX0_gather_87 : decode cX0_gather 87 = .ok (.iaload, 1) := by decide +kernel
theorem dX0_gather_88 : decode cX0_gather 88 = .ok (.istore 6, 2) := by decide +kernel
theorem dX0_gather_90 : decode cX0_gather 90 = .ok (.iload 6, 2) := by decide +kernel
theorem dX0_gather_92 : decode cX0_gather 92 = .ok (.aload_n 0, 1) := by decide +kernel
theorem dX0_gather_93 : decode cX0_gather 93 = .ok (.getfield 18, 3) := by decide +kernel
theorem dX0_gather_96 : decode cX0_gather 96 = .ok (.iload 5, 2) := by decide +kernel
theorem dX0_gather_98 : decode cX0_gather 98 = .ok (.iaload, 1) := by decide +kernel
theorem dX0_gather_99 : decode cX0_gather 99 = .ok (.if_icmp .gt 37, 3) := by decide +kernel
theorem dX0_gather_102 : decode cX0_gather 102 = .ok (.aload_n 0, 1) := by decide +kernel
theorem dX0_gather_103 : decode cX0_gather 103 = .ok (.getfield 23, 3) := by decide +kernel
theorem dX0_gather_106 : decode cX0_gather 106 = .ok (.iload 5, 2) := by decide +kernel
theorem dX0_gather_108 : decode cX0_gather 108 = .ok (.aaload, 1) := by decide +kernel
theorem dX0_gather_109 : decode cX0_gather 109 = .ok (.iload 6, 2) := by decide +kernel
theorem dX0_gather_111 : decode cX0_gather 111 = .ok (.dup2, 1) := by decide +kernel
theorem dX0_gather_112 : decode cX0_gather 112 = .ok (.iaload, 1) := by decide +kernel
theorem dX0_gather_113 : decode cX0_gather 113 = .ok (.aload_n 0, 1) := by decide +kernel
theorem dX0_gather_114 : decode cX0_gather 114 = .ok (.iload 4, 2) := by decide +kernel
theorem dX0_gather_116 : decode cX0_gather 116 = .ok (.aload_n 2, 1) := by decide +kernel
theorem dX0_gather_117 : decode cX0_gather 117 = .ok (.getfield 91, 3) := by decide +kernel
theorem dX0_gather_120 : decode cX0_gather 120 = .ok (.iload 6, 2) := by decide +kernel
theorem dX0_gather_122 : decode cX0_gather 122 = .ok (.iaload, 1) := by decide +kernel
theorem dX0_gather_123 : decode cX0_gather 123 = .ok (.aload_n 1, 1) := by decide +kernel
theorem dX0_gather_124 : decode cX0_gather 124 = .ok (.aload_n 2, 1) := by decide +kernel
theorem dX0_gather_125 : decode cX0_gather 125 = .ok (.invokevirtual 94, 3) := by decide +kernel
theorem dX0_gather_128 : decode cX0_gather 128 = .ok (.iadd, 1) := by decide +kernel
theorem dX0_gather_129 : decode cX0_gather 129 = .ok (.iastore, 1) := by decide +kernel
theorem dX0_gather_130 : decode cX0_gather 130 = .ok (.iinc 6 1, 3) := by decide +kernel
theorem dX0_gather_133 : decode cX0_gather 133 = .ok (.goto (-43), 3) := by decide +kernel
theorem dX0_gather_136 : decode cX0_gather 136 = .ok (.iinc 3 (-1), 3) := by decide +kernel
theorem dX0_gather_139 : decode cX0_gather 139 = .ok (.goto (-90), 3) := by decide +kernel
theorem dX0_gather_142 : decode cX0_gather 142 = .ok (.return_, 1) := by decide +kernel
set_option maxRecDepth 20000 in
theorem ggX0_leastFrom_X3_driftBy : GoodIn wsX0_leastFrom wsX3_driftBy := goodIn_r _ [17, 18, 19, 20, 21, 11, 22, 34, 35, 36, 37, 38, 39, 40, 41, 42] (by decide +kernel) (by decide +kernel)
set_option maxRecDepth 20000 in
theorem gX0_leastFrom_X3_driftBy : GoodIn wsX0_leastFrom (wsV RX0 102 RX3 yX3_driftBy wsX3_driftBy) := goodIn_app (goodIn_of _ (by decide +kernel)) ggX0_leastFrom_X3_driftBy
theorem dX0_leastFrom_0 : decode cX0_leastFrom 0 = .ok (.aload_n 0, 1) := by decide +kernel
theorem dX0_leastFrom_1 : decode cX0_leastFrom 1 = .ok (.getfield 29, 3) := by decide +kernel
theorem dX0_leastFrom_4 : decode cX0_leastFrom 4 = .ok (.iload_n 1, 1) := by decide +kernel
theorem dX0_leastFrom_5 : decode cX0_leastFrom 5 = .ok (.iaload, 1) := by decide +kernel
theorem dX0_leastFrom_6 : decode cX0_leastFrom 6 = .ok (.istore 5, 2) := by decide +kernel
theorem dX0_leastFrom_8 : decode cX0_leastFrom 8 = .ok (.ldc 98, 2) := by decide +kernel
theorem dX0_leastFrom_10 : decode cX0_leastFrom 10 = .ok (.istore 6, 2) := by decide +kernel
theorem dX0_leastFrom_12 : decode cX0_leastFrom 12 = .ok (.aload_n 0, 1) := by decide +kernel
theorem dX0_leastFrom_13 : decode cX0_leastFrom 13 = .ok (.getfield 15, 3) := by decide +kernel
theorem dX0_leastFrom_16 : decode cX0_leastFrom 16 = .ok (.iload_n 1, 1) := by decide +kernel
theorem dX0_leastFrom_17 : decode cX0_leastFrom 17 = .ok (.iaload, 1) := by decide +kernel
theorem dX0_leastFrom_18 : decode cX0_leastFrom 18 = .ok (.istore 7, 2) := by decide +kernel
theorem dX0_leastFrom_20 : decode cX0_leastFrom 20 = .ok (.iload 7, 2) := by decide +kernel
theorem dX0_leastFrom_22 : decode cX0_leastFrom 22 = .ok (.aload_n 0, 1) := by decide +kernel
theorem dX0_leastFrom_23 : decode cX0_leastFrom 23 = .ok (.getfield 18, 3) := by decide +kernel
theorem dX0_leastFrom_26 : decode cX0_leastFrom 26 = .ok (.iload_n 1, 1) := by decide +kernel
theorem dX0_leastFrom_27 : decode cX0_leastFrom 27 = .ok (.iaload, 1) := by decide +kernel
theorem dX0_leastFrom_28 : decode cX0_leastFrom 28 = .ok (.if_icmp .gt 80, 3) := by decide +kernel
theorem dX0_leastFrom_31 : decode cX0_leastFrom 31 = .ok (.aload 4, 2) := by decide +kernel
theorem dX0_leastFrom_33 : decode cX0_leastFrom 33 = .ok (.getfield 91, 3) := by decide +kernel
theorem dX0_leastFrom_36 : decode cX0_leastFrom 36 = .ok (.iload 7, 2) := by decide +kernel
theorem dX0_leastFrom_38 : decode cX0_leastFrom 38 = .ok (.iaload, 1) := by decide +kernel
theorem dX0_leastFrom_39 : decode cX0_leastFrom 39 = .ok (.istore 8, 2) := by decide +kernel
theorem dX0_leastFrom_41 : decode cX0_leastFrom 41 = .ok (.aload_n 3, 1) := by decide +kernel
theorem dX0_leastFrom_42 : decode cX0_leastFrom 42 = .ok (.getfield 99, 3) := by decide +kernel
theorem dX0_leastFrom_45 : decode cX0_leastFrom 45 = .ok (.iload 5, 2) := by decide +kernel
theorem dX0_leastFrom_47 : decode cX0_leastFrom 47 = .ok (.iaload, 1) := by decide +kernel
theorem dX0_leastFrom_48 : decode cX0_leastFrom 48 = .ok (.iload_n 1, 1) := by decide +kernel
theorem dX0_leastFrom_49 : decode cX0_leastFrom 49 = .ok (.if_icmp .ne 15, 3) := by decide +kernel
theorem dX0_leastFrom_52 : decode cX0_leastFrom 52 = .ok (.aload_n 3, 1) := by decide +kernel
theorem dX0_leastFrom_53 : decode cX0_leastFrom 53 = .ok (.iload 5, 2) := by decide +kernel
theorem dX0_leastFrom_55 : decode cX0_leastFrom 55 = .ok (.iload 8, 2) := by decide +kernel
theorem dX0_leastFrom_57 : decode cX0_leastFrom 57 = .ok (.iload_n 2, 1) := by decide +kernel
theorem dX0_leastFrom_58 : decode cX0_leastFrom 58 = .ok (.invokevirtual 102, 3) := by decide +kernel
theorem dX0_leastFrom_61 : decode cX0_leastFrom 61 = .ok (.goto 12, 3) := by decide +kernel
theorem dX0_leastFrom_64 : decode cX0_leastFrom 64 = .ok (.aload_n 3, 1) := by decide +kernel
theorem dX0_leastFrom_65 : decode cX0_leastFrom 65 = .ok (.iload 5, 2) := by decide +kernel
theorem dX0_leastFrom_67 : decode cX0_leastFrom 67 = .ok (.iload_n 2, 1) := by decide +kernel
theorem dX0_leastFrom_68 : decode cX0_leastFrom 68 = .ok (.iload 8, 2) := by decide +kernel
theorem dX0_leastFrom_70 : decode cX0_leastFrom 70 = .ok (.invokevirtual 102, 3) := by decide +kernel
theorem dX0_leastFrom_73 : decode cX0_leastFrom 73 = .ok (.istore 9, 2) := by decide +kernel
theorem dX0_leastFrom_75 : decode cX0_leastFrom 75 = .ok (.iload 6, 2) := by decide +kernel
theorem dX0_leastFrom_77 : decode cX0_leastFrom 77 = .ok (.aload_n 0, 1) := by decide +kernel
theorem dX0_leastFrom_78 : decode cX0_leastFrom 78 = .ok (.getfield 23, 3) := by decide +kernel
theorem dX0_leastFrom_81 : decode cX0_leastFrom 81 = .ok (.iload_n 1, 1) := by decide +kernel
theorem dX0_leastFrom_82 : decode cX0_leastFrom 82 = .ok (.aaload, 1) := by decide +kernel
theorem dX0_leastFrom_83 : decode cX0_leastFrom 83 = .ok (.iload 7, 2) := by decide +kernel
theorem dX0_leastFrom_85 : decode cX0_leastFrom 85 = .ok (.iaload, 1) := by decide +kernel
theorem dX0_leastFrom_86 : decode cX0_leastFrom 86 = .ok (.aload_n 3, 1) := by decide +kernel
theorem dX0_leastFrom_87 : decode cX0_leastFrom 87 = .ok (.getfield 106, 3) := by decide +kernel
theorem dX0_leastFrom_90 : decode cX0_leastFrom 90 = .ok (.iload 5, 2) := by decide +kernel
theorem dX0_leastFrom_92 : decode cX0_leastFrom 92 = .ok (.iaload, 1) := by decide +kernel
theorem dX0_leastFrom_93 : decode cX0_leastFrom 93 = .ok (.iload 9, 2) := by decide +kernel
theorem dX0_leastFrom_95 : decode cX0_leastFrom 95 = .ok (.imul, 1) := by decide +kernel
theorem dX0_leastFrom_96 : decode cX0_leastFrom 96 = .ok (.iadd, 1) := by decide +kernel
theorem dX0_leastFrom_97 : decode cX0_leastFrom 97 = .ok (.invokestatic 109, 3) := by decide +kernel
theorem dX0_leastFrom_100 : decode cX0_leastFrom 100 = .ok (.istore 6, 2) := by decide +kernel
theorem dX0_leastFrom_102 : decode cX0_leastFrom 102 = .ok (.iinc 7 1, 3) := by decide +kernel
theorem dX0_leastFrom_105 : decode cX0_leastFrom 105 = .ok (.goto (-85), 3) := by decide +kernel
theorem dX0_leastFrom_108 : decode cX0_leastFrom 108 = .ok (.iload 6, 2) := by decide +kernel
theorem dX0_leastFrom_110 : decode cX0_leastFrom 110 = .ok (.ireturn, 1) := by decide +kernel
theorem dX0_choose_0 : decode cX0_choose 0 = .ok (.aload_n 0, 1) := by decide +kernel
theorem dX0_choose_1 : decode cX0_choose 1 = .ok (.getfield 15, 3) := by decide +kernel
theorem dX0_choose_4 : decode cX0_choose 4 = .ok (.iload_n 1, 1) := by decide +kernel
theorem dX0_choose_5 : decode cX0_choose 5 = .ok (.iaload, 1) := by decide +kernel
theorem dX0_choose_6 : decode cX0_choose 6 = .ok (.istore_n 3, 1) := by decide +kernel
theorem dX0_choose_7 : decode cX0_choose 7 = .ok (.iload_n 3, 1) := by decide +kernel
theorem dX0_choose_8 : decode cX0_choose 8 = .ok (.istore 4, 2) := by decide +kernel
theorem dX0_choose_10 : decode cX0_choose 10 = .ok (.iload 4, 2) := by decide +kernel
theorem dX0_choose_12 : decode cX0_choose 12 = .ok (.aload_n 0, 1) := by decide +kernel
theorem dX0_choose_13 : decode cX0_choose 13 = .ok (.getfield 18, 3) := by decide +kernel
theorem dX0_choose_16 : decode cX0_choose 16 = .ok (.iload_n 1, 1) := by decide +kernel
theorem dX0_choose_17 : decode cX0_choose 17 = .ok (.iaload, 1) := by decide +kernel
theorem dX0_choose_18 : decode cX0_choose 18 = .ok (.if_icmp .gt 32, 3) := by decide +kernel
theorem dX0_choose_21 : decode cX0_choose 21 = .ok (.aload_n 0, 1) := by decide +kernel
theorem dX0_choose_22 : decode cX0_choose 22 = .ok (.getfield 23, 3) := by decide +kernel
theorem dX0_choose_25 : decode cX0_choose 25 = .ok (.iload_n 1, 1) := by decide +kernel
theorem dX0_choose_26 : decode cX0_choose 26 = .ok (.aaload, 1) := by decide +kernel
theorem dX0_choose_27 : decode cX0_choose 27 = .ok (.iload 4, 2) := by decide +kernel
theorem dX0_choose_29 : decode cX0_choose 29 = .ok (.iaload, 1) := by decide +kernel
theorem dX0_choose_30 : decode cX0_choose 30 = .ok (.aload_n 0, 1) := by decide +kernel
theorem dX0_choose_31 : decode cX0_choose 31 = .ok (.getfield 23, 3) := by decide +kernel
theorem dX0_choose_34 : decode cX0_choose 34 = .ok (.iload_n 1, 1) := by decide +kernel
theorem dX0_choose_35 : decode cX0_choose 35 = .ok (.aaload, 1) := by decide +kernel
theorem dX0_choose_36 : decode cX0_choose 36 = .ok (.iload_n 3, 1) := by decide +kernel
theorem dX0_choose_37 : decode cX0_choose 37 = .ok (.iaload, 1) := by decide +kernel
theorem dX0_choose_38 : decode cX0_choose 38 = .ok (.if_icmp .ge 6, 3) := by decide +kernel
theorem dX0_choose_41 : decode cX0_choose 41 = .ok (.iload 4, 2) := by decide +kernel
theorem dX0_choose_43 : decode cX0_choose 43 = .ok (.istore_n 3, 1) := by decide +kernel
theorem dX0_choose_44 : decode cX0_choose 44 = .ok (.iinc 4 1, 3) := by decide +kernel
theorem dX0_choose_47 : decode cX0_choose 47 = .ok (.goto (-37), 3) := by decide +kernel
theorem dX0_choose_50 : decode cX0_choose 50 = .ok (.aload_n 0, 1) := by decide +kernel
theorem dX0_choose_51 : decode cX0_choose 51 = .ok (.getfield 15, 3) := by decide +kernel
theorem dX0_choose_54 : decode cX0_choose 54 = .ok (.iload_n 1, 1) := by decide +kernel
theorem dX0_choose_55 : decode cX0_choose 55 = .ok (.iload_n 3, 1) := by decide +kernel
theorem dX0_choose_56 : decode cX0_choose 56 = .ok (.iastore, 1) := by decide +kernel
theorem dX0_choose_57 : decode cX0_choose 57 = .ok (.aload_n 0, 1) := by decide +kernel
theorem dX0_choose_58 : decode cX0_choose 58 = .ok (.getfield 18, 3) := by decide +kernel
theorem dX0_choose_61 : decode cX0_choose 61 = .ok (.iload_n 1, 1) := by decide +kernel
theorem dX0_choose_62 : decode cX0_choose 62 = .ok (.iload_n 3, 1) := by decide +kernel
theorem dX0_choose_63 : decode cX0_choose 63 = .ok (.iastore, 1) := by decide +kernel
theorem dX0_choose_64 : decode cX0_choose 64 = .ok (.aload_n 0, 1) := by decide +kernel
theorem dX0_choose_65 : decode cX0_choose 65 = .ok (.aload_n 0, 1) := by decide +kernel
theorem dX0_choose_66 : decode cX0_choose 66 = .ok (.getfield 23, 3) := by decide +kernel
theorem dX0_choose_69 : decode cX0_choose 69 = .ok (.iload_n 1, 1) := by decide +kernel
theorem dX0_choose_70 : decode cX0_choose 70 = .ok (.aaload, 1) := by decide +kernel
theorem dX0_choose_71 : decode cX0_choose 71 = .ok (.iload_n 3, 1) := by decide +kernel
theorem dX0_choose_72 : decode cX0_choose 72 = .ok (.iaload, 1) := by decide +kernel
theorem dX0_choose_73 : decode cX0_choose 73 = .ok (.putfield 36, 3) := by decide +kernel
theorem dX0_choose_76 : decode cX0_choose 76 = .ok (.aload_n 0, 1) := by decide +kernel
theorem dX0_choose_77 : decode cX0_choose 77 = .ok (.getfield 9, 3) := by decide +kernel
theorem dX0_choose_80 : decode cX0_choose 80 = .ok (.iload_n 1, 1) := by decide +kernel
theorem dX0_choose_81 : decode cX0_choose 81 = .ok (.aload_n 2, 1) := by decide +kernel
theorem dX0_choose_82 : decode cX0_choose 82 = .ok (.getfield 91, 3) := by decide +kernel
theorem dX0_choose_85 : decode cX0_choose 85 = .ok (.iload_n 3, 1) := by decide +kernel
theorem dX0_choose_86 : decode cX0_choose 86 = .ok (.iaload, 1) := by decide +kernel
theorem dX0_choose_87 : decode cX0_choose 87 = .ok (.iastore, 1) := by decide +kernel
theorem dX0_choose_88 : decode cX0_choose 88 = .ok (.return_, 1) := by decide +kernel
theorem dX1_init_0 : decode cX1_init 0 = .ok (.aload_n 0, 1) := by decide +kernel
theorem dX1_init_1 : decode cX1_init 1 = .ok (.invokespecial 3, 3) := by decide +kernel
theorem dX1_init_4 : decode cX1_init 4 = .ok (.aload_n 0, 1) := by decide +kernel
theorem dX1_init_5 : decode cX1_init 5 = .ok (.bipush 7, 2) := by decide +kernel
theorem dX1_init_7 : decode cX1_init 7 = .ok (.newarray .int, 2) := by decide +kernel
theorem dX1_init_9 : decode cX1_init 9 = .ok (.putfield 9, 3) := by decide +kernel
theorem dX1_init_12 : decode cX1_init 12 = .ok (.aload_n 0, 1) := by decide +kernel
theorem dX1_init_13 : decode cX1_init 13 = .ok (.bipush 7, 2) := by decide +kernel
theorem dX1_init_15 : decode cX1_init 15 = .ok (.newarray .int, 2) := by decide +kernel
theorem dX1_init_17 : decode cX1_init 17 = .ok (.putfield 15, 3) := by decide +kernel
theorem dX1_init_20 : decode cX1_init 20 = .ok (.aload_n 0, 1) := by decide +kernel
theorem dX1_init_21 : decode cX1_init 21 = .ok (.bipush 7, 2) := by decide +kernel
theorem dX1_init_23 : decode cX1_init 23 = .ok (.newarray .int, 2) := by decide +kernel
theorem dX1_init_25 : decode cX1_init 25 = .ok (.putfield 18, 3) := by decide +kernel
theorem dX1_init_28 : decode cX1_init 28 = .ok (.aload_n 0, 1) := by decide +kernel
theorem dX1_init_29 : decode cX1_init 29 = .ok (.bipush 7, 2) := by decide +kernel
theorem dX1_init_31 : decode cX1_init 31 = .ok (.newarray .int, 2) := by decide +kernel
theorem dX1_init_33 : decode cX1_init 33 = .ok (.putfield 21, 3) := by decide +kernel
theorem dX1_init_36 : decode cX1_init 36 = .ok (.aload_n 0, 1) := by decide +kernel
theorem dX1_init_37 : decode cX1_init 37 = .ok (.bipush 12, 2) := by decide +kernel
theorem dX1_init_39 : decode cX1_init 39 = .ok (.newarray .int, 2) := by decide +kernel
theorem dX1_init_41 : decode cX1_init 41 = .ok (.putfield 24, 3) := by decide +kernel
theorem dX1_init_44 : decode cX1_init 44 = .ok (.return_, 1) := by decide +kernel
set_option maxRecDepth 20000 in
theorem ggX1_follow_X1_judge : GoodIn wsX1_follow wsX1_judge := goodIn_r _ [11, 12, 13, 1, 14, 15, 16, 10, 17, 18, 19, 20, 21, 2, 3, 4, 22, 23, 24, 25, 26, 27, 28, 29, 30, 31, 32, 33, 34, 35, 36, 37, 38, 39, 40, 46, 47, 48, 49, 50, 51, 52, 53, 54, 41, 42, 43, 44, 45] (by decide +kernel) (by decide +kernel)
set_option maxRecDepth 20000 in
theorem gX1_follow_X1_judge : GoodIn wsX1_follow (wsV RX1 33 RX1 yX1_judge wsX1_judge) := goodIn_app (goodIn_of _ (by decide +kernel)) ggX1_follow_X1_judge
theorem dX1_follow_0 : decode cX1_follow 0 = .ok (.iconst 0, 1) := by decide +kernel
theorem dX1_follow_1 : decode cX1_follow 1 = .ok (.istore_n 2, 1) := by decide +kernel
theorem dX1_follow_2 : decode cX1_follow 2 = .ok (.iload_n 2, 1) := by decide +kernel
theorem dX1_follow_3 : decode cX1_follow 3 = .ok (.bipush 7, 2) := by decide +kernel
theorem dX1_follow_5 : decode cX1_follow 5 = .ok (.if_icmp .ge 37, 3) := by decide +kernel
theorem dX1_follow_8 : decode cX1_follow 8 = .ok (.aload_n 0, 1) := by decide +kernel
theorem dX1_follow_9 : decode cX1_follow 9 = .ok (.getfield 9, 3) := by decide +kernel
theorem dX1_follow_12 : decode cX1_follow 12 = .ok (.iload_n 2, 1) := by decide +kernel
theorem dX1_follow_13 : decode cX1_follow 13 = .ok (.iload_n 2, 1) := by decide +kernel
theorem dX1_follow_14 : decode cX1_follow 14 = .ok (.iastore, 1) := by decide +kernel
theorem dX1_follow_15 : decode cX1_follow 15 = .ok (.aload_n 0, 1) := by decide +kernel
theorem dX1_follow_16 : decode cX1_follow 16 = .ok (.getfield 15, 3) := by decide +kernel
theorem dX1_follow_19 : decode cX1_follow 19 = .ok (.iload_n 2, 1) := by decide +kernel
theorem dX1_follow_20 : decode cX1_follow 20 = .ok (.iconst 0, 1) := by decide +kernel
theorem dX1_follow_21 : decode cX1_follow 21 = .ok (.iastore, 1) := by decide +kernel
theorem dX1_follow_22 : decode cX1_follow 22 = .ok (.aload_n 0, 1) := by decide +kernel
theorem dX1_follow_23 : decode cX1_follow 23 = .ok (.getfield 18, 3) := by decide +kernel
theorem dX1_follow_26 : decode cX1_follow 26 = .ok (.iload_n 2, 1) := by decide +kernel
theorem dX1_follow_27 : decode cX1_follow 27 = .ok (.iconst 0, 1) := by decide +kernel
theorem dX1_follow_28 : decode cX1_follow 28 = .ok (.iastore, 1) := by decide +kernel
theorem dX1_follow_29 : decode cX1_follow 29 = .ok (.aload_n 0, 1) := by decide +kernel
theorem dX1_follow_30 : decode cX1_follow 30 = .ok (.getfield 21, 3) := by decide +kernel
theorem dX1_follow_33 : decode cX1_follow 33 = .ok (.iload_n 2, 1) := by decide +kernel
theorem dX1_follow_34 : decode cX1_follow 34 = .ok (.iconst 0, 1) := by decide +kernel
theorem dX1_follow_35 : decode cX1_follow 35 = .ok (.iastore, 1) := by decide +kernel
theorem dX1_follow_36 : decode cX1_follow 36 = .ok (.iinc 2 1, 3) := by decide +kernel
theorem dX1_follow_39 : decode cX1_follow 39 = .ok (.goto (-37), 3) := by decide +kernel
theorem dX1_follow_42 : decode cX1_follow 42 = .ok (.iconst 0, 1) := by decide +kernel
theorem dX1_follow_43 : decode cX1_follow 43 = .ok (.istore_n 2, 1) := by decide +kernel
theorem dX1_follow_44 : decode cX1_follow 44 = .ok (.iload_n 2, 1) := by decide +kernel
theorem dX1_follow_45 : decode cX1_follow 45 = .ok (.aload_n 1, 1) := by decide +kernel
theorem dX1_follow_46 : decode cX1_follow 46 = .ok (.getfield 27, 3) := by decide +kernel
theorem dX1_follow_49 : decode cX1_follow 49 = .ok (.if_icmp .ge 21, 3) := by decide +kernel
theorem dX1_follow_52 : decode cX1_follow 52 = .ok (.aload_n 0, 1) := by decide +kernel
theorem dX1_follow_53 : decode cX1_follow 53 = .ok (.getfield 24, 3) := by decide +kernel
theorem dX1_follow_56 : decode cX1_follow 56 = .ok (.iload_n 2, 1) := by decide +kernel
theorem dX1_follow_57 : decode cX1_follow 57 = .ok (.aload_n 0, 1) := by decide +kernel
theorem dX1_follow_58 : decode cX1_follow 58 = .ok (.aload_n 1, 1) := by decide +kernel
theorem dX1_follow_59 : decode cX1_follow 59 = .ok (.iload_n 2, 1) := by decide +kernel
theorem dX1_follow_60 : decode cX1_follow 60 = .ok (.invokevirtual 33, 3) := by decide +kernel
theorem dX1_follow_63 : decode cX1_follow 63 = .ok (.iastore, 1) := by decide +kernel
theorem dX1_follow_64 : decode cX1_follow 64 = .ok (.iinc 2 1, 3) := by decide +kernel
theorem dX1_follow_67 : decode cX1_follow 67 = .ok (.goto (-23), 3) := by decide +kernel
theorem dX1_follow_70 : decode cX1_follow 70 = .ok (.return_, 1) := by decide +kernel
set_option maxRecDepth 20000 in
theorem ggX1_judge_X1_keep : GoodIn wsX1_judge wsX1_keep := goodIn_r _ [8, 1, 2, 3, 9, 10, 11, 12, 13, 14, 15, 16, 17, 18, 19, 20, 21, 22, 23, 24, 25, 26, 35, 36, 37, 38, 39, 40, 41, 42, 43, 44, 45, 46, 47, 48] (by decide +kernel) (by decide +kernel)
set_option maxRecDepth 20000 in
theorem gX1_judge_X1_keep : GoodIn wsX1_judge (wsV RX1 43 RX1 yX1_keep wsX1_keep) := goodIn_app (goodIn_of _ (by decide +kernel)) ggX1_judge_X1_keep
set_option maxRecDepth 20000 in
theorem ggX1_judge_X1_twosBetween : GoodIn wsX1_judge wsX1_twosBetween := goodIn_r _ [30, 13, 44, 45, 46, 47, 48] (by decide +kernel) (by decide +kernel)
set_option maxRecDepth 20000 in
theorem gX1_judge_X1_twosBetween : GoodIn wsX1_judge (wsV RX1 47 RX1 yX1_twosBetween wsX1_twosBetween) := goodIn_app (goodIn_of _ (by decide +kernel)) ggX1_judge_X1_twosBetween
set_option maxRecDepth 20000 in
theorem ggX1_judge_X3_twosOfTie : GoodIn wsX1_judge wsX3_twosOfTie := goodIn_r _ [20, 21, 22, 35, 36, 37, 38, 39, 40, 41, 42, 43] (by decide +kernel) (by decide +kernel)
set_option maxRecDepth 20000 in
theorem gX1_judge_X3_twosOfTie : GoodIn wsX1_judge (wsV RX1 51 RX3 yX3_twosOfTie wsX3_twosOfTie) := goodIn_app (goodIn_of _ (by decide +kernel)) ggX1_judge_X3_twosOfTie
set_option maxRecDepth 20000 in
theorem ggX1_judge_X1_threesBetween : GoodIn wsX1_judge wsX1_threesBetween := goodIn_r _ [34, 14, 44, 45, 46, 47, 48] (by decide +kernel) (by decide +kernel)
set_option maxRecDepth 20000 in
theorem gX1_judge_X1_threesBetween : GoodIn wsX1_judge (wsV RX1 55 RX1 yX1_threesBetween wsX1_threesBetween) := goodIn_app (goodIn_of _ (by decide +kernel)) ggX1_judge_X1_threesBetween
set_option maxRecDepth 20000 in
theorem ggX1_judge_X3_threesOfTie : GoodIn wsX1_judge wsX3_threesOfTie := goodIn_r _ [26, 21, 22, 35, 36, 37, 38, 39, 40, 41, 42, 43] (by decide +kernel) (by decide +kernel)
set_option maxRecDepth 20000 in
theorem gX1_judge_X3_threesOfTie : GoodIn wsX1_judge (wsV RX1 58 RX3 yX3_threesOfTie wsX3_threesOfTie) := goodIn_app (goodIn_of _ (by decide +kernel)) ggX1_judge_X3_threesOfTie
theorem dX1_judge_0 : decode cX1_judge 0 = .ok (.aload_n 1, 1) := by decide +kernel
theorem dX1_judge_1 : decode cX1_judge 1 = .ok (.getfield 37, 3) := by decide +kernel
theorem dX1_judge_4 : decode cX1_judge 4 = .ok (.iload_n 2, 1) := by decide +kernel
theorem dX1_judge_5 : decode cX1_judge 5 = .ok (.iaload, 1) := by decide +kernel
theorem dX1_judge_6 : decode cX1_judge 6 = .ok (.istore_n 3, 1) := by decide +kernel
theorem dX1_judge_7 : decode cX1_judge 7 = .ok (.aload_n 1, 1) := by decide +kernel
theorem dX1_judge_8 : decode cX1_judge 8 = .ok (.getfield 40, 3) := by decide +kernel
theorem dX1_judge_11 : decode cX1_judge 11 = .ok (.iload_n 2, 1) := by decide +kernel
theorem dX1_judge_12 : decode cX1_judge 12 = .ok (.iaload, 1) := by decide +kernel
theorem dX1_judge_13 : decode cX1_judge 13 = .ok (.istore 4, 2) := by decide +kernel
theorem dX1_judge_15 : decode cX1_judge 15 = .ok (.aload_n 0, 1) := by decide +kernel
theorem dX1_judge_16 : decode cX1_judge 16 = .ok (.getfield 9, 3) := by decide +kernel
theorem dX1_judge_19 : decode cX1_judge 19 = .ok (.iload_n 3, 1) := by decide +kernel
theorem dX1_judge_20 : decode cX1_judge 20 = .ok (.iaload, 1) := by decide +kernel
theorem dX1_judge_21 : decode cX1_judge 21 = .ok (.aload_n 0, 1) := by decide +kernel
theorem dX1_judge_22 : decode cX1_judge 22 = .ok (.getfield 9, 3) := by decide +kernel
theorem dX1_judge_25 : decode cX1_judge 25 = .ok (.iload 4, 2) := by decide +kernel
theorem dX1_judge_27 : decode cX1_judge 27 = .ok (.iaload, 1) := by decide +kernel
theorem dX1_judge_28 : decode cX1_judge 28 = .ok (.if_icmp .eq 11, 3) := by decide +kernel
theorem dX1_judge_31 : decode cX1_judge 31 = .ok (.aload_n 0, 1) := by decide +kernel
theorem dX1_judge_32 : decode cX1_judge 32 = .ok (.aload_n 1, 1) := by decide +kernel
theorem dX1_judge_33 : decode cX1_judge 33 = .ok (.iload_n 2, 1) := by decide +kernel
theorem dX1_judge_34 : decode cX1_judge 34 = .ok (.invokevirtual 43, 3) := by decide +kernel
theorem dX1_judge_37 : decode cX1_judge 37 = .ok (.iconst 0, 1) := by decide +kernel
theorem dX1_judge_38 : decode cX1_judge 38 = .ok (.ireturn, 1) := by decide +kernel
theorem dX1_judge_39 : decode cX1_judge 39 = .ok (.aload_n 0, 1) := by decide +kernel
theorem dX1_judge_40 : decode cX1_judge 40 = .ok (.iload_n 3, 1) := by decide +kernel
theorem dX1_judge_41 : decode cX1_judge 41 = .ok (.iload 4, 2) := by decide +kernel
theorem dX1_judge_43 : decode cX1_judge 43 = .ok (.invokevirtual 47, 3) := by decide +kernel
theorem dX1_judge_46 : decode cX1_judge 46 = .ok (.aload_n 1, 1) := by decide +kernel
theorem dX1_judge_47 : decode cX1_judge 47 = .ok (.iload_n 2, 1) := by decide +kernel
theorem dX1_judge_48 : decode cX1_judge 48 = .ok (.invokevirtual 51, 3) := by decide +kernel
theorem dX1_judge_51 : decode cX1_judge 51 = .ok (.if_icmp .ne 22, 3) := by decide +kernel
theorem dX1_judge_54 : decode cX1_judge 54 = .ok (.aload_n 0, 1) := by decide +kernel
theorem dX1_judge_55 : decode cX1_judge 55 = .ok (.iload_n 3, 1) := by decide +kernel
theorem dX1_judge_56 : decode cX1_judge 56 = .ok (.iload 4, 2) := by decide +kernel
theorem dX1_judge_58 : decode cX1_judge 58 = .ok (.invokevirtual 55, 3) := by decide +kernel
theorem dX1_judge_61 : decode cX1_judge 61 = .ok (.aload_n 1, 1) := by decide +kernel
theorem dX1_judge_62 : decode cX1_judge 62 = .ok (.iload_n 2, 1) := by decide +kernel
theorem dX1_judge_63 : decode cX1_judge 63 = .ok (.invokevirtual 58, 3) := by decide +kernel
theorem dX1_judge_66 : decode cX1_judge 66 = .ok (.if_icmp .ne 7, 3) := by decide +kernel
theorem dX1_judge_69 : decode cX1_judge 69 = .ok (.iconst 1, 1) := by decide +kernel
theorem dX1_judge_70 : decode cX1_judge 70 = .ok (.goto 4, 3) := by decide +kernel
theorem dX1_judge_73 : decode cX1_judge 73 = .ok (.iconst 0, 1) := by decide +kernel
theorem dX1_judge_74 : decode cX1_judge 74 = .ok (.istore 5, 2) := by decide +kernel
theorem dX1_judge_76 : decode cX1_judge 76 = .ok (.iload 5, 2) := by decide +kernel
theorem dX1_judge_78 : decode cX1_judge 78 = .ok (.ifCond .eq 7, 3) := by decide +kernel
theorem dX1_judge_81 : decode cX1_judge 81 = .ok (.iconst 1, 1) := by decide +kernel
theorem dX1_judge_82 : decode cX1_judge 82 = .ok (.goto 4, 3) := by decide +kernel
theorem dX1_judge_85 : decode cX1_judge 85 = .ok (.iconst 2, 1) := by decide +kernel
theorem dX1_judge_86 : decode cX1_judge 86 = .ok (.ireturn, 1) := by decide +kernel
set_option maxRecDepth 20000 in
theorem ggX1_keep_X3_twosOfTie : GoodIn wsX1_keep wsX3_twosOfTie := goodIn_r _ [15, 16, 17, 22, 23, 24, 25, 26, 27, 28, 29, 30] (by decide +kernel) (by decide +kernel)
set_option maxRecDepth 20000 in
theorem gX1_keep_X3_twosOfTie : GoodIn wsX1_keep (wsV RX1 51 RX3 yX3_twosOfTie wsX3_twosOfTie) := goodIn_app (goodIn_of _ (by decide +kernel)) ggX1_keep_X3_twosOfTie
set_option maxRecDepth 20000 in
theorem ggX1_keep_X3_threesOfTie : GoodIn wsX1_keep wsX3_threesOfTie := goodIn_r _ [21, 16, 17, 22, 23, 24, 25, 26, 27, 28, 29, 30] (by decide +kernel) (by decide +kernel)
set_option maxRecDepth 20000 in
theorem gX1_keep_X3_threesOfTie : GoodIn wsX1_keep (wsV RX1 58 RX3 yX3_threesOfTie wsX3_threesOfTie) := goodIn_app (goodIn_of _ (by decide +kernel)) ggX1_keep_X3_threesOfTie
theorem dX1_keep_0 : decode cX1_keep 0 = .ok (.aload_n 1, 1) := by decide +kernel
theorem dX1_keep_1 : decode cX1_keep 1 = .ok (.getfield 37, 3) := by decide +kernel
theorem dX1_keep_4 : decode cX1_keep 4 = .ok (.iload_n 2, 1) := by decide +kernel
theorem dX1_keep_5 : decode cX1_keep 5 = .ok (.iaload, 1) := by decide +kernel
theorem dX1_keep_6 : decode cX1_keep 6 = .ok (.istore_n 3, 1) := by decide +kernel
theorem dX1_keep_7 : decode cX1_keep 7 = .ok (.aload_n 1, 1) := by decide +kernel
theorem dX1_keep_8 : decode cX1_keep 8 = .ok (.getfield 40, 3) := by decide +kernel
theorem dX1_keep_11 : decode cX1_keep 11 = .ok (.iload_n 2, 1) := by decide +kernel
theorem dX1_keep_12 : decode cX1_keep 12 = .ok (.iaload, 1) := by decide +kernel
theorem dX1_keep_13 : decode cX1_keep 13 = .ok (.istore 4, 2) := by decide +kernel
theorem dX1_keep_15 : decode cX1_keep 15 = .ok (.aload_n 0, 1) := by decide +kernel
theorem dX1_keep_16 : decode cX1_keep 16 = .ok (.getfield 9, 3) := by decide +kernel
theorem dX1_keep_19 : decode cX1_keep 19 = .ok (.iload_n 3, 1) := by decide +kernel
theorem dX1_keep_20 : decode cX1_keep 20 = .ok (.iaload, 1) := by decide +kernel
theorem dX1_keep_21 : decode cX1_keep 21 = .ok (.istore 5, 2) := by decide +kernel
theorem dX1_keep_23 : decode cX1_keep 23 = .ok (.aload_n 0, 1) := by decide +kernel
theorem dX1_keep_24 : decode cX1_keep 24 = .ok (.getfield 9, 3) := by decide +kernel
theorem dX1_keep_27 : decode cX1_keep 27 = .ok (.iload 4, 2) := by decide +kernel
theorem dX1_keep_29 : decode cX1_keep 29 = .ok (.iaload, 1) := by decide +kernel
theorem dX1_keep_30 : decode cX1_keep 30 = .ok (.istore 6, 2) := by decide +kernel
theorem dX1_keep_32 : decode cX1_keep 32 = .ok (.iload 5, 2) := by decide +kernel
theorem dX1_keep_34 : decode cX1_keep 34 = .ok (.iload 6, 2) := by decide +kernel
theorem dX1_keep_36 : decode cX1_keep 36 = .ok (.invokestatic 61, 3) := by decide +kernel
theorem dX1_keep_39 : decode cX1_keep 39 = .ok (.istore 7, 2) := by decide +kernel
theorem dX1_keep_41 : decode cX1_keep 41 = .ok (.aload_n 0, 1) := by decide +kernel
theorem dX1_keep_42 : decode cX1_keep 42 = .ok (.getfield 15, 3) := by decide +kernel
theorem dX1_keep_45 : decode cX1_keep 45 = .ok (.iload_n 3, 1) := by decide +kernel
theorem dX1_keep_46 : decode cX1_keep 46 = .ok (.iaload, 1) := by decide +kernel
theorem dX1_keep_47 : decode cX1_keep 47 = .ok (.aload_n 1, 1) := by decide +kernel
theorem dX1_keep_48 : decode cX1_keep 48 = .ok (.iload_n 2, 1) := by decide +kernel
theorem dX1_keep_49 : decode cX1_keep 49 = .ok (.invokevirtual 51, 3) := by decide +kernel
theorem dX1_keep_52 : decode cX1_keep 52 = .ok (.iadd, 1) := by decide +kernel
theorem dX1_keep_53 : decode cX1_keep 53 = .ok (.aload_n 0, 1) := by decide +kernel
theorem dX1_keep_54 : decode cX1_keep 54 = .ok (.getfield 15, 3) := by decide +kernel
theorem dX1_keep_57 : decode cX1_keep 57 = .ok (.iload 4, 2) := by decide +kernel
theorem dX1_keep_59 : decode cX1_keep 59 = .ok (.iaload, 1) := by decide +kernel
theorem dX1_keep_60 : decode cX1_keep 60 = .ok (.isub, 1) := by decide +kernel
theorem dX1_keep_61 : decode cX1_keep 61 = .ok (.istore 8, 2) := by decide +kernel
theorem dX1_keep_63 : decode cX1_keep 63 = .ok (.aload_n 0, 1) := by decide +kernel
theorem dX1_keep_64 : decode cX1_keep 64 = .ok (.getfield 18, 3) := by decide +kernel
theorem dX1_keep_67 : decode cX1_keep 67 = .ok (.iload_n 3, 1) := by decide +kernel
theorem dX1_keep_68 : decode cX1_keep 68 = .ok (.iaload, 1) := by decide +kernel
theorem dX1_keep_69 : decode cX1_keep 69 = .ok (.aload_n 1, 1) := by decide +kernel
theorem dX1_keep_70 : decode cX1_keep 70 = .ok (.iload_n 2, 1) := by decide +kernel
theorem dX1_keep_71 : decode cX1_keep 71 = .ok (.invokevirtual 58, 3) := by decide +kernel
theorem dX1_keep_74 : decode cX1_keep 74 = .ok (.iadd, 1) := by decide +kernel
theorem dX1_keep_75 : decode cX1_keep 75 = .ok (.aload_n 0, 1) := by decide +kernel
theorem dX1_keep_76 : decode cX1_keep 76 = .ok (.getfield 18, 3) := by decide +kernel
theorem dX1_keep_79 : decode cX1_keep 79 = .ok (.iload 4, 2) := by decide +kernel
theorem dX1_keep_81 : decode cX1_keep 81 = .ok (.iaload, 1) := by decide +kernel
theorem dX1_keep_82 : decode cX1_keep 82 = .ok (.isub, 1) := by decide +kernel
theorem dX1_keep_83 : decode cX1_keep 83 = .ok (.istore 9, 2) := by decide +kernel
theorem dX1_keep_85 : decode cX1_keep 85 = .ok (.aload_n 0, 1) := by decide +kernel
theorem dX1_keep_86 : decode cX1_keep 86 = .ok (.getfield 21, 3) := by decide +kernel
theorem dX1_keep_89 : decode cX1_keep 89 = .ok (.iload_n 3, 1) := by decide +kernel
theorem dX1_keep_90 : decode cX1_keep 90 = .ok (.iaload, 1) := by decide +kernel
theorem dX1_keep_91 : decode cX1_keep 91 = .ok (.aload_n 0, 1) := by decide +kernel
theorem dX1_keep_92 : decode cX1_keep 92 = .ok (.getfield 21, 3) := by decide +kernel
theorem dX1_keep_95 : decode cX1_keep 95 = .ok (.iload 4, 2) := by decide +kernel
theorem dX1_keep_97 : decode cX1_keep 97 = .ok (.iaload, 1) := by decide +kernel
theorem dX1_keep_98 : decode cX1_keep 98 = .ok (.ixor, 1) := by decide +kernel
theorem dX1_keep_99 : decode cX1_keep 99 = .ok (.iconst 1, 1) := by decide +kernel
theorem dX1_keep_100 : decode cX1_keep 100 = .ok (.iload_n 2, 1) := by decide +kernel
theorem dX1_keep_101 : decode cX1_keep 101 = .ok (.ishl, 1) := by decide +kernel
theorem dX1_keep_102 : decode cX1_keep 102 = .ok (.ixor, 1) := by decide +kernel
theorem dX1_keep_103 : decode cX1_keep 103 = .ok (.istore 10, 2) := by decide +kernel
theorem dX1_keep_105 : decode cX1_keep 105 = .ok (.iconst 0, 1) := by decide +kernel
theorem dX1_keep_106 : decode cX1_keep 106 = .ok (.istore 11, 2) := by decide +kernel
theorem dX1_keep_108 : decode cX1_keep 108 = .ok (.iload 11, 2) := by decide +kernel
theorem dX1_keep_110 : decode cX1_keep 110 = .ok (.bipush 7, 2) := by decide +kernel
theorem dX1_keep_112 : decode cX1_keep 112 = .ok (.if_icmp .ge 90, 3) := by decide +kernel
theorem dX1_keep_115 : decode cX1_keep 115 = .ok (.aload_n 0, 1) := by decide +kernel
theorem dX1_keep_116 : decode cX1_keep 116 = .ok (.getfield 9, 3) := by decide +kernel
theorem dX1_keep_119 : decode cX1_keep 119 = .ok (.iload 11, 2) := by decide +kernel
theorem dX1_keep_121 : decode cX1_keep 121 = .ok (.iaload, 1) := by decide +kernel
theorem dX1_keep_122 : decode cX1_keep 122 = .ok (.iload 6, 2) := by decide +kernel
theorem dX1_keep_124 : decode cX1_keep 124 = .ok (.if_icmp .ne 51, 3) := by decide +kernel
theorem dX1_keep_127 : decode cX1_keep 127 = .ok (.aload_n 0, 1) := by decide +kernel
theorem dX1_keep_128 : decode cX1_keep 128 = .ok (.getfield 15, 3) := by decide +kernel
theorem dX1_keep_131 : decode cX1_keep 131 = .ok (.iload 11, 2) := by decide +kernel
theorem dX1_keep_133 : decode cX1_keep 133 = .ok (.dup2, 1) := by decide +kernel
theorem dX1_keep_134 : decode cX1_keep 134 = .ok (.iaload, 1) := by decide +kernel
theorem dX1_keep_135 : decode cX1_keep 135 = .ok (.iload 8, 2) := by decide +kernel
theorem dX1_keep_137 : decode cX1_keep 137 = .ok (.iadd, 1) := by decide +kernel
theorem dX1_keep_138 : decode cX1_keep 138 = .ok (.iastore, 1) := by decide +kernel
theorem dX1_keep_139 : decode cX1_keep 139 = .ok (.aload_n 0, 1) := by decide +kernel
theorem dX1_keep_140 : decode cX1_keep 140 = .ok (.getfield 18, 3) := by decide +kernel
theorem dX1_keep_143 : decode cX1_keep 143 = .ok (.iload 11, 2) := by decide +kernel
theorem dX1_keep_145 : decode cX1_keep 145 = .ok (.dup2, 1) := by decide +kernel
theorem dX1_keep_146 : decode cX1_keep 146 = .ok (.iaload, 1) := by decide +kernel
theorem dX1_keep_147 : decode cX1_keep 147 = .ok (.iload 9, 2) := by decide +kernel
theorem dX1_keep_149 : decode cX1_keep 149 = .ok (.iadd, 1) := by decide +kernel
theorem dX1_keep_150 : decode cX1_keep 150 = .ok (.iastore, 1) := by decide +kernel
theorem dX1_keep_151 : decode cX1_keep 151 = .ok (.aload_n 0, 1) := by decide +kernel
theorem dX1_keep_152 : decode cX1_keep 152 = .ok (.getfield 21, 3) := by decide +kernel
theorem dX1_keep_155 : decode cX1_keep 155 = .ok (.iload 11, 2) := by decide +kernel
theorem dX1_keep_157 : decode cX1_keep 157 = .ok (.dup2, 1) := by decide +kernel
theorem dX1_keep_158 : decode cX1_keep 158 = .ok (.iaload, 1) := by decide +kernel
theorem dX1_keep_159 : decode cX1_keep 159 = .ok (.iload 10, 2) := by decide +kernel
theorem dX1_keep_161 : decode cX1_keep 161 = .ok (.ixor, 1) := by decide +kernel
theorem dX1_keep_162 : decode cX1_keep 162 = .ok (.iastore, 1) := by decide +kernel
theorem dX1_keep_163 : decode cX1_keep 163 = .ok (.aload_n 0, 1) := by decide +kernel
theorem dX1_keep_164 : decode cX1_keep 164 = .ok (.getfield 9, 3) := by decide +kernel
theorem dX1_keep_167 : decode cX1_keep 167 = .ok (.iload 11, 2) := by decide +kernel
theorem dX1_keep_169 : decode cX1_keep 169 = .ok (.iload 7, 2) := by decide +kernel
theorem dX1_keep_171 : decode cX1_keep 171 = .ok (.iastore, 1) := by decide +kernel
theorem dX1_keep_172 : decode cX1_keep 172 = .ok (.goto 24, 3) := by decide +kernel
theorem dX1_keep_175 : decode cX1_keep 175 = .ok (.aload_n 0, 1) := by decide +kernel
theorem dX1_keep_176 : decode cX1_keep 176 = .ok (.getfield 9, 3) := by decide +kernel
theorem dX1_keep_179 : decode cX1_keep 179 = .ok (.iload 11, 2) := by decide +kernel
theorem dX1_keep_181 : decode cX1_keep 181 = .ok (.iaload, 1) := by decide +kernel
theorem dX1_keep_182 : decode cX1_keep 182 = .ok (.iload 5, 2) := by decide +kernel
theorem dX1_keep_184 : decode cX1_keep 184 = .ok (.if_icmp .ne 12, 3) := by decide +kernel
theorem dX1_keep_187 : decode cX1_keep 187 = .ok (.aload_n 0, 1) := by decide +kernel
theorem dX1_keep_188 : decode cX1_keep 188 = .ok (.getfield 9, 3) := by decide +kernel
theorem dX1_keep_191 : decode cX1_keep 191 = .ok (.iload 11, 2) := by decide +kernel
theorem dX1_keep_193 : decode cX1_keep 193 = .ok (.iload 7, 2) := by decide +kernel
theorem dX1_keep_195 : decode cX1_keep 195 = .ok (.iastore, 1) := by decide +kernel
theorem dX1_keep_196 : decode cX1_keep 196 = .ok (.iinc 11 1, 3) := by decide +kernel
theorem dX1_keep_199 : decode cX1_keep 199 = .ok (.goto (-91), 3) := by decide +kernel
theorem dX1_keep_202 : decode cX1_keep 202 = .ok (.return_, 1) := by decide +kernel
theorem dX1_isPlayed_0 : decode cX1_isPlayed 0 = .ok (.aload_n 0, 1) := by decide +kernel
theorem dX1_isPlayed_1 : decode cX1_isPlayed 1 = .ok (.getfield 9, 3) := by decide +kernel
theorem dX1_isPlayed_4 : decode cX1_isPlayed 4 = .ok (.iload_n 1, 1) := by decide +kernel
theorem dX1_isPlayed_5 : decode cX1_isPlayed 5 = .ok (.iaload, 1) := by decide +kernel
theorem dX1_isPlayed_6 : decode cX1_isPlayed 6 = .ok (.ifCond .ne 7, 3) := by decide +kernel
theorem dX1_isPlayed_9 : decode cX1_isPlayed 9 = .ok (.iconst 1, 1) := by decide +kernel
theorem dX1_isPlayed_10 : decode cX1_isPlayed 10 = .ok (.goto 4, 3) := by decide +kernel
theorem dX1_isPlayed_13 : decode cX1_isPlayed 13 = .ok (.iconst 0, 1) := by decide +kernel
theorem dX1_isPlayed_14 : decode cX1_isPlayed 14 = .ok (.ireturn, 1) := by decide +kernel
theorem dX1_twosBetween_0 : decode cX1_twosBetween 0 = .ok (.aload_n 0, 1) := by decide +kernel
theorem dX1_twosBetween_1 : decode cX1_twosBetween 1 = .ok (.getfield 15, 3) := by decide +kernel
theorem dX1_twosBetween_4 : decode cX1_twosBetween 4 = .ok (.iload_n 2, 1) := by decide +kernel
theorem dX1_twosBetween_5 : decode cX1_twosBetween 5 = .ok (.iaload, 1) := by decide +kernel
theorem dX1_twosBetween_6 : decode cX1_twosBetween 6 = .ok (.aload_n 0, 1) := by decide +kernel
theorem dX1_twosBetween_7 : decode cX1_twosBetween 7 = .ok (.getfield 15, 3) := by decide +kernel
theorem dX1_twosBetween_10 : decode cX1_twosBetween 10 = .ok (.iload_n 1, 1) := by decide +kernel
theorem dX1_twosBetween_11 : decode cX1_twosBetween 11 = .ok (.iaload, 1) := by decide +kernel
theorem dX1_twosBetween_12 : decode cX1_twosBetween 12 = .ok (.isub, 1) := by decide +kernel
theorem dX1_twosBetween_13 : decode cX1_twosBetween 13 = .ok (.ireturn, 1) := by decide +kernel
theorem dX1_threesBetween_0 : decode cX1_threesBetween 0 = .ok (.aload_n 0, 1) := by decide +kernel
theorem dX1_threesBetween_1 : decode cX1_threesBetween 1 = .ok (.getfield 18, 3) := by decide +kernel
theorem dX1_threesBetween_4 : decode cX1_threesBetween 4 = .ok (.iload_n 2, 1) := by decide +kernel
theorem dX1_threesBetween_5 : decode cX1_threesBetween 5 = .ok (.iaload, 1) := by decide +kernel
theorem dX1_threesBetween_6 : decode cX1_threesBetween 6 = .ok (.aload_n 0, 1) := by decide +kernel
theorem dX1_threesBetween_7 : decode cX1_threesBetween 7 = .ok (.getfield 18, 3) := by decide +kernel
theorem dX1_threesBetween_10 : decode cX1_threesBetween 10 = .ok (.iload_n 1, 1) := by decide +kernel
theorem dX1_threesBetween_11 : decode cX1_threesBetween 11 = .ok (.iaload, 1) := by decide +kernel
theorem dX1_threesBetween_12 : decode cX1_threesBetween 12 = .ok (.isub, 1) := by decide +kernel
theorem dX1_threesBetween_13 : decode cX1_threesBetween 13 = .ok (.ireturn, 1) := by decide +kernel
theorem dX1_routeBetween_0 : decode cX1_routeBetween 0 = .ok (.aload_n 0, 1) := by decide +kernel
theorem dX1_routeBetween_1 : decode cX1_routeBetween 1 = .ok (.getfield 21, 3) := by decide +kernel
theorem dX1_routeBetween_4 : decode cX1_routeBetween 4 = .ok (.iload_n 1, 1) := by decide +kernel
theorem dX1_routeBetween_5 : decode cX1_routeBetween 5 = .ok (.iaload, 1) := by decide +kernel
theorem dX1_routeBetween_6 : decode cX1_routeBetween 6 = .ok (.aload_n 0, 1) := by decide +kernel
theorem dX1_routeBetween_7 : decode cX1_routeBetween 7 = .ok (.getfield 21, 3) := by decide +kernel
theorem dX1_routeBetween_10 : decode cX1_routeBetween 10 = .ok (.iload_n 2, 1) := by decide +kernel
theorem dX1_routeBetween_11 : decode cX1_routeBetween 11 = .ok (.iaload, 1) := by decide +kernel
theorem dX1_routeBetween_12 : decode cX1_routeBetween 12 = .ok (.ixor, 1) := by decide +kernel
theorem dX1_routeBetween_13 : decode cX1_routeBetween 13 = .ok (.ireturn, 1) := by decide +kernel
theorem dX1_sizeOfSet_0 : decode cX1_sizeOfSet 0 = .ok (.iconst 0, 1) := by decide +kernel
theorem dX1_sizeOfSet_1 : decode cX1_sizeOfSet 1 = .ok (.istore_n 3, 1) := by decide +kernel
theorem dX1_sizeOfSet_2 : decode cX1_sizeOfSet 2 = .ok (.iconst 0, 1) := by decide +kernel
theorem dX1_sizeOfSet_3 : decode cX1_sizeOfSet 3 = .ok (.istore 4, 2) := by decide +kernel
theorem dX1_sizeOfSet_5 : decode cX1_sizeOfSet 5 = .ok (.iload 4, 2) := by decide +kernel
theorem dX1_sizeOfSet_7 : decode cX1_sizeOfSet 7 = .ok (.iload_n 2, 1) := by decide +kernel
theorem dX1_sizeOfSet_8 : decode cX1_sizeOfSet 8 = .ok (.if_icmp .ge 35, 3) := by decide +kernel
theorem dX1_sizeOfSet_11 : decode cX1_sizeOfSet 11 = .ok (.iload 4, 2) := by decide +kernel
theorem dX1_sizeOfSet_13 : decode cX1_sizeOfSet 13 = .ok (.bipush 7, 2) := by decide +kernel
theorem dX1_sizeOfSet_15 : decode cX1_sizeOfSet 15 = .ok (.if_icmp .ge 28, 3) := by decide +kernel
theorem dX1_sizeOfSet_18 : decode cX1_sizeOfSet 18 = .ok (.aload_n 0, 1) := by decide +kernel
theorem dX1_sizeOfSet_19 : decode cX1_sizeOfSet 19 = .ok (.getfield 9, 3) := by decide +kernel
theorem dX1_sizeOfSet_22 : decode cX1_sizeOfSet 22 = .ok (.iload 4, 2) := by decide +kernel
theorem dX1_sizeOfSet_24 : decode cX1_sizeOfSet 24 = .ok (.iaload, 1) := by decide +kernel
theorem dX1_sizeOfSet_25 : decode cX1_sizeOfSet 25 = .ok (.aload_n 0, 1) := by decide +kernel
theorem dX1_sizeOfSet_26 : decode cX1_sizeOfSet 26 = .ok (.getfield 9, 3) := by decide +kernel
theorem dX1_sizeOfSet_29 : decode cX1_sizeOfSet 29 = .ok (.iload_n 1, 1) := by decide +kernel
theorem dX1_sizeOfSet_30 : decode cX1_sizeOfSet 30 = .ok (.iaload, 1) := by decide +kernel
theorem dX1_sizeOfSet_31 : decode cX1_sizeOfSet 31 = .ok (.if_icmp .ne 6, 3) := by decide +kernel
theorem dX1_sizeOfSet_34 : decode cX1_sizeOfSet 34 = .ok (.iinc 3 1, 3) := by decide +kernel
theorem dX1_sizeOfSet_37 : decode cX1_sizeOfSet 37 = .ok (.iinc 4 1, 3) := by decide +kernel
theorem dX1_sizeOfSet_40 : decode cX1_sizeOfSet 40 = .ok (.goto (-35), 3) := by decide +kernel
theorem dX1_sizeOfSet_43 : decode cX1_sizeOfSet 43 = .ok (.iload_n 3, 1) := by decide +kernel
theorem dX1_sizeOfSet_44 : decode cX1_sizeOfSet 44 = .ok (.ireturn, 1) := by decide +kernel
theorem dX1_countOf_0 : decode cX1_countOf 0 = .ok (.iconst 0, 1) := by decide +kernel
theorem dX1_countOf_1 : decode cX1_countOf 1 = .ok (.istore_n 3, 1) := by decide +kernel
theorem dX1_countOf_2 : decode cX1_countOf 2 = .ok (.iconst 0, 1) := by decide +kernel
theorem dX1_countOf_3 : decode cX1_countOf 3 = .ok (.istore 4, 2) := by decide +kernel
theorem dX1_countOf_5 : decode cX1_countOf 5 = .ok (.iload 4, 2) := by decide +kernel
theorem dX1_countOf_7 : decode cX1_countOf 7 = .ok (.iload_n 2, 1) := by decide +kernel
theorem dX1_countOf_8 : decode cX1_countOf 8 = .ok (.if_icmp .ge 30, 3) := by decide +kernel
theorem dX1_countOf_11 : decode cX1_countOf 11 = .ok (.iload 4, 2) := by decide +kernel
theorem dX1_countOf_13 : decode cX1_countOf 13 = .ok (.bipush 12, 2) := by decide +kernel
theorem dX1_countOf_15 : decode cX1_countOf 15 = .ok (.if_icmp .ge 23, 3) := by decide +kernel
theorem dX1_countOf_18 : decode cX1_countOf 18 = .ok (.aload_n 0, 1) := by decide +kernel
theorem dX1_countOf_19 : decode cX1_countOf 19 = .ok (.getfield 24, 3) := by decide +kernel
theorem dX1_countOf_22 : decode cX1_countOf 22 = .ok (.iload 4, 2) := by decide +kernel
theorem dX1_countOf_24 : decode cX1_countOf 24 = .ok (.iaload, 1) := by decide +kernel
theorem dX1_countOf_25 : decode cX1_countOf 25 = .ok (.iload_n 1, 1) := by decide +kernel
theorem dX1_countOf_26 : decode cX1_countOf 26 = .ok (.if_icmp .ne 6, 3) := by decide +kernel
theorem dX1_countOf_29 : decode cX1_countOf 29 = .ok (.iinc 3 1, 3) := by decide +kernel
theorem dX1_countOf_32 : decode cX1_countOf 32 = .ok (.iinc 4 1, 3) := by decide +kernel
theorem dX1_countOf_35 : decode cX1_countOf 35 = .ok (.goto (-30), 3) := by decide +kernel
theorem dX1_countOf_38 : decode cX1_countOf 38 = .ok (.iload_n 3, 1) := by decide +kernel
theorem dX1_countOf_39 : decode cX1_countOf 39 = .ok (.ireturn, 1) := by decide +kernel
theorem dX2_init_0 : decode cX2_init 0 = .ok (.aload_n 0, 1) := by decide +kernel
theorem dX2_init_1 : decode cX2_init 1 = .ok (.invokespecial 3, 3) := by decide +kernel
theorem dX2_init_4 : decode cX2_init 4 = .ok (.aload_n 0, 1) := by decide +kernel
theorem dX2_init_5 : decode cX2_init 5 = .ok (.bipush 16, 2) := by decide +kernel
theorem dX2_init_7 : decode cX2_init 7 = .ok (.newarray .int, 2) := by decide +kernel
theorem dX2_init_9 : decode cX2_init 9 = .ok (.putfield 9, 3) := by decide +kernel
theorem dX2_init_12 : decode cX2_init 12 = .ok (.aload_n 0, 1) := by decide +kernel
theorem dX2_init_13 : decode cX2_init 13 = .ok (.getfield 9, 3) := by decide +kernel
theorem dX2_init_16 : decode cX2_init 16 = .ok (.iconst 0, 1) := by decide +kernel
theorem dX2_init_17 : decode cX2_init 17 = .ok (.bipush 40, 2) := by decide +kernel
theorem dX2_init_19 : decode cX2_init 19 = .ok (.iastore, 1) := by decide +kernel
theorem dX2_init_20 : decode cX2_init 20 = .ok (.aload_n 0, 1) := by decide +kernel
theorem dX2_init_21 : decode cX2_init 21 = .ok (.getfield 9, 3) := by decide +kernel
theorem dX2_init_24 : decode cX2_init 24 = .ok (.iconst 1, 1) := by decide +kernel
theorem dX2_init_25 : decode cX2_init 25 = .ok (.bipush 60, 2) := by decide +kernel
theorem dX2_init_27 : decode cX2_init 27 = .ok (.iastore, 1) := by decide +kernel
theorem dX2_init_28 : decode cX2_init 28 = .ok (.aload_n 0, 1) := by decide +kernel
theorem dX2_init_29 : decode cX2_init 29 = .ok (.getfield 9, 3) := by decide +kernel
theorem dX2_init_32 : decode cX2_init 32 = .ok (.iconst 2, 1) := by decide +kernel
theorem dX2_init_33 : decode cX2_init 33 = .ok (.bipush 80, 2) := by decide +kernel
theorem dX2_init_35 : decode cX2_init 35 = .ok (.iastore, 1) := by decide +kernel
theorem dX2_init_36 : decode cX2_init 36 = .ok (.aload_n 0, 1) := by decide +kernel
theorem dX2_init_37 : decode cX2_init 37 = .ok (.getfield 9, 3) := by decide +kernel
theorem dX2_init_40 : decode cX2_init 40 = .ok (.iconst 3, 1) := by decide +kernel
theorem dX2_init_41 : decode cX2_init 41 = .ok (.bipush 100, 2) := by decide +kernel
theorem dX2_init_43 : decode cX2_init 43 = .ok (.iastore, 1) := by decide +kernel
theorem dX2_init_44 : decode cX2_init 44 = .ok (.aload_n 0, 1) := by decide +kernel
theorem dX2_init_45 : decode cX2_init 45 = .ok (.getfield 9, 3) := by decide +kernel
theorem dX2_init_48 : decode cX2_init 48 = .ok (.iconst 4, 1) := by decide +kernel
theorem dX2_init_49 : decode cX2_init 49 = .ok (.bipush 120, 2) := by decide +kernel
theorem dX2_init_51 : decode cX2_init 51 = .ok (.iastore, 1) := by decide +kernel
theorem dX2_init_52 : decode cX2_init 52 = .ok (.aload_n 0, 1) := by decide +kernel
theorem dX2_init_53 : decode cX2_init 53 = .ok (.getfield 9, 3) := by decide +kernel
theorem dX2_init_56 : decode cX2_init 56 = .ok (.iconst 5, 1) := by decide +kernel
theorem dX2_init_57 : decode cX2_init 57 = .ok (.sipush 144, 3) := by decide +kernel
theorem dX2_init_60 : decode cX2_init 60 = .ok (.iastore, 1) := by decide +kernel
theorem dX2_init_61 : decode cX2_init 61 = .ok (.aload_n 0, 1) := by decide +kernel
theorem dX2_init_62 : decode cX2_init 62 = .ok (.getfield 9, 3) := by decide +kernel
theorem dX2_init_65 : decode cX2_init 65 = .ok (.bipush 6, 2) := by decide +kernel
theorem dX2_init_67 : decode cX2_init 67 = .ok (.sipush 176, 3) := by decide +kernel
theorem dX2_init_70 : decode cX2_init 70 = .ok (.iastore, 1) := by decide +kernel
theorem dX2_init_71 : decode cX2_init 71 = .ok (.aload_n 0, 1) := by decide +kernel
theorem dX2_init_72 : decode cX2_init 72 = .ok (.getfield 9, 3) := by decide +kernel
theorem dX2_init_75 : decode cX2_init 75 = .ok (.bipush 7, 2) := by decide +kernel
theorem dX2_init_77 : decode cX2_init 77 = .ok (.sipush 208, 3) := by decide +kernel
theorem dX2_init_80 : decode cX2_init 80 = .ok (.iastore, 1) := by decide +kernel
theorem dX2_init_81 : decode cX2_init 81 = .ok (.aload_n 0, 1) := by decide +kernel
theorem dX2_init_82 : decode cX2_init 82 = .ok (.bipush 8, 2) := by decide +kernel
theorem dX2_init_84 : decode cX2_init 84 = .ok (.putfield 15, 3) := by decide +kernel
theorem dX2_init_87 : decode cX2_init 87 = .ok (.return_, 1) := by decide +kernel
theorem dX2_indexOf_0 : decode cX2_indexOf 0 = .ok (.iconst 0, 1) := by decide +kernel
theorem dX2_indexOf_1 : decode cX2_indexOf 1 = .ok (.istore_n 2, 1) := by decide +kernel
theorem dX2_indexOf_2 : decode cX2_indexOf 2 = .ok (.iload_n 2, 1) := by decide +kernel
theorem dX2_indexOf_3 : decode cX2_indexOf 3 = .ok (.aload_n 0, 1) := by decide +kernel
theorem dX2_indexOf_4 : decode cX2_indexOf 4 = .ok (.getfield 15, 3) := by decide +kernel
theorem dX2_indexOf_7 : decode cX2_indexOf 7 = .ok (.if_icmp .ge 21, 3) := by decide +kernel
theorem dX2_indexOf_10 : decode cX2_indexOf 10 = .ok (.aload_n 0, 1) := by decide +kernel
theorem dX2_indexOf_11 : decode cX2_indexOf 11 = .ok (.getfield 9, 3) := by decide +kernel
theorem dX2_indexOf_14 : decode cX2_indexOf 14 = .ok (.iload_n 2, 1) := by decide +kernel
theorem dX2_indexOf_15 : decode cX2_indexOf 15 = .ok (.iaload, 1) := by decide +kernel
theorem dX2_indexOf_16 : decode cX2_indexOf 16 = .ok (.iload_n 1, 1) := by decide +kernel
theorem dX2_indexOf_17 : decode cX2_indexOf 17 = .ok (.if_icmp .ne 5, 3) := by decide +kernel
theorem dX2_indexOf_20 : decode cX2_indexOf 20 = .ok (.iload_n 2, 1) := by decide +kernel
theorem dX2_indexOf_21 : decode cX2_indexOf 21 = .ok (.ireturn, 1) := by decide +kernel
theorem dX2_indexOf_22 : decode cX2_indexOf 22 = .ok (.iinc 2 1, 3) := by decide +kernel
theorem dX2_indexOf_25 : decode cX2_indexOf 25 = .ok (.goto (-23), 3) := by decide +kernel
theorem dX2_indexOf_28 : decode cX2_indexOf 28 = .ok (.bipush (-9), 2) := by decide +kernel
theorem dX2_indexOf_30 : decode cX2_indexOf 30 = .ok (.ireturn, 1) := by decide +kernel
set_option maxRecDepth 20000 in
theorem ggX2_has_X2_indexOf : GoodIn wsX2_has wsX2_indexOf := goodIn_r _ [5, 6, 7, 8, 9] (by decide +kernel) (by decide +kernel)
set_option maxRecDepth 20000 in
theorem gX2_has_X2_indexOf : GoodIn wsX2_has (wsV RX2 19 RX2 yX2_indexOf wsX2_indexOf) := goodIn_app (goodIn_of _ (by decide +kernel)) ggX2_has_X2_indexOf
theorem dX2_has_0 : decode cX2_has 0 = .ok (.aload_n 0, 1) := by decide +kernel
theorem dX2_has_1 : decode cX2_has 1 = .ok (.iload_n 1, 1) := by decide +kernel
theorem dX2_has_2 : decode cX2_has 2 = .ok (.invokevirtual 19, 3) := by decide +kernel
theorem dX2_has_5 : decode cX2_has 5 = .ok (.bipush (-9), 2) := by decide +kernel
theorem dX2_has_7 : decode cX2_has 7 = .ok (.if_icmp .eq 7, 3) := by decide +kernel
theorem dX2_has_10 : decode cX2_has 10 = .ok (.iconst 1, 1) := by decide +kernel
theorem dX2_has_11 : decode cX2_has 11 = .ok (.goto 4, 3) := by decide +kernel
theorem dX2_has_14 : decode cX2_has 14 = .ok (.iconst 0, 1) := by decide +kernel
theorem dX2_has_15 : decode cX2_has 15 = .ok (.ireturn, 1) := by decide +kernel
theorem dX2_put_0 : decode cX2_put 0 = .ok (.aload_n 0, 1) := by decide +kernel
theorem dX2_put_1 : decode cX2_put 1 = .ok (.getfield 15, 3) := by decide +kernel
theorem dX2_put_4 : decode cX2_put 4 = .ok (.bipush 16, 2) := by decide +kernel
theorem dX2_put_6 : decode cX2_put 6 = .ok (.if_icmp .lt 4, 3) := by decide +kernel
theorem dX2_put_9 : decode cX2_put 9 = .ok (.return_, 1) := by decide +kernel
theorem dX2_put_10 : decode cX2_put 10 = .ok (.aload_n 0, 1) := by decide +kernel
theorem dX2_put_11 : decode cX2_put 11 = .ok (.getfield 15, 3) := by decide +kernel
theorem dX2_put_14 : decode cX2_put 14 = .ok (.istore_n 2, 1) := by decide +kernel
theorem dX2_put_15 : decode cX2_put 15 = .ok (.iload_n 2, 1) := by decide +kernel
theorem dX2_put_16 : decode cX2_put 16 = .ok (.ifCond .le 35, 3) := by decide +kernel
theorem dX2_put_19 : decode cX2_put 19 = .ok (.aload_n 0, 1) := by decide +kernel
theorem dX2_put_20 : decode cX2_put 20 = .ok (.getfield 9, 3) := by decide +kernel
theorem dX2_put_23 : decode cX2_put 23 = .ok (.iload_n 2, 1) := by decide +kernel
theorem dX2_put_24 : decode cX2_put 24 = .ok (.iconst 1, 1) := by decide +kernel
theorem dX2_put_25 : decode cX2_put 25 = .ok (.isub, 1) := by decide +kernel
theorem dX2_put_26 : decode cX2_put 26 = .ok (.iaload, 1) := by decide +kernel
theorem dX2_put_27 : decode cX2_put 27 = .ok (.iload_n 1, 1) := by decide +kernel
theorem dX2_put_28 : decode cX2_put 28 = .ok (.if_icmp .le 23, 3) := by decide +kernel
theorem dX2_put_31 : decode cX2_put 31 = .ok (.aload_n 0, 1) := by decide +kernel
theorem dX2_put_32 : decode cX2_put 32 = .ok (.getfield 9, 3) := by decide +kernel
theorem dX2_put_35 : decode cX2_put 35 = .ok (.iload_n 2, 1) := by decide +kernel
theorem dX2_put_36 : decode cX2_put 36 = .ok (.aload_n 0, 1) := by decide +kernel
theorem dX2_put_37 : decode cX2_put 37 = .ok (.getfield 9, 3) := by decide +kernel
theorem dX2_put_40 : decode cX2_put 40 = .ok (.iload_n 2, 1) := by decide +kernel
theorem dX2_put_41 : decode cX2_put 41 = .ok (.iconst 1, 1) := by decide +kernel
theorem dX2_put_42 : decode cX2_put 42 = .ok (.isub, 1) := by decide +kernel
theorem dX2_put_43 : decode cX2_put 43 = .ok (.iaload, 1) := by decide +kernel
theorem dX2_put_44 : decode cX2_put 44 = .ok (.iastore, 1) := by decide +kernel
theorem dX2_put_45 : decode cX2_put 45 = .ok (.iinc 2 (-1), 3) := by decide +kernel
theorem dX2_put_48 : decode cX2_put 48 = .ok (.goto (-33), 3) := by decide +kernel
theorem dX2_put_51 : decode cX2_put 51 = .ok (.aload_n 0, 1) := by decide +kernel
theorem dX2_put_52 : decode cX2_put 52 = .ok (.getfield 9, 3) := by decide +kernel
theorem dX2_put_55 : decode cX2_put 55 = .ok (.iload_n 2, 1) := by decide +kernel
theorem dX2_put_56 : decode cX2_put 56 = .ok (.iload_n 1, 1) := by decide +kernel
theorem dX2_put_57 : decode cX2_put 57 = .ok (.iastore, 1) := by decide +kernel
theorem dX2_put_58 : decode cX2_put 58 = .ok (.aload_n 0, 1) := by decide +kernel
theorem dX2_put_59 : decode cX2_put 59 = .ok (.dup, 1) := by decide +kernel
theorem dX2_put_60 : decode cX2_put 60 = .ok (.getfield 15, 3) := by decide +kernel
theorem dX2_put_63 : decode cX2_put 63 = .ok (.iconst 1, 1) := by decide +kernel
theorem dX2_put_64 : decode cX2_put 64 = .ok (.iadd, 1) := by decide +kernel
theorem dX2_put_65 : decode cX2_put 65 = .ok (.putfield 15, 3) := by decide +kernel
theorem dX2_put_68 : decode cX2_put 68 = .ok (.return_, 1) := by decide +kernel
set_option maxRecDepth 20000 in
theorem ggX2_take_X2_indexOf : GoodIn wsX2_take wsX2_indexOf := goodIn_r _ [7, 1, 2, 8, 9] (by decide +kernel) (by decide +kernel)
set_option maxRecDepth 20000 in
theorem gX2_take_X2_indexOf : GoodIn wsX2_take (wsV RX2 19 RX2 yX2_indexOf wsX2_indexOf) := goodIn_app (goodIn_of _ (by decide +kernel)) ggX2_take_X2_indexOf
theorem dX2_take_0 : decode cX2_take 0 = .ok (.aload_n 0, 1) := by decide +kernel
theorem dX2_take_1 : decode cX2_take 1 = .ok (.iload_n 1, 1) := by decide +kernel
theorem dX2_take_2 : decode cX2_take 2 = .ok (.invokevirtual 19, 3) := by decide +kernel
theorem dX2_take_5 : decode cX2_take 5 = .ok (.istore_n 2, 1) := by decide +kernel
theorem dX2_take_6 : decode cX2_take 6 = .ok (.iload_n 2, 1) := by decide +kernel
theorem dX2_take_7 : decode cX2_take 7 = .ok (.bipush (-9), 2) := by decide +kernel
theorem dX2_take_9 : decode cX2_take 9 = .ok (.if_icmp .ne 4, 3) := by decide +kernel
theorem dX2_take_12 : decode cX2_take 12 = .ok (.return_, 1) := by decide +kernel
theorem dX2_take_13 : decode cX2_take 13 = .ok (.iload_n 2, 1) := by decide +kernel
theorem dX2_take_14 : decode cX2_take 14 = .ok (.istore_n 3, 1) := by decide +kernel
theorem dX2_take_15 : decode cX2_take 15 = .ok (.iload_n 3, 1) := by decide +kernel
theorem dX2_take_16 : decode cX2_take 16 = .ok (.iconst 1, 1) := by decide +kernel
theorem dX2_take_17 : decode cX2_take 17 = .ok (.iadd, 1) := by decide +kernel
theorem dX2_take_18 : decode cX2_take 18 = .ok (.aload_n 0, 1) := by decide +kernel
theorem dX2_take_19 : decode cX2_take 19 = .ok (.getfield 15, 3) := by decide +kernel
theorem dX2_take_22 : decode cX2_take 22 = .ok (.if_icmp .ge 23, 3) := by decide +kernel
theorem dX2_take_25 : decode cX2_take 25 = .ok (.aload_n 0, 1) := by decide +kernel
theorem dX2_take_26 : decode cX2_take 26 = .ok (.getfield 9, 3) := by decide +kernel
theorem dX2_take_29 : decode cX2_take 29 = .ok (.iload_n 3, 1) := by decide +kernel
theorem dX2_take_30 : decode cX2_take 30 = .ok (.aload_n 0, 1) := by decide +kernel
theorem dX2_take_31 : decode cX2_take 31 = .ok (.getfield 9, 3) := by decide +kernel
theorem dX2_take_34 : decode cX2_take 34 = .ok (.iload_n 3, 1) := by decide +kernel
theorem dX2_take_35 : decode cX2_take 35 = .ok (.iconst 1, 1) := by decide +kernel
theorem dX2_take_36 : decode cX2_take 36 = .ok (.iadd, 1) := by decide +kernel
theorem dX2_take_37 : decode cX2_take 37 = .ok (.iaload, 1) := by decide +kernel
theorem dX2_take_38 : decode cX2_take 38 = .ok (.iastore, 1) := by decide +kernel
theorem dX2_take_39 : decode cX2_take 39 = .ok (.iinc 3 1, 3) := by decide +kernel
theorem dX2_take_42 : decode cX2_take 42 = .ok (.goto (-27), 3) := by decide +kernel
theorem dX2_take_45 : decode cX2_take 45 = .ok (.aload_n 0, 1) := by decide +kernel
theorem dX2_take_46 : decode cX2_take 46 = .ok (.dup, 1) := by decide +kernel
theorem dX2_take_47 : decode cX2_take 47 = .ok (.getfield 15, 3) := by decide +kernel
theorem dX2_take_50 : decode cX2_take 50 = .ok (.iconst 1, 1) := by decide +kernel
theorem dX2_take_51 : decode cX2_take 51 = .ok (.isub, 1) := by decide +kernel
theorem dX2_take_52 : decode cX2_take 52 = .ok (.putfield 15, 3) := by decide +kernel
theorem dX2_take_55 : decode cX2_take 55 = .ok (.return_, 1) := by decide +kernel
theorem dX2_nearestTo_0 : decode cX2_nearestTo 0 = .ok (.bipush (-9), 2) := by decide +kernel
theorem dX2_nearestTo_2 : decode cX2_nearestTo 2 = .ok (.istore 5, 2) := by decide +kernel
theorem dX2_nearestTo_4 : decode cX2_nearestTo 4 = .ok (.lconst 0, 1) := by decide +kernel
theorem dX2_nearestTo_5 : decode cX2_nearestTo 5 = .ok (.lstore 6, 2) := by decide +kernel
theorem dX2_nearestTo_7 : decode cX2_nearestTo 7 = .ok (.iconst 0, 1) := by decide +kernel
theorem dX2_nearestTo_8 : decode cX2_nearestTo 8 = .ok (.istore 8, 2) := by decide +kernel
theorem dX2_nearestTo_10 : decode cX2_nearestTo 10 = .ok (.iload 8, 2) := by decide +kernel
theorem dX2_nearestTo_12 : decode cX2_nearestTo 12 = .ok (.aload_n 0, 1) := by decide +kernel
theorem dX2_nearestTo_13 : decode cX2_nearestTo 13 = .ok (.getfield 15, 3) := by decide +kernel
theorem dX2_nearestTo_16 : decode cX2_nearestTo 16 = .ok (.if_icmp .ge 54, 3) := by decide +kernel
theorem dX2_nearestTo_19 : decode cX2_nearestTo 19 = .ok (.lload_n 1, 1) := by decide +kernel
theorem dX2_nearestTo_20 : decode cX2_nearestTo 20 = .ok (.aload_n 0, 1) := by decide +kernel
theorem dX2_nearestTo_21 : decode cX2_nearestTo 21 = .ok (.getfield 9, 3) := by decide +kernel
theorem dX2_nearestTo_24 : decode cX2_nearestTo 24 = .ok (.iload 8, 2) := by decide +kernel
theorem dX2_nearestTo_26 : decode cX2_nearestTo 26 = .ok (.iaload, 1) := by decide +kernel
theorem dX2_nearestTo_27 : decode cX2_nearestTo 27 = .ok (.i2l, 1) := by decide +kernel
theorem dX2_nearestTo_28 : decode cX2_nearestTo 28 = .ok (.lload_n 3, 1) := by decide +kernel
theorem dX2_nearestTo_29 : decode cX2_nearestTo 29 = .ok (.lmul, 1) := by decide +kernel
theorem dX2_nearestTo_30 : decode cX2_nearestTo 30 = .ok (.lsub, 1) := by decide +kernel
theorem dX2_nearestTo_31 : decode cX2_nearestTo 31 = .ok (.invokestatic 23, 3) := by decide +kernel
theorem dX2_nearestTo_34 : decode cX2_nearestTo 34 = .ok (.lstore 9, 2) := by decide +kernel
theorem dX2_nearestTo_36 : decode cX2_nearestTo 36 = .ok (.iload 5, 2) := by decide +kernel
theorem dX2_nearestTo_38 : decode cX2_nearestTo 38 = .ok (.bipush (-9), 2) := by decide +kernel
theorem dX2_nearestTo_40 : decode cX2_nearestTo 40 = .ok (.if_icmp .eq 11, 3) := by decide +kernel
theorem dX2_nearestTo_43 : decode cX2_nearestTo 43 = .ok (.lload 9, 2) := by decide +kernel
theorem dX2_nearestTo_45 : decode cX2_nearestTo 45 = .ok (.lload 6, 2) := by decide +kernel
theorem dX2_nearestTo_47 : decode cX2_nearestTo 47 = .ok (.lcmp, 1) := by decide +kernel
theorem dX2_nearestTo_48 : decode cX2_nearestTo 48 = .ok (.ifCond .ge 16, 3) := by decide +kernel
theorem dX2_nearestTo_51 : decode cX2_nearestTo 51 = .ok (.aload_n 0, 1) := by decide +kernel
theorem dX2_nearestTo_52 : decode cX2_nearestTo 52 = .ok (.getfield 9, 3) := by decide +kernel
theorem dX2_nearestTo_55 : decode cX2_nearestTo 55 = .ok (.iload 8, 2) := by decide +kernel
theorem dX2_nearestTo_57 : decode cX2_nearestTo 57 = .ok (.iaload, 1) := by decide +kernel
theorem dX2_nearestTo_58 : decode cX2_nearestTo 58 = .ok (.istore 5, 2) := by decide +kernel
theorem dX2_nearestTo_60 : decode cX2_nearestTo 60 = .ok (.lload 9, 2) := by decide +kernel
theorem dX2_nearestTo_62 : decode cX2_nearestTo 62 = .ok (.lstore 6, 2) := by decide +kernel
theorem dX2_nearestTo_64 : decode cX2_nearestTo 64 = .ok (.iinc 8 1, 3) := by decide +kernel
theorem dX2_nearestTo_67 : decode cX2_nearestTo 67 = .ok (.goto (-57), 3) := by decide +kernel
theorem dX2_nearestTo_70 : decode cX2_nearestTo 70 = .ok (.iload 5, 2) := by decide +kernel
theorem dX2_nearestTo_72 : decode cX2_nearestTo 72 = .ok (.ireturn, 1) := by decide +kernel
theorem dX3_init_0 : decode cX3_init 0 = .ok (.aload_n 0, 1) := by decide +kernel
theorem dX3_init_1 : decode cX3_init 1 = .ok (.invokespecial 3, 3) := by decide +kernel
theorem dX3_init_4 : decode cX3_init 4 = .ok (.aload_n 0, 1) := by decide +kernel
theorem dX3_init_5 : decode cX3_init 5 = .ok (.bipush 7, 2) := by decide +kernel
theorem dX3_init_7 : decode cX3_init 7 = .ok (.newarray .int, 2) := by decide +kernel
theorem dX3_init_9 : decode cX3_init 9 = .ok (.putfield 9, 3) := by decide +kernel
theorem dX3_init_12 : decode cX3_init 12 = .ok (.aload_n 0, 1) := by decide +kernel
theorem dX3_init_13 : decode cX3_init 13 = .ok (.bipush 7, 2) := by decide +kernel
theorem dX3_init_15 : decode cX3_init 15 = .ok (.newarray .int, 2) := by decide +kernel
theorem dX3_init_17 : decode cX3_init 17 = .ok (.putfield 15, 3) := by decide +kernel
theorem dX3_init_20 : decode cX3_init 20 = .ok (.aload_n 0, 1) := by decide +kernel
theorem dX3_init_21 : decode cX3_init 21 = .ok (.bipush 12, 2) := by decide +kernel
theorem dX3_init_23 : decode cX3_init 23 = .ok (.newarray .int, 2) := by decide +kernel
theorem dX3_init_25 : decode cX3_init 25 = .ok (.putfield 18, 3) := by decide +kernel
theorem dX3_init_28 : decode cX3_init 28 = .ok (.aload_n 0, 1) := by decide +kernel
theorem dX3_init_29 : decode cX3_init 29 = .ok (.bipush 12, 2) := by decide +kernel
theorem dX3_init_31 : decode cX3_init 31 = .ok (.newarray .int, 2) := by decide +kernel
theorem dX3_init_33 : decode cX3_init 33 = .ok (.putfield 21, 3) := by decide +kernel
theorem dX3_init_36 : decode cX3_init 36 = .ok (.aload_n 0, 1) := by decide +kernel
theorem dX3_init_37 : decode cX3_init 37 = .ok (.bipush 12, 2) := by decide +kernel
theorem dX3_init_39 : decode cX3_init 39 = .ok (.newarray .int, 2) := by decide +kernel
theorem dX3_init_41 : decode cX3_init 41 = .ok (.putfield 24, 3) := by decide +kernel
theorem dX3_init_44 : decode cX3_init 44 = .ok (.aload_n 0, 1) := by decide +kernel
theorem dX3_init_45 : decode cX3_init 45 = .ok (.bipush 12, 2) := by decide +kernel
theorem dX3_init_47 : decode cX3_init 47 = .ok (.newarray .int, 2) := by decide +kernel
theorem dX3_init_49 : decode cX3_init 49 = .ok (.putfield 27, 3) := by decide +kernel
theorem dX3_init_52 : decode cX3_init 52 = .ok (.aload_n 0, 1) := by decide +kernel
theorem dX3_init_53 : decode cX3_init 53 = .ok (.bipush 12, 2) := by decide +kernel
theorem dX3_init_55 : decode cX3_init 55 = .ok (.newarray .int, 2) := by decide +kernel
theorem dX3_init_57 : decode cX3_init 57 = .ok (.putfield 30, 3) := by decide +kernel
theorem dX3_init_60 : decode cX3_init 60 = .ok (.return_, 1) := by decide +kernel
theorem dX3_addSection_0 : decode cX3_addSection 0 = .ok (.aload_n 0, 1) := by decide +kernel
theorem dX3_addSection_1 : decode cX3_addSection 1 = .ok (.getfield 9, 3) := by decide +kernel
theorem dX3_addSection_4 : decode cX3_addSection 4 = .ok (.aload_n 0, 1) := by decide +kernel
theorem dX3_addSection_5 : decode cX3_addSection 5 = .ok (.getfield 33, 3) := by decide +kernel
theorem dX3_addSection_8 : decode cX3_addSection 8 = .ok (.iload_n 1, 1) := by decide +kernel
theorem dX3_addSection_9 : decode cX3_addSection 9 = .ok (.iastore, 1) := by decide +kernel
theorem dX3_addSection_10 : decode cX3_addSection 10 = .ok (.aload_n 0, 1) := by decide +kernel
theorem dX3_addSection_11 : decode cX3_addSection 11 = .ok (.getfield 15, 3) := by decide +kernel
theorem dX3_addSection_14 : decode cX3_addSection 14 = .ok (.aload_n 0, 1) := by decide +kernel
theorem dX3_addSection_15 : decode cX3_addSection 15 = .ok (.getfield 33, 3) := by decide +kernel
theorem dX3_addSection_18 : decode cX3_addSection 18 = .ok (.bipush (-9), 2) := by decide +kernel
theorem dX3_addSection_20 : decode cX3_addSection 20 = .ok (.iastore, 1) := by decide +kernel
theorem dX3_addSection_21 : decode cX3_addSection 21 = .ok (.aload_n 0, 1) := by decide +kernel
theorem dX3_addSection_22 : decode cX3_addSection 22 = .ok (.dup, 1) := by decide +kernel
theorem dX3_addSection_23 : decode cX3_addSection 23 = .ok (.getfield 33, 3) := by decide +kernel
theorem dX3_addSection_26 : decode cX3_addSection 26 = .ok (.iconst 1, 1) := by decide +kernel
theorem dX3_addSection_27 : decode cX3_addSection 27 = .ok (.iadd, 1) := by decide +kernel
theorem dX3_addSection_28 : decode cX3_addSection 28 = .ok (.putfield 33, 3) := by decide +kernel
theorem dX3_addSection_31 : decode cX3_addSection 31 = .ok (.aload_n 0, 1) := by decide +kernel
theorem dX3_addSection_32 : decode cX3_addSection 32 = .ok (.getfield 33, 3) := by decide +kernel
theorem dX3_addSection_35 : decode cX3_addSection 35 = .ok (.iconst 1, 1) := by decide +kernel
theorem dX3_addSection_36 : decode cX3_addSection 36 = .ok (.isub, 1) := by decide +kernel
theorem dX3_addSection_37 : decode cX3_addSection 37 = .ok (.ireturn, 1) := by decide +kernel
theorem dX3_addTie_0 : decode cX3_addTie 0 = .ok (.aload_n 0, 1) := by decide +kernel
theorem dX3_addTie_1 : decode cX3_addTie 1 = .ok (.getfield 18, 3) := by decide +kernel
theorem dX3_addTie_4 : decode cX3_addTie 4 = .ok (.aload_n 0, 1) := by decide +kernel
theorem dX3_addTie_5 : decode cX3_addTie 5 = .ok (.getfield 37, 3) := by decide +kernel
theorem dX3_addTie_8 : decode cX3_addTie 8 = .ok (.iload_n 1, 1) := by decide +kernel
theorem dX3_addTie_9 : decode cX3_addTie 9 = .ok (.iastore, 1) := by decide +kernel
theorem dX3_addTie_10 : decode cX3_addTie 10 = .ok (.aload_n 0, 1) := by decide +kernel
theorem dX3_addTie_11 : decode cX3_addTie 11 = .ok (.getfield 21, 3) := by decide +kernel
theorem dX3_addTie_14 : decode cX3_addTie 14 = .ok (.aload_n 0, 1) := by decide +kernel
theorem dX3_addTie_15 : decode cX3_addTie 15 = .ok (.getfield 37, 3) := by decide +kernel
theorem dX3_addTie_18 : decode cX3_addTie 18 = .ok (.iload_n 2, 1) := by decide +kernel
theorem dX3_addTie_19 : decode cX3_addTie 19 = .ok (.iastore, 1) := by decide +kernel
theorem dX3_addTie_20 : decode cX3_addTie 20 = .ok (.aload_n 0, 1) := by decide +kernel
theorem dX3_addTie_21 : decode cX3_addTie 21 = .ok (.getfield 24, 3) := by decide +kernel
theorem dX3_addTie_24 : decode cX3_addTie 24 = .ok (.aload_n 0, 1) := by decide +kernel
theorem dX3_addTie_25 : decode cX3_addTie 25 = .ok (.getfield 37, 3) := by decide +kernel
theorem dX3_addTie_28 : decode cX3_addTie 28 = .ok (.iload_n 3, 1) := by decide +kernel
theorem dX3_addTie_29 : decode cX3_addTie 29 = .ok (.iastore, 1) := by decide +kernel
theorem dX3_addTie_30 : decode cX3_addTie 30 = .ok (.aload_n 0, 1) := by decide +kernel
theorem dX3_addTie_31 : decode cX3_addTie 31 = .ok (.getfield 27, 3) := by decide +kernel
theorem dX3_addTie_34 : decode cX3_addTie 34 = .ok (.aload_n 0, 1) := by decide +kernel
theorem dX3_addTie_35 : decode cX3_addTie 35 = .ok (.getfield 37, 3) := by decide +kernel
theorem dX3_addTie_38 : decode cX3_addTie 38 = .ok (.iload 4, 2) := by decide +kernel
theorem dX3_addTie_40 : decode cX3_addTie 40 = .ok (.iastore, 1) := by decide +kernel
theorem dX3_addTie_41 : decode cX3_addTie 41 = .ok (.aload_n 0, 1) := by decide +kernel
theorem dX3_addTie_42 : decode cX3_addTie 42 = .ok (.getfield 30, 3) := by decide +kernel
theorem dX3_addTie_45 : decode cX3_addTie 45 = .ok (.aload_n 0, 1) := by decide +kernel
theorem dX3_addTie_46 : decode cX3_addTie 46 = .ok (.getfield 37, 3) := by decide +kernel
theorem dX3_addTie_49 : decode cX3_addTie 49 = .ok (.iload 5, 2) := by decide +kernel
theorem dX3_addTie_51 : decode cX3_addTie 51 = .ok (.iastore, 1) := by decide +kernel
theorem dX3_addTie_52 : decode cX3_addTie 52 = .ok (.aload_n 0, 1) := by decide +kernel
theorem dX3_addTie_53 : decode cX3_addTie 53 = .ok (.dup, 1) := by decide +kernel
theorem dX3_addTie_54 : decode cX3_addTie 54 = .ok (.getfield 37, 3) := by decide +kernel
theorem dX3_addTie_57 : decode cX3_addTie 57 = .ok (.iconst 1, 1) := by decide +kernel
theorem dX3_addTie_58 : decode cX3_addTie 58 = .ok (.iadd, 1) := by decide +kernel
theorem dX3_addTie_59 : decode cX3_addTie 59 = .ok (.putfield 37, 3) := by decide +kernel
theorem dX3_addTie_62 : decode cX3_addTie 62 = .ok (.aload_n 0, 1) := by decide +kernel
theorem dX3_addTie_63 : decode cX3_addTie 63 = .ok (.getfield 37, 3) := by decide +kernel
theorem dX3_addTie_66 : decode cX3_addTie 66 = .ok (.iconst 1, 1) := by decide +kernel
theorem dX3_addTie_67 : decode cX3_addTie 67 = .ok (.isub, 1) := by decide +kernel
theorem dX3_addTie_68 : decode cX3_addTie 68 = .ok (.ireturn, 1) := by decide +kernel
theorem dX3_removeTie_0 : decode cX3_removeTie 0 = .ok (.iload_n 1, 1) := by decide +kernel
theorem dX3_removeTie_1 : decode cX3_removeTie 1 = .ok (.istore_n 2, 1) := by decide +kernel
theorem dX3_removeTie_2 : decode cX3_removeTie 2 = .ok (.iload_n 2, 1) := by decide +kernel
theorem dX3_removeTie_3 : decode cX3_removeTie 3 = .ok (.iconst 1, 1) := by decide +kernel
theorem dX3_removeTie_4 : decode cX3_removeTie 4 = .ok (.iadd, 1) := by decide +kernel
theorem dX3_removeTie_5 : decode cX3_removeTie 5 = .ok (.aload_n 0, 1) := by decide +kernel
theorem dX3_removeTie_6 : decode cX3_removeTie 6 = .ok (.getfield 37, 3) := by decide +kernel
theorem dX3_removeTie_9 : decode cX3_removeTie 9 = .ok (.if_icmp .ge 79, 3) := by decide +kernel
theorem dX3_removeTie_12 : decode cX3_removeTie 12 = .ok (.aload_n 0, 1) := by decide +kernel
theorem dX3_removeTie_13 : decode cX3_removeTie 13 = .ok (.getfield 18, 3) := by decide +kernel
theorem dX3_removeTie_16 : decode cX3_removeTie 16 = .ok (.iload_n 2, 1) := by decide +kernel
theorem dX3_removeTie_17 : decode cX3_removeTie 17 = .ok (.aload_n 0, 1) := by decide +kernel
theorem dX3_removeTie_18 : decode cX3_removeTie 18 = .ok (.getfield 18, 3) := by decide +kernel
theorem dX3_removeTie_21 : decode cX3_removeTie 21 = .ok (.iload_n 2, 1) := by decide +kernel
theorem dX3_removeTie_22 : decode cX3_removeTie 22 = .ok (.iconst 1, 1) := by decide +kernel
theorem dX3_removeTie_23 : decode cX3_removeTie 23 = .ok (.iadd, 1) := by decide +kernel
theorem dX3_removeTie_24 : decode cX3_removeTie 24 = .ok (.iaload, 1) := by decide +kernel
theorem dX3_removeTie_25 : decode cX3_removeTie 25 = .ok (.iastore, 1) := by decide +kernel
theorem dX3_removeTie_26 : decode cX3_removeTie 26 = .ok (.aload_n 0, 1) := by decide +kernel
theorem dX3_removeTie_27 : decode cX3_removeTie 27 = .ok (.getfield 21, 3) := by decide +kernel
theorem dX3_removeTie_30 : decode cX3_removeTie 30 = .ok (.iload_n 2, 1) := by decide +kernel
theorem dX3_removeTie_31 : decode cX3_removeTie 31 = .ok (.aload_n 0, 1) := by decide +kernel
theorem dX3_removeTie_32 : decode cX3_removeTie 32 = .ok (.getfield 21, 3) := by decide +kernel
theorem dX3_removeTie_35 : decode cX3_removeTie 35 = .ok (.iload_n 2, 1) := by decide +kernel
theorem dX3_removeTie_36 : decode cX3_removeTie 36 = .ok (.iconst 1, 1) := by decide +kernel
theorem dX3_removeTie_37 : decode cX3_removeTie 37 = .ok (.iadd, 1) := by decide +kernel
theorem dX3_removeTie_38 : decode cX3_removeTie 38 = .ok (.iaload, 1) := by decide +kernel
theorem dX3_removeTie_39 : decode cX3_removeTie 39 = .ok (.iastore, 1) := by decide +kernel
theorem dX3_removeTie_40 : decode cX3_removeTie 40 = .ok (.aload_n 0, 1) := by decide +kernel
theorem dX3_removeTie_41 : decode cX3_removeTie 41 = .ok (.getfield 24, 3) := by decide +kernel
theorem dX3_removeTie_44 : decode cX3_removeTie 44 = .ok (.iload_n 2, 1) := by decide +kernel
theorem dX3_removeTie_45 : decode cX3_removeTie 45 = .ok (.aload_n 0, 1) := by decide +kernel
theorem dX3_removeTie_46 : decode cX3_removeTie 46 = .ok (.getfield 24, 3) := by decide +kernel
theorem dX3_removeTie_49 : decode cX3_removeTie 49 = .ok (.iload_n 2, 1) := by decide +kernel
theorem dX3_removeTie_50 : decode cX3_removeTie 50 = .ok (.iconst 1, 1) := by decide +kernel
theorem dX3_removeTie_51 : decode cX3_removeTie 51 = .ok (.iadd, 1) := by decide +kernel
theorem dX3_removeTie_52 : decode cX3_removeTie 52 = .ok (.iaload, 1) := by decide +kernel
theorem dX3_removeTie_53 : decode cX3_removeTie 53 = .ok (.iastore, 1) := by decide +kernel
theorem dX3_removeTie_54 : decode cX3_removeTie 54 = .ok (.aload_n 0, 1) := by decide +kernel
theorem dX3_removeTie_55 : decode cX3_removeTie 55 = .ok (.getfield 27, 3) := by decide +kernel
theorem dX3_removeTie_58 : decode cX3_removeTie 58 = .ok (.iload_n 2, 1) := by decide +kernel
theorem dX3_removeTie_59 : decode cX3_removeTie 59 = .ok (.aload_n 0, 1) := by decide +kernel
theorem dX3_removeTie_60 : decode cX3_removeTie 60 = .ok (.getfield 27, 3) := by decide +kernel
theorem dX3_removeTie_63 : decode cX3_removeTie 63 = .ok (.iload_n 2, 1) := by decide +kernel
theorem dX3_removeTie_64 : decode cX3_removeTie 64 = .ok (.iconst 1, 1) := by decide +kernel
theorem dX3_removeTie_65 : decode cX3_removeTie 65 = .ok (.iadd, 1) := by decide +kernel
theorem dX3_removeTie_66 : decode cX3_removeTie 66 = .ok (.iaload, 1) := by decide +kernel
theorem dX3_removeTie_67 : decode cX3_removeTie 67 = .ok (.iastore, 1) := by decide +kernel
theorem dX3_removeTie_68 : decode cX3_removeTie 68 = .ok (.aload_n 0, 1) := by decide +kernel
theorem dX3_removeTie_69 : decode cX3_removeTie 69 = .ok (.getfield 30, 3) := by decide +kernel
theorem dX3_removeTie_72 : decode cX3_removeTie 72 = .ok (.iload_n 2, 1) := by decide +kernel
theorem dX3_removeTie_73 : decode cX3_removeTie 73 = .ok (.aload_n 0, 1) := by decide +kernel
theorem dX3_removeTie_74 : decode cX3_removeTie 74 = .ok (.getfield 30, 3) := by decide +kernel
theorem dX3_removeTie_77 : decode cX3_removeTie 77 = .ok (.iload_n 2, 1) := by decide +kernel
theorem dX3_removeTie_78 : decode cX3_removeTie 78 = .ok (.iconst 1, 1) := by decide +kernel
theorem dX3_removeTie_79 : decode cX3_removeTie 79 = .ok (.iadd, 1) := by decide +kernel
theorem dX3_removeTie_80 : decode cX3_removeTie 80 = .ok (.iaload, 1) := by decide +kernel
theorem dX3_removeTie_81 : decode cX3_removeTie 81 = .ok (.iastore, 1) := by decide +kernel
theorem dX3_removeTie_82 : decode cX3_removeTie 82 = .ok (.iinc 2 1, 3) := by decide +kernel
theorem dX3_removeTie_85 : decode cX3_removeTie 85 = .ok (.goto (-83), 3) := by decide +kernel
theorem dX3_removeTie_88 : decode cX3_removeTie 88 = .ok (.aload_n 0, 1) := by decide +kernel
theorem dX3_removeTie_89 : decode cX3_removeTie 89 = .ok (.dup, 1) := by decide +kernel
theorem dX3_removeTie_90 : decode cX3_removeTie 90 = .ok (.getfield 37, 3) := by decide +kernel
theorem dX3_removeTie_93 : decode cX3_removeTie 93 = .ok (.iconst 1, 1) := by decide +kernel
theorem dX3_removeTie_94 : decode cX3_removeTie 94 = .ok (.isub, 1) := by decide +kernel
theorem dX3_removeTie_95 : decode cX3_removeTie 95 = .ok (.putfield 37, 3) := by decide +kernel
theorem dX3_removeTie_98 : decode cX3_removeTie 98 = .ok (.return_, 1) := by decide +kernel
theorem dX3_tiesAt_0 : decode cX3_tiesAt 0 = .ok (.iconst 0, 1) := by decide +kernel
theorem dX3_tiesAt_1 : decode cX3_tiesAt 1 = .ok (.istore_n 2, 1) := by decide +kernel
theorem dX3_tiesAt_2 : decode cX3_tiesAt 2 = .ok (.iconst 0, 1) := by decide +kernel
theorem dX3_tiesAt_3 : decode cX3_tiesAt 3 = .ok (.istore_n 3, 1) := by decide +kernel
theorem dX3_tiesAt_4 : decode cX3_tiesAt 4 = .ok (.iload_n 3, 1) := by decide +kernel
theorem dX3_tiesAt_5 : decode cX3_tiesAt 5 = .ok (.aload_n 0, 1) := by decide +kernel
theorem dX3_tiesAt_6 : decode cX3_tiesAt 6 = .ok (.getfield 37, 3) := by decide +kernel
theorem dX3_tiesAt_9 : decode cX3_tiesAt 9 = .ok (.if_icmp .ge 32, 3) := by decide +kernel
theorem dX3_tiesAt_12 : decode cX3_tiesAt 12 = .ok (.aload_n 0, 1) := by decide +kernel
theorem dX3_tiesAt_13 : decode cX3_tiesAt 13 = .ok (.getfield 18, 3) := by decide +kernel
theorem dX3_tiesAt_16 : decode cX3_tiesAt 16 = .ok (.iload_n 3, 1) := by decide +kernel
theorem dX3_tiesAt_17 : decode cX3_tiesAt 17 = .ok (.iaload, 1) := by decide +kernel
theorem dX3_tiesAt_18 : decode cX3_tiesAt 18 = .ok (.iload_n 1, 1) := by decide +kernel
theorem dX3_tiesAt_19 : decode cX3_tiesAt 19 = .ok (.if_icmp .eq 13, 3) := by decide +kernel
theorem dX3_tiesAt_22 : decode cX3_tiesAt 22 = .ok (.aload_n 0, 1) := by decide +kernel
theorem dX3_tiesAt_23 : decode cX3_tiesAt 23 = .ok (.getfield 24, 3) := by decide +kernel
theorem dX3_tiesAt_26 : decode cX3_tiesAt 26 = .ok (.iload_n 3, 1) := by decide +kernel
theorem dX3_tiesAt_27 : decode cX3_tiesAt 27 = .ok (.iaload, 1) := by decide +kernel
theorem dX3_tiesAt_28 : decode cX3_tiesAt 28 = .ok (.iload_n 1, 1) := by decide +kernel
theorem dX3_tiesAt_29 : decode cX3_tiesAt 29 = .ok (.if_icmp .ne 6, 3) := by decide +kernel
theorem dX3_tiesAt_32 : decode cX3_tiesAt 32 = .ok (.iinc 2 1, 3) := by decide +kernel
theorem dX3_tiesAt_35 : decode cX3_tiesAt 35 = .ok (.iinc 3 1, 3) := by decide +kernel
theorem dX3_tiesAt_38 : decode cX3_tiesAt 38 = .ok (.goto (-34), 3) := by decide +kernel
theorem dX3_tiesAt_41 : decode cX3_tiesAt 41 = .ok (.iload_n 2, 1) := by decide +kernel
theorem dX3_tiesAt_42 : decode cX3_tiesAt 42 = .ok (.ireturn, 1) := by decide +kernel
theorem dX3_otherEnd_0 : decode cX3_otherEnd 0 = .ok (.aload_n 0, 1) := by decide +kernel
theorem dX3_otherEnd_1 : decode cX3_otherEnd 1 = .ok (.getfield 18, 3) := by decide +kernel
theorem dX3_otherEnd_4 : decode cX3_otherEnd 4 = .ok (.iload_n 1, 1) := by decide +kernel
theorem dX3_otherEnd_5 : decode cX3_otherEnd 5 = .ok (.iaload, 1) := by decide +kernel
theorem dX3_otherEnd_6 : decode cX3_otherEnd 6 = .ok (.iload_n 2, 1) := by decide +kernel
theorem dX3_otherEnd_7 : decode cX3_otherEnd 7 = .ok (.if_icmp .ne 10, 3) := by decide +kernel
theorem dX3_otherEnd_10 : decode cX3_otherEnd 10 = .ok (.aload_n 0, 1) := by decide +kernel
theorem dX3_otherEnd_11 : decode cX3_otherEnd 11 = .ok (.getfield 24, 3) := by decide +kernel
theorem dX3_otherEnd_14 : decode cX3_otherEnd 14 = .ok (.iload_n 1, 1) := by decide +kernel
theorem dX3_otherEnd_15 : decode cX3_otherEnd 15 = .ok (.iaload, 1) := by decide +kernel
theorem dX3_otherEnd_16 : decode cX3_otherEnd 16 = .ok (.ireturn, 1) := by decide +kernel
theorem dX3_otherEnd_17 : decode cX3_otherEnd 17 = .ok (.aload_n 0, 1) := by decide +kernel
theorem dX3_otherEnd_18 : decode cX3_otherEnd 18 = .ok (.getfield 24, 3) := by decide +kernel
theorem dX3_otherEnd_21 : decode cX3_otherEnd 21 = .ok (.iload_n 1, 1) := by decide +kernel
theorem dX3_otherEnd_22 : decode cX3_otherEnd 22 = .ok (.iaload, 1) := by decide +kernel
theorem dX3_otherEnd_23 : decode cX3_otherEnd 23 = .ok (.iload_n 2, 1) := by decide +kernel
theorem dX3_otherEnd_24 : decode cX3_otherEnd 24 = .ok (.if_icmp .ne 12, 3) := by decide +kernel
theorem dX3_otherEnd_27 : decode cX3_otherEnd 27 = .ok (.aload_n 0, 1) := by decide +kernel
theorem dX3_otherEnd_28 : decode cX3_otherEnd 28 = .ok (.getfield 18, 3) := by decide +kernel
theorem dX3_otherEnd_31 : decode cX3_otherEnd 31 = .ok (.iload_n 1, 1) := by decide +kernel
theorem dX3_otherEnd_32 : decode cX3_otherEnd 32 = .ok (.iaload, 1) := by decide +kernel
theorem dX3_otherEnd_33 : decode cX3_otherEnd 33 = .ok (.goto 5, 3) := by decide +kernel
theorem dX3_otherEnd_36 : decode cX3_otherEnd 36 = .ok (.bipush (-9), 2) := by decide +kernel
theorem dX3_otherEnd_38 : decode cX3_otherEnd 38 = .ok (.ireturn, 1) := by decide +kernel
theorem dX3_twosOfTie_0 : decode cX3_twosOfTie 0 = .ok (.getstatic 40, 3) := by decide +kernel
theorem dX3_twosOfTie_3 : decode cX3_twosOfTie 3 = .ok (.aload_n 0, 1) := by decide +kernel
theorem dX3_twosOfTie_4 : decode cX3_twosOfTie 4 = .ok (.getfield 27, 3) := by decide +kernel
theorem dX3_twosOfTie_7 : decode cX3_twosOfTie 7 = .ok (.iload_n 1, 1) := by decide +kernel
theorem dX3_twosOfTie_8 : decode cX3_twosOfTie 8 = .ok (.iaload, 1) := by decide +kernel
theorem dX3_twosOfTie_9 : decode cX3_twosOfTie 9 = .ok (.iaload, 1) := by decide +kernel
theorem dX3_twosOfTie_10 : decode cX3_twosOfTie 10 = .ok (.getstatic 40, 3) := by decide +kernel
theorem dX3_twosOfTie_13 : decode cX3_twosOfTie 13 = .ok (.aload_n 0, 1) := by decide +kernel
theorem dX3_twosOfTie_14 : decode cX3_twosOfTie 14 = .ok (.getfield 21, 3) := by decide +kernel
theorem dX3_twosOfTie_17 : decode cX3_twosOfTie 17 = .ok (.iload_n 1, 1) := by decide +kernel
theorem dX3_twosOfTie_18 : decode cX3_twosOfTie 18 = .ok (.iaload, 1) := by decide +kernel
theorem dX3_twosOfTie_19 : decode cX3_twosOfTie 19 = .ok (.iaload, 1) := by decide +kernel
theorem dX3_twosOfTie_20 : decode cX3_twosOfTie 20 = .ok (.isub, 1) := by decide +kernel
theorem dX3_twosOfTie_21 : decode cX3_twosOfTie 21 = .ok (.ireturn, 1) := by decide +kernel
theorem dX3_threesOfTie_0 : decode cX3_threesOfTie 0 = .ok (.getstatic 43, 3) := by decide +kernel
theorem dX3_threesOfTie_3 : decode cX3_threesOfTie 3 = .ok (.aload_n 0, 1) := by decide +kernel
theorem dX3_threesOfTie_4 : decode cX3_threesOfTie 4 = .ok (.getfield 27, 3) := by decide +kernel
theorem dX3_threesOfTie_7 : decode cX3_threesOfTie 7 = .ok (.iload_n 1, 1) := by decide +kernel
theorem dX3_threesOfTie_8 : decode cX3_threesOfTie 8 = .ok (.iaload, 1) := by decide +kernel
theorem dX3_threesOfTie_9 : decode cX3_threesOfTie 9 = .ok (.iaload, 1) := by decide +kernel
theorem dX3_threesOfTie_10 : decode cX3_threesOfTie 10 = .ok (.getstatic 43, 3) := by decide +kernel
theorem dX3_threesOfTie_13 : decode cX3_threesOfTie 13 = .ok (.aload_n 0, 1) := by decide +kernel
theorem dX3_threesOfTie_14 : decode cX3_threesOfTie 14 = .ok (.getfield 21, 3) := by decide +kernel
theorem dX3_threesOfTie_17 : decode cX3_threesOfTie 17 = .ok (.iload_n 1, 1) := by decide +kernel
theorem dX3_threesOfTie_18 : decode cX3_threesOfTie 18 = .ok (.iaload, 1) := by decide +kernel
theorem dX3_threesOfTie_19 : decode cX3_threesOfTie 19 = .ok (.iaload, 1) := by decide +kernel
theorem dX3_threesOfTie_20 : decode cX3_threesOfTie 20 = .ok (.isub, 1) := by decide +kernel
theorem dX3_threesOfTie_21 : decode cX3_threesOfTie 21 = .ok (.ireturn, 1) := by decide +kernel
theorem dX3_driftBy_0 : decode cX3_driftBy 0 = .ok (.iload_n 3, 1) := by decide +kernel
theorem dX3_driftBy_1 : decode cX3_driftBy 1 = .ok (.getstatic 46, 3) := by decide +kernel
theorem dX3_driftBy_4 : decode cX3_driftBy 4 = .ok (.aload_n 0, 1) := by decide +kernel
theorem dX3_driftBy_5 : decode cX3_driftBy 5 = .ok (.getfield 21, 3) := by decide +kernel
theorem dX3_driftBy_8 : decode cX3_driftBy 8 = .ok (.iload_n 1, 1) := by decide +kernel
theorem dX3_driftBy_9 : decode cX3_driftBy 9 = .ok (.iaload, 1) := by decide +kernel
theorem dX3_driftBy_10 : decode cX3_driftBy 10 = .ok (.iaload, 1) := by decide +kernel
theorem dX3_driftBy_11 : decode cX3_driftBy 11 = .ok (.imul, 1) := by decide +kernel
theorem dX3_driftBy_12 : decode cX3_driftBy 12 = .ok (.iload_n 2, 1) := by decide +kernel
theorem dX3_driftBy_13 : decode cX3_driftBy 13 = .ok (.getstatic 46, 3) := by decide +kernel
theorem dX3_driftBy_16 : decode cX3_driftBy 16 = .ok (.aload_n 0, 1) := by decide +kernel
theorem dX3_driftBy_17 : decode cX3_driftBy 17 = .ok (.getfield 27, 3) := by decide +kernel
theorem dX3_driftBy_20 : decode cX3_driftBy 20 = .ok (.iload_n 1, 1) := by decide +kernel
theorem dX3_driftBy_21 : decode cX3_driftBy 21 = .ok (.iaload, 1) := by decide +kernel
theorem dX3_driftBy_22 : decode cX3_driftBy 22 = .ok (.iaload, 1) := by decide +kernel
theorem dX3_driftBy_23 : decode cX3_driftBy 23 = .ok (.imul, 1) := by decide +kernel
theorem dX3_driftBy_24 : decode cX3_driftBy 24 = .ok (.isub, 1) := by decide +kernel
theorem dX3_driftBy_25 : decode cX3_driftBy 25 = .ok (.invokestatic 49, 3) := by decide +kernel
theorem dX3_driftBy_28 : decode cX3_driftBy 28 = .ok (.ireturn, 1) := by decide +kernel
theorem dX4_init_0 : decode cX4_init 0 = .ok (.aload_n 0, 1) := by decide +kernel
theorem dX4_init_1 : decode cX4_init 1 = .ok (.invokespecial 5, 3) := by decide +kernel
theorem dX4_init_4 : decode cX4_init 4 = .ok (.aload_n 0, 1) := by decide +kernel
theorem dX4_init_5 : decode cX4_init 5 = .ok (.iconst 5, 1) := by decide +kernel
theorem dX4_init_6 : decode cX4_init 6 = .ok (.newarray .int, 2) := by decide +kernel
theorem dX4_init_8 : decode cX4_init 8 = .ok (.putfield 11, 3) := by decide +kernel
theorem dX4_init_11 : decode cX4_init 11 = .ok (.aload_n 0, 1) := by decide +kernel
theorem dX4_init_12 : decode cX4_init 12 = .ok (.bipush 21, 2) := by decide +kernel
theorem dX4_init_14 : decode cX4_init 14 = .ok (.newarray .int, 2) := by decide +kernel
theorem dX4_init_16 : decode cX4_init 16 = .ok (.putfield 15, 3) := by decide +kernel
theorem dX4_init_19 : decode cX4_init 19 = .ok (.aload_n 0, 1) := by decide +kernel
theorem dX4_init_20 : decode cX4_init 20 = .ok (.bipush 21, 2) := by decide +kernel
theorem dX4_init_22 : decode cX4_init 22 = .ok (.newarray .int, 2) := by decide +kernel
theorem dX4_init_24 : decode cX4_init 24 = .ok (.putfield 18, 3) := by decide +kernel
theorem dX4_init_27 : decode cX4_init 27 = .ok (.aload_n 0, 1) := by decide +kernel
theorem dX4_init_28 : decode cX4_init 28 = .ok (.bipush 65, 2) := by decide +kernel
theorem dX4_init_30 : decode cX4_init 30 = .ok (.newarray .boolean, 2) := by decide +kernel
theorem dX4_init_32 : decode cX4_init 32 = .ok (.putfield 21, 3) := by decide +kernel
theorem dX4_init_35 : decode cX4_init 35 = .ok (.aload_n 0, 1) := by decide +kernel
theorem dX4_init_36 : decode cX4_init 36 = .ok (.bipush 105, 2) := by decide +kernel
theorem dX4_init_38 : decode cX4_init 38 = .ok (.newarray .int, 2) := by decide +kernel
theorem dX4_init_40 : decode cX4_init 40 = .ok (.putfield 25, 3) := by decide +kernel
theorem dX4_init_43 : decode cX4_init 43 = .ok (.aload_n 0, 1) := by decide +kernel
theorem dX4_init_44 : decode cX4_init 44 = .ok (.bipush 105, 2) := by decide +kernel
theorem dX4_init_46 : decode cX4_init 46 = .ok (.newarray .int, 2) := by decide +kernel
theorem dX4_init_48 : decode cX4_init 48 = .ok (.putfield 28, 3) := by decide +kernel
theorem dX4_init_51 : decode cX4_init 51 = .ok (.return_, 1) := by decide +kernel
set_option maxRecDepth 20000 in
theorem ggX4_find_X5_restOf : GoodIn wsX4_find wsX5_restOf := goodIn_r _ [8, 9, 10, 11, 12, 7, 13, 14, 15, 16] (by decide +kernel) (by decide +kernel)
set_option maxRecDepth 20000 in
theorem gX4_find_X5_restOf_n44 : GoodIn wsX4_find (wsX5_restOf) := ggX4_find_X5_restOf
set_option maxRecDepth 20000 in
theorem ggX4_find_X4_layOutPlaces : GoodIn wsX4_find wsX4_layOutPlaces := goodIn_r _ [21, 1, 22, 23, 24, 25, 26, 27, 28, 29, 15, 7, 16, 69, 70, 71, 72, 73, 74, 75, 76, 77, 78] (by decide +kernel) (by decide +kernel)
set_option maxRecDepth 20000 in
theorem gX4_find_X4_layOutPlaces : GoodIn wsX4_find (wsV RX4 48 RX4 yX4_layOutPlaces wsX4_layOutPlaces) := goodIn_app (goodIn_of _ (by decide +kernel)) ggX4_find_X4_layOutPlaces
set_option maxRecDepth 20000 in
theorem ggX4_find_X4_collectSteps : GoodIn wsX4_find wsX4_collectSteps := goodIn_r _ [33, 34, 35, 36, 37, 20, 38, 3, 69, 70, 71, 72, 73, 74, 75, 76, 77, 78] (by decide +kernel) (by decide +kernel)
set_option maxRecDepth 20000 in
theorem gX4_find_X4_collectSteps : GoodIn wsX4_find (wsV RX4 51 RX4 yX4_collectSteps wsX4_collectSteps) := goodIn_app (goodIn_of _ (by decide +kernel)) ggX4_find_X4_collectSteps
set_option maxRecDepth 20000 in
theorem ggX4_find_X5_countOfFactor : GoodIn wsX4_find wsX5_countOfFactor := goodIn_r _ [13] (by decide +kernel) (by decide +kernel)
set_option maxRecDepth 20000 in
theorem gX4_find_X5_countOfFactor_n54 : GoodIn wsX4_find (wsX5_countOfFactor) := ggX4_find_X5_countOfFactor
set_option maxRecDepth 20000 in
theorem ggX4_find_X4_placeOf : GoodIn wsX4_find wsX4_placeOf := goodIn_r _ [42, 26, 27, 69, 70, 71, 72, 73, 74, 75, 76, 77, 78] (by decide +kernel) (by decide +kernel)
set_option maxRecDepth 20000 in
theorem gX4_find_X4_placeOf : GoodIn wsX4_find (wsV RX4 58 RX4 yX4_placeOf wsX4_placeOf) := goodIn_app (goodIn_of _ (by decide +kernel)) ggX4_find_X4_placeOf
set_option maxRecDepth 20000 in
theorem ggX4_find_X4_measureFrom : GoodIn wsX4_find wsX4_measureFrom := goodIn_r _ [46, 5, 47, 48, 49, 50, 20, 51, 34, 52, 53, 54, 55, 26, 56, 57, 58, 59, 39, 40, 41, 42, 27, 69, 70, 71, 72, 73, 74, 75, 76, 77, 78] (by decide +kernel) (by decide +kernel)
set_option maxRecDepth 20000 in
theorem gX4_find_X4_measureFrom : GoodIn wsX4_find (wsV RX4 61 RX4 yX4_measureFrom wsX4_measureFrom) := goodIn_app (goodIn_of _ (by decide +kernel)) ggX4_find_X4_measureFrom
set_option maxRecDepth 20000 in
theorem ggX4_find_X4_readRow : GoodIn wsX4_find wsX4_readRow := goodIn_r _ [63, 4, 64, 65, 66, 67, 20, 68, 5, 35, 36, 37, 38, 3, 39, 40, 41, 42, 26, 27, 69, 70, 71, 72, 73, 74, 75, 76, 77, 78] (by decide +kernel) (by decide +kernel)
set_option maxRecDepth 20000 in
theorem gX4_find_X4_readRow : GoodIn wsX4_find (wsV RX4 65 RX4 yX4_readRow wsX4_readRow) := goodIn_app (goodIn_of _ (by decide +kernel)) ggX4_find_X4_readRow
theorem dX4_find_0 : decode cX4_find 0 = .ok (.aload_n 0, 1) := by decide +kernel
theorem dX4_find_1 : decode cX4_find 1 = .ok (.getfield 31, 3) := by decide +kernel
theorem dX4_find_4 : decode cX4_find 4 = .ok (.iload_n 1, 1) := by decide +kernel
theorem dX4_find_5 : decode cX4_find 5 = .ok (.if_icmp .ne 20, 3) := by decide +kernel
theorem dX4_find_8 : decode cX4_find 8 = .ok (.aload_n 0, 1) := by decide +kernel
theorem dX4_find_9 : decode cX4_find 9 = .ok (.getfield 35, 3) := by decide +kernel
theorem dX4_find_12 : decode cX4_find 12 = .ok (.iload_n 2, 1) := by decide +kernel
theorem dX4_find_13 : decode cX4_find 13 = .ok (.if_icmp .ne 12, 3) := by decide +kernel
theorem dX4_find_16 : decode cX4_find 16 = .ok (.aload_n 0, 1) := by decide +kernel
theorem dX4_find_17 : decode cX4_find 17 = .ok (.getfield 38, 3) := by decide +kernel
theorem dX4_find_20 : decode cX4_find 20 = .ok (.iload_n 3, 1) := by decide +kernel
theorem dX4_find_21 : decode cX4_find 21 = .ok (.if_icmp .ne 4, 3) := by decide +kernel
theorem dX4_find_24 : decode cX4_find 24 = .ok (.return_, 1) := by decide +kernel
theorem dX4_find_25 : decode cX4_find 25 = .ok (.aload_n 0, 1) := by decide +kernel
theorem dX4_find_26 : decode cX4_find 26 = .ok (.iload_n 1, 1) := by decide +kernel
theorem dX4_find_27 : decode cX4_find 27 = .ok (.putfield 31, 3) := by decide +kernel
theorem dX4_find_30 : decode cX4_find 30 = .ok (.aload_n 0, 1) := by decide +kernel
theorem dX4_find_31 : decode cX4_find 31 = .ok (.iload_n 2, 1) := by decide +kernel
theorem dX4_find_32 : decode cX4_find 32 = .ok (.putfield 35, 3) := by decide +kernel
theorem dX4_find_35 : decode cX4_find 35 = .ok (.aload_n 0, 1) := by decide +kernel
theorem dX4_find_36 : decode cX4_find 36 = .ok (.iload_n 3, 1) := by decide +kernel
theorem dX4_find_37 : decode cX4_find 37 = .ok (.putfield 38, 3) := by decide +kernel
theorem dX4_find_40 : decode cX4_find 40 = .ok (.aload_n 0, 1) := by decide +kernel
theorem dX4_find_41 : decode cX4_find 41 = .ok (.bipush (-9), 2) := by decide +kernel
theorem dX4_find_43 : decode cX4_find 43 = .ok (.putfield 41, 3) := by decide +kernel
theorem dX4_find_46 : decode cX4_find 46 = .ok (.aload_n 0, 1) := by decide +kernel
theorem dX4_find_47 : decode cX4_find 47 = .ok (.getfield 31, 3) := by decide +kernel
theorem dX4_find_50 : decode cX4_find 50 = .ok (.invokestatic 44, 3) := by decide +kernel
theorem dX4_find_53 : decode cX4_find 53 = .ok (.aload_n 0, 1) := by decide +kernel
theorem dX4_find_54 : decode cX4_find 54 = .ok (.getfield 35, 3) := by decide +kernel
theorem dX4_find_57 : decode cX4_find 57 = .ok (.invokestatic 44, 3) := by decide +kernel
theorem dX4_find_60 : decode cX4_find 60 = .ok (.lcmp, 1) := by decide +kernel
theorem dX4_find_61 : decode cX4_find 61 = .ok (.ifCond .eq 4, 3) := by decide +kernel
theorem dX4_find_64 : decode cX4_find 64 = .ok (.return_, 1) := by decide +kernel
theorem dX4_find_65 : decode cX4_find 65 = .ok (.aload_n 0, 1) := by decide +kernel
theorem dX4_find_66 : decode cX4_find 66 = .ok (.invokevirtual 48, 3) := by decide +kernel
theorem dX4_find_69 : decode cX4_find 69 = .ok (.aload_n 0, 1) := by decide +kernel
theorem dX4_find_70 : decode cX4_find 70 = .ok (.invokevirtual 51, 3) := by decide +kernel
theorem dX4_find_73 : decode cX4_find 73 = .ok (.aload_n 0, 1) := by decide +kernel
theorem dX4_find_74 : decode cX4_find 74 = .ok (.aload_n 0, 1) := by decide +kernel
theorem dX4_find_75 : decode cX4_find 75 = .ok (.aload_n 0, 1) := by decide +kernel
theorem dX4_find_76 : decode cX4_find 76 = .ok (.getfield 35, 3) := by decide +kernel
theorem dX4_find_79 : decode cX4_find 79 = .ok (.iconst 2, 1) := by decide +kernel
theorem dX4_find_80 : decode cX4_find 80 = .ok (.invokestatic 54, 3) := by decide +kernel
theorem dX4_find_83 : decode cX4_find 83 = .ok (.aload_n 0, 1) := by decide +kernel
theorem dX4_find_84 : decode cX4_find 84 = .ok (.getfield 31, 3) := by decide +kernel
theorem dX4_find_87 : decode cX4_find 87 = .ok (.iconst 2, 1) := by decide +kernel
theorem dX4_find_88 : decode cX4_find 88 = .ok (.invokestatic 54, 3) := by decide +kernel
theorem dX4_find_91 : decode cX4_find 91 = .ok (.isub, 1) := by decide +kernel
theorem dX4_find_92 : decode cX4_find 92 = .ok (.aload_n 0, 1) := by decide +kernel
theorem dX4_find_93 : decode cX4_find 93 = .ok (.getfield 35, 3) := by decide +kernel
theorem dX4_find_96 : decode cX4_find 96 = .ok (.iconst 3, 1) := by decide +kernel
theorem dX4_find_97 : decode cX4_find 97 = .ok (.invokestatic 54, 3) := by decide +kernel
theorem dX4_find_100 : decode cX4_find 100 = .ok (.aload_n 0, 1) := by decide +kernel
theorem dX4_find_101 : decode cX4_find 101 = .ok (.getfield 31, 3) := by decide +kernel
theorem dX4_find_104 : decode cX4_find 104 = .ok (.iconst 3, 1) := by decide +kernel
theorem dX4_find_105 : decode cX4_find 105 = .ok (.invokestatic 54, 3) := by decide +kernel
theorem dX4_find_108 : decode cX4_find 108 = .ok (.isub, 1) := by decide +kernel
theorem dX4_find_109 : decode cX4_find 109 = .ok (.invokevirtual 58, 3) := by decide +kernel
theorem dX4_find_112 : decode cX4_find 112 = .ok (.invokevirtual 61, 3) := by decide +kernel
theorem dX4_find_115 : decode cX4_find 115 = .ok (.aload_n 0, 1) := by decide +kernel
theorem dX4_find_116 : decode cX4_find 116 = .ok (.iconst 0, 1) := by decide +kernel
theorem dX4_find_117 : decode cX4_find 117 = .ok (.iconst 0, 1) := by decide +kernel
theorem dX4_find_118 : decode cX4_find 118 = .ok (.invokevirtual 58, 3) := by decide +kernel
theorem dX4_find_121 : decode cX4_find 121 = .ok (.istore 4, 2) := by decide +kernel
theorem dX4_find_123 : decode cX4_find 123 = .ok (.iload 4, 2) := by decide +kernel
theorem dX4_find_125 : decode cX4_find 125 = .ok (.bipush (-9), 2) := by decide +kernel
theorem dX4_find_127 : decode cX4_find 127 = .ok (.if_icmp .eq 30, 3) := by decide +kernel
theorem dX4_find_130 : decode cX4_find 130 = .ok (.aload_n 0, 1) := by decide +kernel
theorem dX4_find_131 : decode cX4_find 131 = .ok (.getfield 25, 3) := by decide +kernel
theorem dX4_find_134 : decode cX4_find 134 = .ok (.iload 4, 2) := by decide +kernel
theorem dX4_find_136 : decode cX4_find 136 = .ok (.iaload, 1) := by decide +kernel
theorem dX4_find_137 : decode cX4_find 137 = .ok (.bipush (-9), 2) := by decide +kernel
theorem dX4_find_139 : decode cX4_find 139 = .ok (.if_icmp .eq 18, 3) := by decide +kernel
theorem dX4_find_142 : decode cX4_find 142 = .ok (.aload_n 0, 1) := by decide +kernel
theorem dX4_find_143 : decode cX4_find 143 = .ok (.aload_n 0, 1) := by decide +kernel
theorem dX4_find_144 : decode cX4_find 144 = .ok (.getfield 25, 3) := by decide +kernel
theorem dX4_find_147 : decode cX4_find 147 = .ok (.iload 4, 2) := by decide +kernel
theorem dX4_find_149 : decode cX4_find 149 = .ok (.iaload, 1) := by decide +kernel
theorem dX4_find_150 : decode cX4_find 150 = .ok (.putfield 41, 3) := by decide +kernel
theorem dX4_find_153 : decode cX4_find 153 = .ok (.aload_n 0, 1) := by decide +kernel
theorem dX4_find_154 : decode cX4_find 154 = .ok (.invokevirtual 65, 3) := by decide +kernel
theorem dX4_find_157 : decode cX4_find 157 = .ok (.return_, 1) := by decide +kernel
set_option maxRecDepth 20000 in
theorem ggX4_layOutPlaces_X5_power : GoodIn wsX4_layOutPlaces wsX5_power := goodIn_r _ [12] (by decide +kernel) (by decide +kernel)
set_option maxRecDepth 20000 in
theorem gX4_layOutPlaces_X5_power_n70 : GoodIn wsX4_layOutPlaces (wsX5_power) := ggX4_layOutPlaces_X5_power
theorem dX4_layOutPlaces_0 : decode cX4_layOutPlaces 0 = .ok (.iconst 0, 1) := by decide +kernel
theorem dX4_layOutPlaces_1 : decode cX4_layOutPlaces 1 = .ok (.istore_n 1, 1) := by decide +kernel
theorem dX4_layOutPlaces_2 : decode cX4_layOutPlaces 2 = .ok (.iload_n 1, 1) := by decide +kernel
theorem dX4_layOutPlaces_3 : decode cX4_layOutPlaces 3 = .ok (.bipush 21, 2) := by decide +kernel
theorem dX4_layOutPlaces_5 : decode cX4_layOutPlaces 5 = .ok (.if_icmp .ge 137, 3) := by decide +kernel
theorem dX4_layOutPlaces_8 : decode cX4_layOutPlaces 8 = .ok (.aload_n 0, 1) := by decide +kernel
theorem dX4_layOutPlaces_9 : decode cX4_layOutPlaces 9 = .ok (.getfield 31, 3) := by decide +kernel
theorem dX4_layOutPlaces_12 : decode cX4_layOutPlaces 12 = .ok (.i2l, 1) := by decide +kernel
theorem dX4_layOutPlaces_13 : decode cX4_layOutPlaces 13 = .ok (.ldc2_w 68, 3) := by decide +kernel
theorem dX4_layOutPlaces_16 : decode cX4_layOutPlaces 16 = .ok (.iload_n 1, 1) := by decide +kernel
theorem dX4_layOutPlaces_17 : decode cX4_layOutPlaces 17 = .ok (.bipush 10, 2) := by decide +kernel
theorem dX4_layOutPlaces_19 : decode cX4_layOutPlaces 19 = .ok (.isub, 1) := by decide +kernel
theorem dX4_layOutPlaces_20 : decode cX4_layOutPlaces 20 = .ok (.invokestatic 70, 3) := by decide +kernel
theorem dX4_layOutPlaces_23 : decode cX4_layOutPlaces 23 = .ok (.lmul, 1) := by decide +kernel
theorem dX4_layOutPlaces_24 : decode cX4_layOutPlaces 24 = .ok (.lstore_n 2, 1) := by decide +kernel
theorem dX4_layOutPlaces_25 : decode cX4_layOutPlaces 25 = .ok (.ldc2_w 68, 3) := by decide +kernel
theorem dX4_layOutPlaces_28 : decode cX4_layOutPlaces 28 = .ok (.bipush 10, 2) := by decide +kernel
theorem dX4_layOutPlaces_30 : decode cX4_layOutPlaces 30 = .ok (.iload_n 1, 1) := by decide +kernel
theorem dX4_layOutPlaces_31 : decode cX4_layOutPlaces 31 = .ok (.isub, 1) := by decide +kernel
theorem dX4_layOutPlaces_32 : decode cX4_layOutPlaces 32 = .ok (.invokestatic 70, 3) := by decide +kernel
theorem dX4_layOutPlaces_35 : decode cX4_layOutPlaces 35 = .ok (.lstore 4, 2) := by decide +kernel
theorem dX4_layOutPlaces_37 : decode cX4_layOutPlaces 37 = .ok (.iconst 0, 1) := by decide +kernel
theorem dX4_layOutPlaces_38 : decode cX4_layOutPlaces 38 = .ok (.istore 6, 2) := by decide +kernel
theorem dX4_layOutPlaces_40 : decode cX4_layOutPlaces 40 = .ok (.iload 6, 2) := by decide +kernel
theorem dX4_layOutPlaces_42 : decode cX4_layOutPlaces 42 = .ok (.bipush 64, 2) := by decide +kernel
theorem dX4_layOutPlaces_44 : decode cX4_layOutPlaces 44 = .ok (.if_icmp .ge 26, 3) := by decide +kernel
theorem dX4_layOutPlaces_47 : decode cX4_layOutPlaces 47 = .ok (.lload_n 2, 1) := by decide +kernel
theorem dX4_layOutPlaces_48 : decode cX4_layOutPlaces 48 = .ok (.ldc2_w 74, 3) := by decide +kernel
theorem dX4_layOutPlaces_51 : decode cX4_layOutPlaces 51 = .ok (.lload 4, 2) := by decide +kernel
theorem dX4_layOutPlaces_53 : decode cX4_layOutPlaces 53 = .ok (.lmul, 1) := by decide +kernel
theorem dX4_layOutPlaces_54 : decode cX4_layOutPlaces 54 = .ok (.lcmp, 1) := by decide +kernel
theorem dX4_layOutPlaces_55 : decode cX4_layOutPlaces 55 = .ok (.ifCond .ge 15, 3) := by decide +kernel
theorem dX4_layOutPlaces_58 : decode cX4_layOutPlaces 58 = .ok (.lload_n 2, 1) := by decide +kernel
theorem dX4_layOutPlaces_59 : decode cX4_layOutPlaces 59 = .ok (.ldc2_w 76, 3) := by decide +kernel
theorem dX4_layOutPlaces_62 : decode cX4_layOutPlaces 62 = .ok (.lmul, 1) := by decide +kernel
theorem dX4_layOutPlaces_63 : decode cX4_layOutPlaces 63 = .ok (.lstore_n 2, 1) := by decide +kernel
theorem dX4_layOutPlaces_64 : decode cX4_layOutPlaces 64 = .ok (.iinc 6 1, 3) := by decide +kernel
theorem dX4_layOutPlaces_67 : decode cX4_layOutPlaces 67 = .ok (.goto (-27), 3) := by decide +kernel
theorem dX4_layOutPlaces_70 : decode cX4_layOutPlaces 70 = .ok (.iload 6, 2) := by decide +kernel
theorem dX4_layOutPlaces_72 : decode cX4_layOutPlaces 72 = .ok (.bipush (-64), 2) := by decide +kernel
theorem dX4_layOutPlaces_74 : decode cX4_layOutPlaces 74 = .ok (.if_icmp .le 28, 3) := by decide +kernel
theorem dX4_layOutPlaces_77 : decode cX4_layOutPlaces 77 = .ok (.lload_n 2, 1) := by decide +kernel
theorem dX4_layOutPlaces_78 : decode cX4_layOutPlaces 78 = .ok (.ldc2_w 78, 3) := by decide +kernel
theorem dX4_layOutPlaces_81 : decode cX4_layOutPlaces 81 = .ok (.lload 4, 2) := by decide +kernel
theorem dX4_layOutPlaces_83 : decode cX4_layOutPlaces 83 = .ok (.lmul, 1) := by decide +kernel
theorem dX4_layOutPlaces_84 : decode cX4_layOutPlaces 84 = .ok (.lcmp, 1) := by decide +kernel
theorem dX4_layOutPlaces_85 : decode cX4_layOutPlaces 85 = .ok (.ifCond .lt 17, 3) := by decide +kernel
theorem dX4_layOutPlaces_88 : decode cX4_layOutPlaces 88 = .ok (.lload 4, 2) := by decide +kernel
theorem dX4_layOutPlaces_90 : decode cX4_layOutPlaces 90 = .ok (.ldc2_w 76, 3) := by decide +kernel
theorem dX4_layOutPlaces_93 : decode cX4_layOutPlaces 93 = .ok (.lmul, 1) := by decide +kernel
theorem dX4_layOutPlaces_94 : decode cX4_layOutPlaces 94 = .ok (.lstore 4, 2) := by decide +kernel
theorem dX4_layOutPlaces_96 : decode cX4_layOutPlaces 96 = .ok (.iinc 6 (-1), 3) := by decide +kernel
theorem dX4_layOutPlaces_99 : decode cX4_layOutPlaces 99 = .ok (.goto (-29), 3) := by decide +kernel
theorem dX4_layOutPlaces_102 : decode cX4_layOutPlaces 102 = .ok (.aload_n 0, 1) := by decide +kernel
theorem dX4_layOutPlaces_103 : decode cX4_layOutPlaces 103 = .ok (.getfield 15, 3) := by decide +kernel
theorem dX4_layOutPlaces_106 : decode cX4_layOutPlaces 106 = .ok (.iload_n 1, 1) := by decide +kernel
theorem dX4_layOutPlaces_107 : decode cX4_layOutPlaces 107 = .ok (.iload 6, 2) := by decide +kernel
theorem dX4_layOutPlaces_109 : decode cX4_layOutPlaces 109 = .ok (.iastore, 1) := by decide +kernel
theorem dX4_layOutPlaces_110 : decode cX4_layOutPlaces 110 = .ok (.aload_n 0, 1) := by decide +kernel
theorem dX4_layOutPlaces_111 : decode cX4_layOutPlaces 111 = .ok (.getfield 18, 3) := by decide +kernel
theorem dX4_layOutPlaces_114 : decode cX4_layOutPlaces 114 = .ok (.iload_n 1, 1) := by decide +kernel
theorem dX4_layOutPlaces_115 : decode cX4_layOutPlaces 115 = .ok (.lload_n 2, 1) := by decide +kernel
theorem dX4_layOutPlaces_116 : decode cX4_layOutPlaces 116 = .ok (.ldc2_w 80, 3) := by decide +kernel
theorem dX4_layOutPlaces_119 : decode cX4_layOutPlaces 119 = .ok (.lmul, 1) := by decide +kernel
theorem dX4_layOutPlaces_120 : decode cX4_layOutPlaces 120 = .ok (.ldc2_w 82, 3) := by decide +kernel
theorem dX4_layOutPlaces_123 : decode cX4_layOutPlaces 123 = .ok (.lload 4, 2) := by decide +kernel
theorem dX4_layOutPlaces_125 : decode cX4_layOutPlaces 125 = .ok (.lmul, 1) := by decide +kernel
theorem dX4_layOutPlaces_126 : decode cX4_layOutPlaces 126 = .ok (.lcmp, 1) := by decide +kernel
theorem dX4_layOutPlaces_127 : decode cX4_layOutPlaces 127 = .ok (.ifCond .gt 7, 3) := by decide +kernel
theorem dX4_layOutPlaces_130 : decode cX4_layOutPlaces 130 = .ok (.iconst 5, 1) := by decide +kernel
theorem dX4_layOutPlaces_131 : decode cX4_layOutPlaces 131 = .ok (.goto 4, 3) := by decide +kernel
theorem dX4_layOutPlaces_134 : decode cX4_layOutPlaces 134 = .ok (.iconst 4, 1) := by decide +kernel
theorem dX4_layOutPlaces_135 : decode cX4_layOutPlaces 135 = .ok (.iastore, 1) := by decide +kernel
theorem dX4_layOutPlaces_136 : decode cX4_layOutPlaces 136 = .ok (.iinc 1 1, 3) := by decide +kernel
theorem dX4_layOutPlaces_139 : decode cX4_layOutPlaces 139 = .ok (.goto (-137), 3) := by decide +kernel
theorem dX4_layOutPlaces_142 : decode cX4_layOutPlaces 142 = .ok (.return_, 1) := by decide +kernel
set_option maxRecDepth 20000 in
theorem ggX4_collectSteps_X4_inSet : GoodIn wsX4_collectSteps wsX4_inSet := goodIn_r _ [6, 7, 8, 9, 10, 11, 12, 13, 14, 15, 16, 17] (by decide +kernel) (by decide +kernel)
set_option maxRecDepth 20000 in
theorem gX4_collectSteps_X4_inSet : GoodIn wsX4_collectSteps (wsV RX4 84 RX4 yX4_inSet wsX4_inSet) := goodIn_app (goodIn_of _ (by decide +kernel)) ggX4_collectSteps_X4_inSet
theorem dX4_collectSteps_0 : decode cX4_collectSteps 0 = .ok (.iconst 0, 1) := by decide +kernel
theorem dX4_collectSteps_1 : decode cX4_collectSteps 1 = .ok (.istore_n 1, 1) := by decide +kernel
theorem dX4_collectSteps_2 : decode cX4_collectSteps 2 = .ok (.iload_n 1, 1) := by decide +kernel
theorem dX4_collectSteps_3 : decode cX4_collectSteps 3 = .ok (.bipush 65, 2) := by decide +kernel
theorem dX4_collectSteps_5 : decode cX4_collectSteps 5 = .ok (.if_icmp .ge 16, 3) := by decide +kernel
theorem dX4_collectSteps_8 : decode cX4_collectSteps 8 = .ok (.aload_n 0, 1) := by decide +kernel
theorem dX4_collectSteps_9 : decode cX4_collectSteps 9 = .ok (.getfield 21, 3) := by decide +kernel
theorem dX4_collectSteps_12 : decode cX4_collectSteps 12 = .ok (.iload_n 1, 1) := by decide +kernel
theorem dX4_collectSteps_13 : decode cX4_collectSteps 13 = .ok (.iconst 0, 1) := by decide +kernel
theorem dX4_collectSteps_14 : decode cX4_collectSteps 14 = .ok (.bastore, 1) := by decide +kernel
theorem dX4_collectSteps_15 : decode cX4_collectSteps 15 = .ok (.iinc 1 1, 3) := by decide +kernel
theorem dX4_collectSteps_18 : decode cX4_collectSteps 18 = .ok (.goto (-16), 3) := by decide +kernel
theorem dX4_collectSteps_21 : decode cX4_collectSteps 21 = .ok (.iconst 0, 1) := by decide +kernel
theorem dX4_collectSteps_22 : decode cX4_collectSteps 22 = .ok (.istore_n 1, 1) := by decide +kernel
theorem dX4_collectSteps_23 : decode cX4_collectSteps 23 = .ok (.iload_n 1, 1) := by decide +kernel
theorem dX4_collectSteps_24 : decode cX4_collectSteps 24 = .ok (.bipush 20, 2) := by decide +kernel
theorem dX4_collectSteps_26 : decode cX4_collectSteps 26 = .ok (.if_icmp .ge 82, 3) := by decide +kernel
theorem dX4_collectSteps_29 : decode cX4_collectSteps 29 = .ok (.iconst 0, 1) := by decide +kernel
theorem dX4_collectSteps_30 : decode cX4_collectSteps 30 = .ok (.istore_n 2, 1) := by decide +kernel
theorem dX4_collectSteps_31 : decode cX4_collectSteps 31 = .ok (.iload_n 2, 1) := by decide +kernel
theorem dX4_collectSteps_32 : decode cX4_collectSteps 32 = .ok (.bipush 20, 2) := by decide +kernel
theorem dX4_collectSteps_34 : decode cX4_collectSteps 34 = .ok (.if_icmp .ge 68, 3) := by decide +kernel
theorem dX4_collectSteps_37 : decode cX4_collectSteps 37 = .ok (.aload_n 0, 1) := by decide +kernel
theorem dX4_collectSteps_38 : decode cX4_collectSteps 38 = .ok (.iload_n 1, 1) := by decide +kernel
theorem dX4_collectSteps_39 : decode cX4_collectSteps 39 = .ok (.invokevirtual 84, 3) := by decide +kernel
theorem dX4_collectSteps_42 : decode cX4_collectSteps 42 = .ok (.ifCond .eq 54, 3) := by decide +kernel
theorem dX4_collectSteps_45 : decode cX4_collectSteps 45 = .ok (.aload_n 0, 1) := by decide +kernel
theorem dX4_collectSteps_46 : decode cX4_collectSteps 46 = .ok (.iload_n 2, 1) := by decide +kernel
theorem dX4_collectSteps_47 : decode cX4_collectSteps 47 = .ok (.invokevirtual 84, 3) := by decide +kernel
theorem dX4_collectSteps_50 : decode cX4_collectSteps 50 = .ok (.ifCond .eq 46, 3) := by decide +kernel
theorem dX4_collectSteps_53 : decode cX4_collectSteps 53 = .ok (.getstatic 88, 3) := by decide +kernel
theorem dX4_collectSteps_56 : decode cX4_collectSteps 56 = .ok (.iload_n 2, 1) := by decide +kernel
theorem dX4_collectSteps_57 : decode cX4_collectSteps 57 = .ok (.iaload, 1) := by decide +kernel
theorem dX4_collectSteps_58 : decode cX4_collectSteps 58 = .ok (.getstatic 88, 3) := by decide +kernel
theorem dX4_collectSteps_61 : decode cX4_collectSteps 61 = .ok (.iload_n 1, 1) := by decide +kernel
theorem dX4_collectSteps_62 : decode cX4_collectSteps 62 = .ok (.iaload, 1) := by decide +kernel
theorem dX4_collectSteps_63 : decode cX4_collectSteps 63 = .ok (.isub, 1) := by decide +kernel
theorem dX4_collectSteps_64 : decode cX4_collectSteps 64 = .ok (.bipush 6, 2) := by decide +kernel
theorem dX4_collectSteps_66 : decode cX4_collectSteps 66 = .ok (.iadd, 1) := by decide +kernel
theorem dX4_collectSteps_67 : decode cX4_collectSteps 67 = .ok (.istore_n 3, 1) := by decide +kernel
theorem dX4_collectSteps_68 : decode cX4_collectSteps 68 = .ok (.getstatic 91, 3) := by decide +kernel
theorem dX4_collectSteps_71 : decode cX4_collectSteps 71 = .ok (.iload_n 2, 1) := by decide +kernel
theorem dX4_collectSteps_72 : decode cX4_collectSteps 72 = .ok (.iaload, 1) := by decide +kernel
theorem dX4_collectSteps_73 : decode cX4_collectSteps 73 = .ok (.getstatic 91, 3) := by decide +kernel
theorem dX4_collectSteps_76 : decode cX4_collectSteps 76 = .ok (.iload_n 1, 1) := by decide +kernel
theorem dX4_collectSteps_77 : decode cX4_collectSteps 77 = .ok (.iaload, 1) := by decide +kernel
theorem dX4_collectSteps_78 : decode cX4_collectSteps 78 = .ok (.isub, 1) := by decide +kernel
theorem dX4_collectSteps_79 : decode cX4_collectSteps 79 = .ok (.iconst 2, 1) := by decide +kernel
theorem dX4_collectSteps_80 : decode cX4_collectSteps 80 = .ok (.iadd, 1) := by decide +kernel
theorem dX4_collectSteps_81 : decode cX4_collectSteps 81 = .ok (.istore 4, 2) := by decide +kernel
theorem dX4_collectSteps_83 : decode cX4_collectSteps 83 = .ok (.aload_n 0, 1) := by decide +kernel
theorem dX4_collectSteps_84 : decode cX4_collectSteps 84 = .ok (.getfield 21, 3) := by decide +kernel
theorem dX4_collectSteps_87 : decode cX4_collectSteps 87 = .ok (.iload 4, 2) := by decide +kernel
theorem dX4_collectSteps_89 : decode cX4_collectSteps 89 = .ok (.bipush 13, 2) := by decide +kernel
theorem dX4_collectSteps_91 : decode cX4_collectSteps 91 = .ok (.imul, 1) := by decide +kernel
theorem dX4_collectSteps_92 : decode cX4_collectSteps 92 = .ok (.iload_n 3, 1) := by decide +kernel
theorem dX4_collectSteps_93 : decode cX4_collectSteps 93 = .ok (.iadd, 1) := by decide +kernel
theorem dX4_collectSteps_94 : decode cX4_collectSteps 94 = .ok (.iconst 1, 1) := by decide +kernel
theorem dX4_collectSteps_95 : decode cX4_collectSteps 95 = .ok (.bastore, 1) := by decide +kernel
theorem dX4_collectSteps_96 : decode cX4_collectSteps 96 = .ok (.iinc 2 1, 3) := by decide +kernel
theorem dX4_collectSteps_99 : decode cX4_collectSteps 99 = .ok (.goto (-68), 3) := by decide +kernel
theorem dX4_collectSteps_102 : decode cX4_collectSteps 102 = .ok (.iinc 1 1, 3) := by decide +kernel
theorem dX4_collectSteps_105 : decode cX4_collectSteps 105 = .ok (.goto (-82), 3) := by decide +kernel
theorem dX4_collectSteps_108 : decode cX4_collectSteps 108 = .ok (.return_, 1) := by decide +kernel
theorem dX4_inSet_0 : decode cX4_inSet 0 = .ok (.aload_n 0, 1) := by decide +kernel
theorem dX4_inSet_1 : decode cX4_inSet 1 = .ok (.getfield 38, 3) := by decide +kernel
theorem dX4_inSet_4 : decode cX4_inSet 4 = .ok (.iconst 1, 1) := by decide +kernel
theorem dX4_inSet_5 : decode cX4_inSet 5 = .ok (.iload_n 1, 1) := by decide +kernel
theorem dX4_inSet_6 : decode cX4_inSet 6 = .ok (.ishl, 1) := by decide +kernel
theorem dX4_inSet_7 : decode cX4_inSet 7 = .ok (.iand, 1) := by decide +kernel
theorem dX4_inSet_8 : decode cX4_inSet 8 = .ok (.ifCond .eq 7, 3) := by decide +kernel
theorem dX4_inSet_11 : decode cX4_inSet 11 = .ok (.iconst 1, 1) := by decide +kernel
theorem dX4_inSet_12 : decode cX4_inSet 12 = .ok (.goto 4, 3) := by decide +kernel
theorem dX4_inSet_15 : decode cX4_inSet 15 = .ok (.iconst 0, 1) := by decide +kernel
theorem dX4_inSet_16 : decode cX4_inSet 16 = .ok (.ireturn, 1) := by decide +kernel
theorem dX4_placeOf_0 : decode cX4_placeOf 0 = .ok (.iload_n 2, 1) := by decide +kernel
theorem dX4_placeOf_1 : decode cX4_placeOf 1 = .ok (.bipush 10, 2) := by decide +kernel
theorem dX4_placeOf_3 : decode cX4_placeOf 3 = .ok (.iadd, 1) := by decide +kernel
theorem dX4_placeOf_4 : decode cX4_placeOf 4 = .ok (.istore_n 3, 1) := by decide +kernel
theorem dX4_placeOf_5 : decode cX4_placeOf 5 = .ok (.iload_n 3, 1) := by decide +kernel
theorem dX4_placeOf_6 : decode cX4_placeOf 6 = .ok (.ifCond .lt 9, 3) := by decide +kernel
theorem dX4_placeOf_9 : decode cX4_placeOf 9 = .ok (.iload_n 3, 1) := by decide +kernel
theorem dX4_placeOf_10 : decode cX4_placeOf 10 = .ok (.bipush 21, 2) := by decide +kernel
theorem dX4_placeOf_12 : decode cX4_placeOf 12 = .ok (.if_icmp .lt 6, 3) := by decide +kernel
theorem dX4_placeOf_15 : decode cX4_placeOf 15 = .ok (.bipush (-9), 2) := by decide +kernel
theorem dX4_placeOf_17 : decode cX4_placeOf 17 = .ok (.ireturn, 1) := by decide +kernel
theorem dX4_placeOf_18 : decode cX4_placeOf 18 = .ok (.iload_n 1, 1) := by decide +kernel
theorem dX4_placeOf_19 : decode cX4_placeOf 19 = .ok (.aload_n 0, 1) := by decide +kernel
theorem dX4_placeOf_20 : decode cX4_placeOf 20 = .ok (.getfield 15, 3) := by decide +kernel
theorem dX4_placeOf_23 : decode cX4_placeOf 23 = .ok (.iload_n 3, 1) := by decide +kernel
theorem dX4_placeOf_24 : decode cX4_placeOf 24 = .ok (.iaload, 1) := by decide +kernel
theorem dX4_placeOf_25 : decode cX4_placeOf 25 = .ok (.isub, 1) := by decide +kernel
theorem dX4_placeOf_26 : decode cX4_placeOf 26 = .ok (.istore 4, 2) := by decide +kernel
theorem dX4_placeOf_28 : decode cX4_placeOf 28 = .ok (.iload 4, 2) := by decide +kernel
theorem dX4_placeOf_30 : decode cX4_placeOf 30 = .ok (.ifCond .lt 23, 3) := by decide +kernel
theorem dX4_placeOf_33 : decode cX4_placeOf 33 = .ok (.iload 4, 2) := by decide +kernel
theorem dX4_placeOf_35 : decode cX4_placeOf 35 = .ok (.aload_n 0, 1) := by decide +kernel
theorem dX4_placeOf_36 : decode cX4_placeOf 36 = .ok (.getfield 18, 3) := by decide +kernel
theorem dX4_placeOf_39 : decode cX4_placeOf 39 = .ok (.iload_n 3, 1) := by decide +kernel
theorem dX4_placeOf_40 : decode cX4_placeOf 40 = .ok (.iaload, 1) := by decide +kernel
theorem dX4_placeOf_41 : decode cX4_placeOf 41 = .ok (.if_icmp .ge 12, 3) := by decide +kernel
theorem dX4_placeOf_44 : decode cX4_placeOf 44 = .ok (.iload_n 3, 1) := by decide +kernel
theorem dX4_placeOf_45 : decode cX4_placeOf 45 = .ok (.iconst 5, 1) := by decide +kernel
theorem dX4_placeOf_46 : decode cX4_placeOf 46 = .ok (.imul, 1) := by decide +kernel
theorem dX4_placeOf_47 : decode cX4_placeOf 47 = .ok (.iload 4, 2) := by decide +kernel
theorem dX4_placeOf_49 : decode cX4_placeOf 49 = .ok (.iadd, 1) := by decide +kernel
theorem dX4_placeOf_50 : decode cX4_placeOf 50 = .ok (.goto 5, 3) := by decide +kernel
theorem dX4_placeOf_53 : decode cX4_placeOf 53 = .ok (.bipush (-9), 2) := by decide +kernel
theorem dX4_placeOf_55 : decode cX4_placeOf 55 = .ok (.ireturn, 1) := by decide +kernel
theorem dX4_twosAt_0 : decode cX4_twosAt 0 = .ok (.aload_n 0, 1) := by decide +kernel
theorem dX4_twosAt_1 : decode cX4_twosAt 1 = .ok (.getfield 15, 3) := by decide +kernel
theorem dX4_twosAt_4 : decode cX4_twosAt 4 = .ok (.iload_n 1, 1) := by decide +kernel
theorem dX4_twosAt_5 : decode cX4_twosAt 5 = .ok (.iconst 5, 1) := by decide +kernel
theorem dX4_twosAt_6 : decode cX4_twosAt 6 = .ok (.idiv, 1) := by decide +kernel
theorem dX4_twosAt_7 : decode cX4_twosAt 7 = .ok (.iaload, 1) := by decide +kernel
theorem dX4_twosAt_8 : decode cX4_twosAt 8 = .ok (.iload_n 1, 1) := by decide +kernel
theorem dX4_twosAt_9 : decode cX4_twosAt 9 = .ok (.iconst 5, 1) := by decide +kernel
theorem dX4_twosAt_10 : decode cX4_twosAt 10 = .ok (.irem, 1) := by decide +kernel
theorem dX4_twosAt_11 : decode cX4_twosAt 11 = .ok (.iadd, 1) := by decide +kernel
theorem dX4_twosAt_12 : decode cX4_twosAt 12 = .ok (.ireturn, 1) := by decide +kernel
theorem dX4_threesAt_0 : decode cX4_threesAt 0 = .ok (.iload_n 1, 1) := by decide +kernel
theorem dX4_threesAt_1 : decode cX4_threesAt 1 = .ok (.iconst 5, 1) := by decide +kernel
theorem dX4_threesAt_2 : decode cX4_threesAt 2 = .ok (.idiv, 1) := by decide +kernel
theorem dX4_threesAt_3 : decode cX4_threesAt 3 = .ok (.bipush 10, 2) := by decide +kernel
theorem dX4_threesAt_5 : decode cX4_threesAt 5 = .ok (.isub, 1) := by decide +kernel
theorem dX4_threesAt_6 : decode cX4_threesAt 6 = .ok (.ireturn, 1) := by decide +kernel
set_option maxRecDepth 20000 in
theorem ggX4_measureFrom_X4_queueNext : GoodIn wsX4_measureFrom wsX4_queueNext := goodIn_r _ [7, 8, 1, 2, 9, 10, 11, 6, 12, 13, 14, 15, 16, 17, 18, 19, 20, 21, 22, 23, 24, 25, 26, 27, 28, 29, 30, 31, 32] (by decide +kernel) (by decide +kernel)
set_option maxRecDepth 20000 in
theorem gX4_measureFrom_X4_queueNext : GoodIn wsX4_measureFrom (wsV RX4 94 RX4 yX4_queueNext wsX4_queueNext) := goodIn_app (goodIn_of _ (by decide +kernel)) ggX4_measureFrom_X4_queueNext
theorem dX4_measureFrom_0 : decode cX4_measureFrom 0 = .ok (.iconst 0, 1) := by decide +kernel
theorem dX4_measureFrom_1 : decode cX4_measureFrom 1 = .ok (.istore_n 2, 1) := by decide +kernel
theorem dX4_measureFrom_2 : decode cX4_measureFrom 2 = .ok (.iload_n 2, 1) := by decide +kernel
theorem dX4_measureFrom_3 : decode cX4_measureFrom 3 = .ok (.bipush 105, 2) := by decide +kernel
theorem dX4_measureFrom_5 : decode cX4_measureFrom 5 = .ok (.if_icmp .ge 17, 3) := by decide +kernel
theorem dX4_measureFrom_8 : decode cX4_measureFrom 8 = .ok (.aload_n 0, 1) := by decide +kernel
theorem dX4_measureFrom_9 : decode cX4_measureFrom 9 = .ok (.getfield 25, 3) := by decide +kernel
theorem dX4_measureFrom_12 : decode cX4_measureFrom 12 = .ok (.iload_n 2, 1) := by decide +kernel
theorem dX4_measureFrom_13 : decode cX4_measureFrom 13 = .ok (.bipush (-9), 2) := by decide +kernel
theorem dX4_measureFrom_15 : decode cX4_measureFrom 15 = .ok (.iastore, 1) := by decide +kernel
theorem dX4_measureFrom_16 : decode cX4_measureFrom 16 = .ok (.iinc 2 1, 3) := by decide +kernel
theorem dX4_measureFrom_19 : decode cX4_measureFrom 19 = .ok (.goto (-17), 3) := by decide +kernel
theorem dX4_measureFrom_22 : decode cX4_measureFrom 22 = .ok (.iload_n 1, 1) := by decide +kernel
theorem dX4_measureFrom_23 : decode cX4_measureFrom 23 = .ok (.bipush (-9), 2) := by decide +kernel
theorem dX4_measureFrom_25 : decode cX4_measureFrom 25 = .ok (.if_icmp .ne 4, 3) := by decide +kernel
theorem dX4_measureFrom_28 : decode cX4_measureFrom 28 = .ok (.return_, 1) := by decide +kernel
theorem dX4_measureFrom_29 : decode cX4_measureFrom 29 = .ok (.aload_n 0, 1) := by decide +kernel
theorem dX4_measureFrom_30 : decode cX4_measureFrom 30 = .ok (.getfield 25, 3) := by decide +kernel
theorem dX4_measureFrom_33 : decode cX4_measureFrom 33 = .ok (.iload_n 1, 1) := by decide +kernel
theorem dX4_measureFrom_34 : decode cX4_measureFrom 34 = .ok (.iconst 0, 1) := by decide +kernel
theorem dX4_measureFrom_35 : decode cX4_measureFrom 35 = .ok (.iastore, 1) := by decide +kernel
theorem dX4_measureFrom_36 : decode cX4_measureFrom 36 = .ok (.aload_n 0, 1) := by decide +kernel
theorem dX4_measureFrom_37 : decode cX4_measureFrom 37 = .ok (.getfield 28, 3) := by decide +kernel
theorem dX4_measureFrom_40 : decode cX4_measureFrom 40 = .ok (.iconst 0, 1) := by decide +kernel
theorem dX4_measureFrom_41 : decode cX4_measureFrom 41 = .ok (.iload_n 1, 1) := by decide +kernel
theorem dX4_measureFrom_42 : decode cX4_measureFrom 42 = .ok (.iastore, 1) := by decide +kernel
theorem dX4_measureFrom_43 : decode cX4_measureFrom 43 = .ok (.iconst 1, 1) := by decide +kernel
theorem dX4_measureFrom_44 : decode cX4_measureFrom 44 = .ok (.istore_n 2, 1) := by decide +kernel
theorem dX4_measureFrom_45 : decode cX4_measureFrom 45 = .ok (.iconst 0, 1) := by decide +kernel
theorem dX4_measureFrom_46 : decode cX4_measureFrom 46 = .ok (.istore_n 3, 1) := by decide +kernel
theorem dX4_measureFrom_47 : decode cX4_measureFrom 47 = .ok (.iload_n 3, 1) := by decide +kernel
theorem dX4_measureFrom_48 : decode cX4_measureFrom 48 = .ok (.iload_n 2, 1) := by decide +kernel
theorem dX4_measureFrom_49 : decode cX4_measureFrom 49 = .ok (.if_icmp .ge 42, 3) := by decide +kernel
theorem dX4_measureFrom_52 : decode cX4_measureFrom 52 = .ok (.iload_n 3, 1) := by decide +kernel
theorem dX4_measureFrom_53 : decode cX4_measureFrom 53 = .ok (.bipush 105, 2) := by decide +kernel
theorem dX4_measureFrom_55 : decode cX4_measureFrom 55 = .ok (.if_icmp .ge 36, 3) := by decide +kernel
theorem dX4_measureFrom_58 : decode cX4_measureFrom 58 = .ok (.aload_n 0, 1) := by decide +kernel
theorem dX4_measureFrom_59 : decode cX4_measureFrom 59 = .ok (.getfield 25, 3) := by decide +kernel
theorem dX4_measureFrom_62 : decode cX4_measureFrom 62 = .ok (.aload_n 0, 1) := by decide +kernel
theorem dX4_measureFrom_63 : decode cX4_measureFrom 63 = .ok (.getfield 28, 3) := by decide +kernel
theorem dX4_measureFrom_66 : decode cX4_measureFrom 66 = .ok (.iload_n 3, 1) := by decide +kernel
theorem dX4_measureFrom_67 : decode cX4_measureFrom 67 = .ok (.iaload, 1) := by decide +kernel
theorem dX4_measureFrom_68 : decode cX4_measureFrom 68 = .ok (.iaload, 1) := by decide +kernel
theorem dX4_measureFrom_69 : decode cX4_measureFrom 69 = .ok (.iconst 5, 1) := by decide +kernel
theorem dX4_measureFrom_70 : decode cX4_measureFrom 70 = .ok (.if_icmp .ge 15, 3) := by decide +kernel
theorem dX4_measureFrom_73 : decode cX4_measureFrom 73 = .ok (.aload_n 0, 1) := by decide +kernel
theorem dX4_measureFrom_74 : decode cX4_measureFrom 74 = .ok (.aload_n 0, 1) := by decide +kernel
theorem dX4_measureFrom_75 : decode cX4_measureFrom 75 = .ok (.getfield 28, 3) := by decide +kernel
theorem dX4_measureFrom_78 : decode cX4_measureFrom 78 = .ok (.iload_n 3, 1) := by decide +kernel
theorem dX4_measureFrom_79 : decode cX4_measureFrom 79 = .ok (.iaload, 1) := by decide +kernel
theorem dX4_measureFrom_80 : decode cX4_measureFrom 80 = .ok (.iload_n 2, 1) := by decide +kernel
theorem dX4_measureFrom_81 : decode cX4_measureFrom 81 = .ok (.invokevirtual 94, 3) := by decide +kernel
theorem dX4_measureFrom_84 : decode cX4_measureFrom 84 = .ok (.istore_n 2, 1) := by decide +kernel
theorem dX4_measureFrom_85 : decode cX4_measureFrom 85 = .ok (.iinc 3 1, 3) := by decide +kernel
theorem dX4_measureFrom_88 : decode cX4_measureFrom 88 = .ok (.goto (-41), 3) := by decide +kernel
theorem dX4_measureFrom_91 : decode cX4_measureFrom 91 = .ok (.return_, 1) := by decide +kernel
set_option maxRecDepth 20000 in
theorem ggX4_queueNext_X4_twosAt : GoodIn wsX4_queueNext wsX4_twosAt := goodIn_r _ [8, 9, 19, 20, 21, 22, 23, 24, 25, 26, 27, 28] (by decide +kernel) (by decide +kernel)
set_option maxRecDepth 20000 in
theorem gX4_queueNext_X4_twosAt : GoodIn wsX4_queueNext (wsV RX4 97 RX4 yX4_twosAt wsX4_twosAt) := goodIn_app (goodIn_of _ (by decide +kernel)) ggX4_queueNext_X4_twosAt
set_option maxRecDepth 20000 in
theorem ggX4_queueNext_X4_threesAt : GoodIn wsX4_queueNext wsX4_threesAt := goodIn_r _ [13] (by decide +kernel) (by decide +kernel)
set_option maxRecDepth 20000 in
theorem gX4_queueNext_X4_threesAt : GoodIn wsX4_queueNext (wsV RX4 101 RX4 yX4_threesAt wsX4_threesAt) := goodIn_app (goodIn_of _ (by decide +kernel)) ggX4_queueNext_X4_threesAt
set_option maxRecDepth 20000 in
theorem ggX4_queueNext_X4_placeOf : GoodIn wsX4_queueNext wsX4_placeOf := goodIn_r _ [17, 9, 18, 19, 20, 21, 22, 23, 24, 25, 26, 27, 28] (by decide +kernel) (by decide +kernel)
set_option maxRecDepth 20000 in
theorem gX4_queueNext_X4_placeOf : GoodIn wsX4_queueNext (wsV RX4 58 RX4 yX4_placeOf wsX4_placeOf) := goodIn_app (goodIn_of _ (by decide +kernel)) ggX4_queueNext_X4_placeOf
theorem dX4_queueNext_0 : decode cX4_queueNext 0 = .ok (.iload_n 2, 1) := by decide +kernel
theorem dX4_queueNext_1 : decode cX4_queueNext 1 = .ok (.istore_n 3, 1) := by decide +kernel
theorem dX4_queueNext_2 : decode cX4_queueNext 2 = .ok (.iconst 0, 1) := by decide +kernel
theorem dX4_queueNext_3 : decode cX4_queueNext 3 = .ok (.istore 4, 2) := by decide +kernel
theorem dX4_queueNext_5 : decode cX4_queueNext 5 = .ok (.iload 4, 2) := by decide +kernel
theorem dX4_queueNext_7 : decode cX4_queueNext 7 = .ok (.bipush 65, 2) := by decide +kernel
theorem dX4_queueNext_9 : decode cX4_queueNext 9 = .ok (.if_icmp .ge 108, 3) := by decide +kernel
theorem dX4_queueNext_12 : decode cX4_queueNext 12 = .ok (.aload_n 0, 1) := by decide +kernel
theorem dX4_queueNext_13 : decode cX4_queueNext 13 = .ok (.getfield 21, 3) := by decide +kernel
theorem dX4_queueNext_16 : decode cX4_queueNext 16 = .ok (.iload 4, 2) := by decide +kernel
theorem dX4_queueNext_18 : decode cX4_queueNext 18 = .ok (.baload, 1) := by decide +kernel
theorem dX4_queueNext_19 : decode cX4_queueNext 19 = .ok (.ifCond .eq 37, 3) := by decide +kernel
theorem dX4_queueNext_22 : decode cX4_queueNext 22 = .ok (.aload_n 0, 1) := by decide +kernel
theorem dX4_queueNext_23 : decode cX4_queueNext 23 = .ok (.aload_n 0, 1) := by decide +kernel
theorem dX4_queueNext_24 : decode cX4_queueNext 24 = .ok (.iload_n 1, 1) := by decide +kernel
theorem dX4_queueNext_25 : decode cX4_queueNext 25 = .ok (.invokevirtual 97, 3) := by decide +kernel
theorem dX4_queueNext_28 : decode cX4_queueNext 28 = .ok (.iload 4, 2) := by decide +kernel
theorem dX4_queueNext_30 : decode cX4_queueNext 30 = .ok (.bipush 13, 2) := by decide +kernel
theorem dX4_queueNext_32 : decode cX4_queueNext 32 = .ok (.irem, 1) := by decide +kernel
theorem dX4_queueNext_33 : decode cX4_queueNext 33 = .ok (.iadd, 1) := by decide +kernel
theorem dX4_queueNext_34 : decode cX4_queueNext 34 = .ok (.bipush 6, 2) := by decide +kernel
theorem dX4_queueNext_36 : decode cX4_queueNext 36 = .ok (.isub, 1) := by decide +kernel
theorem dX4_queueNext_37 : decode cX4_queueNext 37 = .ok (.aload_n 0, 1) := by decide +kernel
theorem dX4_queueNext_38 : decode cX4_queueNext 38 = .ok (.iload_n 1, 1) := by decide +kernel
theorem dX4_queueNext_39 : decode cX4_queueNext 39 = .ok (.invokevirtual 101, 3) := by decide +kernel
theorem dX4_queueNext_42 : decode cX4_queueNext 42 = .ok (.iload 4, 2) := by decide +kernel
theorem dX4_queueNext_44 : decode cX4_queueNext 44 = .ok (.bipush 13, 2) := by decide +kernel
theorem dX4_queueNext_46 : decode cX4_queueNext 46 = .ok (.idiv, 1) := by decide +kernel
theorem dX4_queueNext_47 : decode cX4_queueNext 47 = .ok (.iadd, 1) := by decide +kernel
theorem dX4_queueNext_48 : decode cX4_queueNext 48 = .ok (.iconst 2, 1) := by decide +kernel
theorem dX4_queueNext_49 : decode cX4_queueNext 49 = .ok (.isub, 1) := by decide +kernel
theorem dX4_queueNext_50 : decode cX4_queueNext 50 = .ok (.invokevirtual 58, 3) := by decide +kernel
theorem dX4_queueNext_53 : decode cX4_queueNext 53 = .ok (.goto 5, 3) := by decide +kernel
theorem dX4_queueNext_56 : decode cX4_queueNext 56 = .ok (.bipush (-9), 2) := by decide +kernel
theorem dX4_queueNext_58 : decode cX4_queueNext 58 = .ok (.istore 5, 2) := by decide +kernel
theorem dX4_queueNext_60 : decode cX4_queueNext 60 = .ok (.iload 5, 2) := by decide +kernel
theorem dX4_queueNext_62 : decode cX4_queueNext 62 = .ok (.bipush (-9), 2) := by decide +kernel
theorem dX4_queueNext_64 : decode cX4_queueNext 64 = .ok (.if_icmp .eq 47, 3) := by decide +kernel
theorem dX4_queueNext_67 : decode cX4_queueNext 67 = .ok (.aload_n 0, 1) := by decide +kernel
theorem dX4_queueNext_68 : decode cX4_queueNext 68 = .ok (.getfield 25, 3) := by decide +kernel
theorem dX4_queueNext_71 : decode cX4_queueNext 71 = .ok (.iload 5, 2) := by decide +kernel
theorem dX4_queueNext_73 : decode cX4_queueNext 73 = .ok (.iaload, 1) := by decide +kernel
theorem dX4_queueNext_74 : decode cX4_queueNext 74 = .ok (.bipush (-9), 2) := by decide +kernel
theorem dX4_queueNext_76 : decode cX4_queueNext 76 = .ok (.if_icmp .ne 35, 3) := by decide +kernel
theorem dX4_queueNext_79 : decode cX4_queueNext 79 = .ok (.iload_n 3, 1) := by decide +kernel
theorem dX4_queueNext_80 : decode cX4_queueNext 80 = .ok (.bipush 105, 2) := by decide +kernel
theorem dX4_queueNext_82 : decode cX4_queueNext 82 = .ok (.if_icmp .ge 29, 3) := by decide +kernel
theorem dX4_queueNext_85 : decode cX4_queueNext 85 = .ok (.aload_n 0, 1) := by decide +kernel
theorem dX4_queueNext_86 : decode cX4_queueNext 86 = .ok (.getfield 25, 3) := by decide +kernel
theorem dX4_queueNext_89 : decode cX4_queueNext 89 = .ok (.iload 5, 2) := by decide +kernel
theorem dX4_queueNext_91 : decode cX4_queueNext 91 = .ok (.aload_n 0, 1) := by decide +kernel
theorem dX4_queueNext_92 : decode cX4_queueNext 92 = .ok (.getfield 25, 3) := by decide +kernel
theorem dX4_queueNext_95 : decode cX4_queueNext 95 = .ok (.iload_n 1, 1) := by decide +kernel
theorem dX4_queueNext_96 : decode cX4_queueNext 96 = .ok (.iaload, 1) := by decide +kernel
theorem dX4_queueNext_97 : decode cX4_queueNext 97 = .ok (.iconst 1, 1) := by decide +kernel
theorem dX4_queueNext_98 : decode cX4_queueNext 98 = .ok (.iadd, 1) := by decide +kernel
theorem dX4_queueNext_99 : decode cX4_queueNext 99 = .ok (.iastore, 1) := by decide +kernel
theorem dX4_queueNext_100 : decode cX4_queueNext 100 = .ok (.aload_n 0, 1) := by decide +kernel
theorem dX4_queueNext_101 : decode cX4_queueNext 101 = .ok (.getfield 28, 3) := by decide +kernel
theorem dX4_queueNext_104 : decode cX4_queueNext 104 = .ok (.iload_n 3, 1) := by decide +kernel
theorem dX4_queueNext_105 : decode cX4_queueNext 105 = .ok (.iload 5, 2) := by decide +kernel
theorem dX4_queueNext_107 : decode cX4_queueNext 107 = .ok (.iastore, 1) := by decide +kernel
theorem dX4_queueNext_108 : decode cX4_queueNext 108 = .ok (.iinc 3 1, 3) := by decide +kernel
theorem dX4_queueNext_111 : decode cX4_queueNext 111 = .ok (.iinc 4 1, 3) := by decide +kernel
theorem dX4_queueNext_114 : decode cX4_queueNext 114 = .ok (.goto (-109), 3) := by decide +kernel
theorem dX4_queueNext_117 : decode cX4_queueNext 117 = .ok (.iload_n 3, 1) := by decide +kernel
theorem dX4_queueNext_118 : decode cX4_queueNext 118 = .ok (.ireturn, 1) := by decide +kernel
set_option maxRecDepth 20000 in
theorem ggX4_readRow_X4_firstStep : GoodIn wsX4_readRow wsX4_firstStep := goodIn_r _ [7, 8, 9, 10, 11, 6, 12, 13, 14, 15, 16, 17, 18, 19, 20, 21, 22, 23, 24, 25, 26, 27, 28, 29] (by decide +kernel) (by decide +kernel)
set_option maxRecDepth 20000 in
theorem gX4_readRow_X4_firstStep : GoodIn wsX4_readRow (wsV RX4 104 RX4 yX4_firstStep wsX4_firstStep) := goodIn_app (goodIn_of _ (by decide +kernel)) ggX4_readRow_X4_firstStep
theorem dX4_readRow_0 : decode cX4_readRow 0 = .ok (.iconst 0, 1) := by decide +kernel
theorem dX4_readRow_1 : decode cX4_readRow 1 = .ok (.istore_n 1, 1) := by decide +kernel
theorem dX4_readRow_2 : decode cX4_readRow 2 = .ok (.iconst 0, 1) := by decide +kernel
theorem dX4_readRow_3 : decode cX4_readRow 3 = .ok (.istore_n 2, 1) := by decide +kernel
theorem dX4_readRow_4 : decode cX4_readRow 4 = .ok (.iconst 0, 1) := by decide +kernel
theorem dX4_readRow_5 : decode cX4_readRow 5 = .ok (.istore_n 3, 1) := by decide +kernel
theorem dX4_readRow_6 : decode cX4_readRow 6 = .ok (.iload_n 3, 1) := by decide +kernel
theorem dX4_readRow_7 : decode cX4_readRow 7 = .ok (.aload_n 0, 1) := by decide +kernel
theorem dX4_readRow_8 : decode cX4_readRow 8 = .ok (.getfield 41, 3) := by decide +kernel
theorem dX4_readRow_11 : decode cX4_readRow 11 = .ok (.if_icmp .ge 90, 3) := by decide +kernel
theorem dX4_readRow_14 : decode cX4_readRow 14 = .ok (.iload_n 3, 1) := by decide +kernel
theorem dX4_readRow_15 : decode cX4_readRow 15 = .ok (.iconst 5, 1) := by decide +kernel
theorem dX4_readRow_16 : decode cX4_readRow 16 = .ok (.if_icmp .ge 85, 3) := by decide +kernel
theorem dX4_readRow_19 : decode cX4_readRow 19 = .ok (.aload_n 0, 1) := by decide +kernel
theorem dX4_readRow_20 : decode cX4_readRow 20 = .ok (.iload_n 1, 1) := by decide +kernel
theorem dX4_readRow_21 : decode cX4_readRow 21 = .ok (.iload_n 2, 1) := by decide +kernel
theorem dX4_readRow_22 : decode cX4_readRow 22 = .ok (.aload_n 0, 1) := by decide +kernel
theorem dX4_readRow_23 : decode cX4_readRow 23 = .ok (.getfield 41, 3) := by decide +kernel
theorem dX4_readRow_26 : decode cX4_readRow 26 = .ok (.iload_n 3, 1) := by decide +kernel
theorem dX4_readRow_27 : decode cX4_readRow 27 = .ok (.isub, 1) := by decide +kernel
theorem dX4_readRow_28 : decode cX4_readRow 28 = .ok (.iconst 1, 1) := by decide +kernel
theorem dX4_readRow_29 : decode cX4_readRow 29 = .ok (.isub, 1) := by decide +kernel
theorem dX4_readRow_30 : decode cX4_readRow 30 = .ok (.invokevirtual 104, 3) := by decide +kernel
theorem dX4_readRow_33 : decode cX4_readRow 33 = .ok (.istore 4, 2) := by decide +kernel
theorem dX4_readRow_35 : decode cX4_readRow 35 = .ok (.iload 4, 2) := by decide +kernel
theorem dX4_readRow_37 : decode cX4_readRow 37 = .ok (.bipush (-9), 2) := by decide +kernel
theorem dX4_readRow_39 : decode cX4_readRow 39 = .ok (.if_icmp .ne 4, 3) := by decide +kernel
theorem dX4_readRow_42 : decode cX4_readRow 42 = .ok (.return_, 1) := by decide +kernel
theorem dX4_readRow_43 : decode cX4_readRow 43 = .ok (.aload_n 0, 1) := by decide +kernel
theorem dX4_readRow_44 : decode cX4_readRow 44 = .ok (.getfield 11, 3) := by decide +kernel
theorem dX4_readRow_47 : decode cX4_readRow 47 = .ok (.iload_n 3, 1) := by decide +kernel
theorem dX4_readRow_48 : decode cX4_readRow 48 = .ok (.iload 4, 2) := by decide +kernel
theorem dX4_readRow_50 : decode cX4_readRow 50 = .ok (.iastore, 1) := by decide +kernel
theorem dX4_readRow_51 : decode cX4_readRow 51 = .ok (.iload_n 1, 1) := by decide +kernel
theorem dX4_readRow_52 : decode cX4_readRow 52 = .ok (.getstatic 88, 3) := by decide +kernel
theorem dX4_readRow_55 : decode cX4_readRow 55 = .ok (.iload 4, 2) := by decide +kernel
theorem dX4_readRow_57 : decode cX4_readRow 57 = .ok (.bipush 100, 2) := by decide +kernel
theorem dX4_readRow_59 : decode cX4_readRow 59 = .ok (.irem, 1) := by decide +kernel
theorem dX4_readRow_60 : decode cX4_readRow 60 = .ok (.iaload, 1) := by decide +kernel
theorem dX4_readRow_61 : decode cX4_readRow 61 = .ok (.getstatic 88, 3) := by decide +kernel
theorem dX4_readRow_64 : decode cX4_readRow 64 = .ok (.iload 4, 2) := by decide +kernel
theorem dX4_readRow_66 : decode cX4_readRow 66 = .ok (.bipush 100, 2) := by decide +kernel
theorem dX4_readRow_68 : decode cX4_readRow 68 = .ok (.idiv, 1) := by decide +kernel
theorem dX4_readRow_69 : decode cX4_readRow 69 = .ok (.iaload, 1) := by decide +kernel
theorem dX4_readRow_70 : decode cX4_readRow 70 = .ok (.isub, 1) := by decide +kernel
theorem dX4_readRow_71 : decode cX4_readRow 71 = .ok (.iadd, 1) := by decide +kernel
theorem dX4_readRow_72 : decode cX4_readRow 72 = .ok (.istore_n 1, 1) := by decide +kernel
theorem dX4_readRow_73 : decode cX4_readRow 73 = .ok (.iload_n 2, 1) := by decide +kernel
theorem dX4_readRow_74 : decode cX4_readRow 74 = .ok (.getstatic 91, 3) := by decide +kernel
theorem dX4_readRow_77 : decode cX4_readRow 77 = .ok (.iload 4, 2) := by decide +kernel
theorem dX4_readRow_79 : decode cX4_readRow 79 = .ok (.bipush 100, 2) := by decide +kernel
theorem dX4_readRow_81 : decode cX4_readRow 81 = .ok (.irem, 1) := by decide +kernel
theorem dX4_readRow_82 : decode cX4_readRow 82 = .ok (.iaload, 1) := by decide +kernel
theorem dX4_readRow_83 : decode cX4_readRow 83 = .ok (.getstatic 91, 3) := by decide +kernel
theorem dX4_readRow_86 : decode cX4_readRow 86 = .ok (.iload 4, 2) := by decide +kernel
theorem dX4_readRow_88 : decode cX4_readRow 88 = .ok (.bipush 100, 2) := by decide +kernel
theorem dX4_readRow_90 : decode cX4_readRow 90 = .ok (.idiv, 1) := by decide +kernel
theorem dX4_readRow_91 : decode cX4_readRow 91 = .ok (.iaload, 1) := by decide +kernel
theorem dX4_readRow_92 : decode cX4_readRow 92 = .ok (.isub, 1) := by decide +kernel
theorem dX4_readRow_93 : decode cX4_readRow 93 = .ok (.iadd, 1) := by decide +kernel
theorem dX4_readRow_94 : decode cX4_readRow 94 = .ok (.istore_n 2, 1) := by decide +kernel
theorem dX4_readRow_95 : decode cX4_readRow 95 = .ok (.iinc 3 1, 3) := by decide +kernel
theorem dX4_readRow_98 : decode cX4_readRow 98 = .ok (.goto (-92), 3) := by decide +kernel
theorem dX4_readRow_101 : decode cX4_readRow 101 = .ok (.return_, 1) := by decide +kernel
set_option maxRecDepth 20000 in
theorem ggX4_firstStep_X4_inSet : GoodIn wsX4_firstStep wsX4_inSet := goodIn_r _ [6, 7, 14, 15, 16, 17, 18, 19, 20, 21, 22, 23] (by decide +kernel) (by decide +kernel)
set_option maxRecDepth 20000 in
theorem gX4_firstStep_X4_inSet : GoodIn wsX4_firstStep (wsV RX4 84 RX4 yX4_inSet wsX4_inSet) := goodIn_app (goodIn_of _ (by decide +kernel)) ggX4_firstStep_X4_inSet
set_option maxRecDepth 20000 in
theorem ggX4_firstStep_X4_placeOf : GoodIn wsX4_firstStep wsX4_placeOf := goodIn_r _ [11, 12, 13, 14, 15, 16, 17, 18, 19, 20, 21, 22, 23] (by decide +kernel) (by decide +kernel)
set_option maxRecDepth 20000 in
theorem gX4_firstStep_X4_placeOf : GoodIn wsX4_firstStep (wsV RX4 58 RX4 yX4_placeOf wsX4_placeOf) := goodIn_app (goodIn_of _ (by decide +kernel)) ggX4_firstStep_X4_placeOf
theorem dX4_firstStep_0 : decode cX4_firstStep 0 = .ok (.iconst 0, 1) := by decide +kernel
theorem dX4_firstStep_1 : decode cX4_firstStep 1 = .ok (.istore 4, 2) := by decide +kernel
theorem dX4_firstStep_3 : decode cX4_firstStep 3 = .ok (.iload 4, 2) := by decide +kernel
theorem dX4_firstStep_5 : decode cX4_firstStep 5 = .ok (.bipush 20, 2) := by decide +kernel
theorem dX4_firstStep_7 : decode cX4_firstStep 7 = .ok (.if_icmp .ge 106, 3) := by decide +kernel
theorem dX4_firstStep_10 : decode cX4_firstStep 10 = .ok (.iconst 0, 1) := by decide +kernel
theorem dX4_firstStep_11 : decode cX4_firstStep 11 = .ok (.istore 5, 2) := by decide +kernel
theorem dX4_firstStep_13 : decode cX4_firstStep 13 = .ok (.iload 5, 2) := by decide +kernel
theorem dX4_firstStep_15 : decode cX4_firstStep 15 = .ok (.bipush 20, 2) := by decide +kernel
theorem dX4_firstStep_17 : decode cX4_firstStep 17 = .ok (.if_icmp .ge 90, 3) := by decide +kernel
theorem dX4_firstStep_20 : decode cX4_firstStep 20 = .ok (.aload_n 0, 1) := by decide +kernel
theorem dX4_firstStep_21 : decode cX4_firstStep 21 = .ok (.iload 4, 2) := by decide +kernel
theorem dX4_firstStep_23 : decode cX4_firstStep 23 = .ok (.invokevirtual 84, 3) := by decide +kernel
theorem dX4_firstStep_26 : decode cX4_firstStep 26 = .ok (.ifCond .eq 75, 3) := by decide +kernel
theorem dX4_firstStep_29 : decode cX4_firstStep 29 = .ok (.aload_n 0, 1) := by decide +kernel
theorem dX4_firstStep_30 : decode cX4_firstStep 30 = .ok (.iload 5, 2) := by decide +kernel
theorem dX4_firstStep_32 : decode cX4_firstStep 32 = .ok (.invokevirtual 84, 3) := by decide +kernel
theorem dX4_firstStep_35 : decode cX4_firstStep 35 = .ok (.ifCond .eq 66, 3) := by decide +kernel
theorem dX4_firstStep_38 : decode cX4_firstStep 38 = .ok (.aload_n 0, 1) := by decide +kernel
theorem dX4_firstStep_39 : decode cX4_firstStep 39 = .ok (.iload_n 1, 1) := by decide +kernel
theorem dX4_firstStep_40 : decode cX4_firstStep 40 = .ok (.getstatic 88, 3) := by decide +kernel
theorem dX4_firstStep_43 : decode cX4_firstStep 43 = .ok (.iload 5, 2) := by decide +kernel
theorem dX4_firstStep_45 : decode cX4_firstStep 45 = .ok (.iaload, 1) := by decide +kernel
theorem dX4_firstStep_46 : decode cX4_firstStep 46 = .ok (.iadd, 1) := by decide +kernel
theorem dX4_firstStep_47 : decode cX4_firstStep 47 = .ok (.getstatic 88, 3) := by decide +kernel
theorem dX4_firstStep_50 : decode cX4_firstStep 50 = .ok (.iload 4, 2) := by decide +kernel
theorem dX4_firstStep_52 : decode cX4_firstStep 52 = .ok (.iaload, 1) := by decide +kernel
theorem dX4_firstStep_53 : decode cX4_firstStep 53 = .ok (.isub, 1) := by decide +kernel
theorem dX4_firstStep_54 : decode cX4_firstStep 54 = .ok (.iload_n 2, 1) := by decide +kernel
theorem dX4_firstStep_55 : decode cX4_firstStep 55 = .ok (.getstatic 91, 3) := by decide +kernel
theorem dX4_firstStep_58 : decode cX4_firstStep 58 = .ok (.iload 5, 2) := by decide +kernel
theorem dX4_firstStep_60 : decode cX4_firstStep 60 = .ok (.iaload, 1) := by decide +kernel
theorem dX4_firstStep_61 : decode cX4_firstStep 61 = .ok (.iadd, 1) := by decide +kernel
theorem dX4_firstStep_62 : decode cX4_firstStep 62 = .ok (.getstatic 91, 3) := by decide +kernel
theorem dX4_firstStep_65 : decode cX4_firstStep 65 = .ok (.iload 4, 2) := by decide +kernel
theorem dX4_firstStep_67 : decode cX4_firstStep 67 = .ok (.iaload, 1) := by decide +kernel
theorem dX4_firstStep_68 : decode cX4_firstStep 68 = .ok (.isub, 1) := by decide +kernel
theorem dX4_firstStep_69 : decode cX4_firstStep 69 = .ok (.invokevirtual 58, 3) := by decide +kernel
theorem dX4_firstStep_72 : decode cX4_firstStep 72 = .ok (.istore 6, 2) := by decide +kernel
theorem dX4_firstStep_74 : decode cX4_firstStep 74 = .ok (.iload 6, 2) := by decide +kernel
theorem dX4_firstStep_76 : decode cX4_firstStep 76 = .ok (.bipush (-9), 2) := by decide +kernel
theorem dX4_firstStep_78 : decode cX4_firstStep 78 = .ok (.if_icmp .eq 23, 3) := by decide +kernel
theorem dX4_firstStep_81 : decode cX4_firstStep 81 = .ok (.aload_n 0, 1) := by decide +kernel
theorem dX4_firstStep_82 : decode cX4_firstStep 82 = .ok (.getfield 25, 3) := by decide +kernel
theorem dX4_firstStep_85 : decode cX4_firstStep 85 = .ok (.iload 6, 2) := by decide +kernel
theorem dX4_firstStep_87 : decode cX4_firstStep 87 = .ok (.iaload, 1) := by decide +kernel
theorem dX4_firstStep_88 : decode cX4_firstStep 88 = .ok (.iload_n 3, 1) := by decide +kernel
theorem dX4_firstStep_89 : decode cX4_firstStep 89 = .ok (.if_icmp .ne 12, 3) := by decide +kernel
theorem dX4_firstStep_92 : decode cX4_firstStep 92 = .ok (.bipush 100, 2) := by decide +kernel
theorem dX4_firstStep_94 : decode cX4_firstStep 94 = .ok (.iload 4, 2) := by decide +kernel
theorem dX4_firstStep_96 : decode cX4_firstStep 96 = .ok (.imul, 1) := by decide +kernel
theorem dX4_firstStep_97 : decode cX4_firstStep 97 = .ok (.iload 5, 2) := by decide +kernel
theorem dX4_firstStep_99 : decode cX4_firstStep 99 = .ok (.iadd, 1) := by decide +kernel
theorem dX4_firstStep_100 : decode cX4_firstStep 100 = .ok (.ireturn, 1) := by decide +kernel
theorem dX4_firstStep_101 : decode cX4_firstStep 101 = .ok (.iinc 5 1, 3) := by decide +kernel
theorem dX4_firstStep_104 : decode cX4_firstStep 104 = .ok (.goto (-91), 3) := by decide +kernel
theorem dX4_firstStep_107 : decode cX4_firstStep 107 = .ok (.iinc 4 1, 3) := by decide +kernel
theorem dX4_firstStep_110 : decode cX4_firstStep 110 = .ok (.goto (-107), 3) := by decide +kernel
theorem dX4_firstStep_113 : decode cX4_firstStep 113 = .ok (.bipush (-9), 2) := by decide +kernel
theorem dX4_firstStep_115 : decode cX4_firstStep 115 = .ok (.ireturn, 1) := by decide +kernel
set_option maxRecDepth 20000 in
theorem ggX5_init_X3_init : GoodIn wsX5_init wsX3_init := goodIn_r _ [26, 27, 2, 3, 28, 29, 30, 31, 32, 33, 34, 35, 70, 71, 72, 73, 74, 75, 76, 77, 78] (by decide +kernel) (by decide +kernel)
set_option maxRecDepth 20000 in
theorem gX5_init_X3_init_n9 : GoodIn wsX5_init (wsX3_init) := ggX5_init_X3_init
set_option maxRecDepth 20000 in
theorem ggX5_init_X1_init : GoodIn wsX5_init wsX1_init := goodIn_r _ [37, 38, 2, 3, 28, 39, 40, 41, 42, 43, 85, 86, 87, 88, 89] (by decide +kernel) (by decide +kernel)
set_option maxRecDepth 20000 in
theorem gX5_init_X1_init_n18 : GoodIn wsX5_init (wsX1_init) := ggX5_init_X1_init
set_option maxRecDepth 20000 in
theorem ggX5_init_X2_init : GoodIn wsX5_init wsX2_init := goodIn_r _ [46, 47, 2, 3, 28, 48, 49, 90, 91] (by decide +kernel) (by decide +kernel)
set_option maxRecDepth 20000 in
theorem gX5_init_X2_init : GoodIn wsX5_init (wsX2_init) := ggX5_init_X2_init
set_option maxRecDepth 20000 in
theorem ggX5_init_X0_init : GoodIn wsX5_init wsX0_init := goodIn_r _ [51, 52, 2, 3, 28, 53, 54, 55, 56, 57, 58, 59, 92, 93, 94, 95, 96, 97, 98, 99, 100] (by decide +kernel) (by decide +kernel)
set_option maxRecDepth 20000 in
theorem gX5_init_X0_init_n32 : GoodIn wsX5_init (wsX0_init) := ggX5_init_X0_init
set_option maxRecDepth 20000 in
theorem ggX5_init_X4_init : GoodIn wsX5_init wsX4_init := goodIn_r _ [61, 62, 2, 3, 28, 63, 64, 65, 66, 67, 68, 69, 101, 102, 103, 104, 105, 106, 107, 108, 109, 110] (by decide +kernel) (by decide +kernel)
set_option maxRecDepth 20000 in
theorem gX5_init_X4_init_n39 : GoodIn wsX5_init (wsX4_init) := ggX5_init_X4_init
