theorem dX5_init_0 : decode cX5_init 0 = .ok (.aload_n 0, 1) := by decide +kernel
theorem dX5_init_1 : decode cX5_init 1 = .ok (.invokespecial 1, 3) := by decide +kernel
theorem dX5_init_4 : decode cX5_init 4 = .ok (.aload_n 0, 1) := by decide +kernel
theorem dX5_init_5 : decode cX5_init 5 = .ok (.new 7, 3) := by decide +kernel
theorem dX5_init_8 : decode cX5_init 8 = .ok (.dup, 1) := by decide +kernel
theorem dX5_init_9 : decode cX5_init 9 = .ok (.invokespecial 9, 3) := by decide +kernel
theorem dX5_init_12 : decode cX5_init 12 = .ok (.putfield 10, 3) := by decide +kernel
theorem dX5_init_15 : decode cX5_init 15 = .ok (.aload_n 0, 1) := by decide +kernel
theorem dX5_init_16 : decode cX5_init 16 = .ok (.new 16, 3) := by decide +kernel
theorem dX5_init_19 : decode cX5_init 19 = .ok (.dup, 1) := by decide +kernel
theorem dX5_init_20 : decode cX5_init 20 = .ok (.invokespecial 18, 3) := by decide +kernel
theorem dX5_init_23 : decode cX5_init 23 = .ok (.putfield 19, 3) := by decide +kernel
theorem dX5_init_26 : decode cX5_init 26 = .ok (.aload_n 0, 1) := by decide +kernel
theorem dX5_init_27 : decode cX5_init 27 = .ok (.new 23, 3) := by decide +kernel
theorem dX5_init_30 : decode cX5_init 30 = .ok (.dup, 1) := by decide +kernel
theorem dX5_init_31 : decode cX5_init 31 = .ok (.invokespecial 25, 3) := by decide +kernel
theorem dX5_init_34 : decode cX5_init 34 = .ok (.putfield 26, 3) := by decide +kernel
theorem dX5_init_37 : decode cX5_init 37 = .ok (.aload_n 0, 1) := by decide +kernel
theorem dX5_init_38 : decode cX5_init 38 = .ok (.new 30, 3) := by decide +kernel
theorem dX5_init_41 : decode cX5_init 41 = .ok (.dup, 1) := by decide +kernel
theorem dX5_init_42 : decode cX5_init 42 = .ok (.invokespecial 32, 3) := by decide +kernel
theorem dX5_init_45 : decode cX5_init 45 = .ok (.putfield 33, 3) := by decide +kernel
theorem dX5_init_48 : decode cX5_init 48 = .ok (.aload_n 0, 1) := by decide +kernel
theorem dX5_init_49 : decode cX5_init 49 = .ok (.new 37, 3) := by decide +kernel
theorem dX5_init_52 : decode cX5_init 52 = .ok (.dup, 1) := by decide +kernel
theorem dX5_init_53 : decode cX5_init 53 = .ok (.invokespecial 39, 3) := by decide +kernel
theorem dX5_init_56 : decode cX5_init 56 = .ok (.putfield 40, 3) := by decide +kernel
theorem dX5_init_59 : decode cX5_init 59 = .ok (.aload_n 0, 1) := by decide +kernel
theorem dX5_init_60 : decode cX5_init 60 = .ok (.bipush 60, 2) := by decide +kernel
theorem dX5_init_62 : decode cX5_init 62 = .ok (.putfield 44, 3) := by decide +kernel
theorem dX5_init_65 : decode cX5_init 65 = .ok (.return_, 1) := by decide +kernel
set_option maxRecDepth 20000 in
theorem ggX5_section_X5_isBeats : GoodIn wsX5_section wsX5_isBeats := goodIn_r _ [6] (by decide +kernel) (by decide +kernel)
set_option maxRecDepth 20000 in
theorem gX5_section_X5_isBeats : GoodIn wsX5_section (va_wsS RX5 48 yX5_isBeats wsX5_isBeats) := goodIn_app (goodIn_of _ (by decide +kernel)) ggX5_section_X5_isBeats
set_option maxRecDepth 20000 in
theorem ggX5_section_X3_addSection : GoodIn wsX5_section wsX3_addSection := goodIn_r _ [11, 12, 13, 14, 76, 77, 78, 79, 80, 81, 82, 83, 84] (by decide +kernel) (by decide +kernel)
set_option maxRecDepth 20000 in
theorem gX5_section_X3_addSection : GoodIn wsX5_section (wsV RX5 55 RX3 yX3_addSection wsX3_addSection) := goodIn_app (goodIn_of _ (by decide +kernel)) ggX5_section_X3_addSection
set_option maxRecDepth 20000 in
theorem ggX5_section_X5_tiesChanged : GoodIn wsX5_section wsX5_tiesChanged := goodIn_r _ [18, 19, 1, 20, 21, 22, 23, 24, 25, 26, 27, 28, 29, 30, 31, 32, 33, 34, 35, 36, 37, 38, 39, 40, 41, 42, 43, 44, 45, 46, 47, 48, 10, 49, 50, 51, 52, 53, 54, 55, 56, 57, 58, 59, 60, 61, 62, 63, 64, 65, 66, 67, 68, 69, 70, 71, 72, 73, 74, 75, 85, 86, 87, 88, 89, 76, 77, 78, 79, 80, 81, 82, 83, 84, 90, 91, 92, 93, 94, 95, 96, 97, 98] (by decide +kernel) (by decide +kernel)
set_option maxRecDepth 20000 in
theorem gX5_section_X5_tiesChanged : GoodIn wsX5_section (wsV RX5 59 RX5 yX5_tiesChanged wsX5_tiesChanged) := goodIn_app (goodIn_of _ (by decide +kernel)) ggX5_section_X5_tiesChanged
theorem dX5_section_0 : decode cX5_section 0 = .ok (.iload_n 1, 1) := by decide +kernel
theorem dX5_section_1 : decode cX5_section 1 = .ok (.invokestatic 48, 3) := by decide +kernel
theorem dX5_section_4 : decode cX5_section 4 = .ok (.ifCond .ne 6, 3) := by decide +kernel
theorem dX5_section_7 : decode cX5_section 7 = .ok (.bipush (-2), 2) := by decide +kernel
theorem dX5_section_9 : decode cX5_section 9 = .ok (.ireturn, 1) := by decide +kernel
theorem dX5_section_10 : decode cX5_section 10 = .ok (.aload_n 0, 1) := by decide +kernel
theorem dX5_section_11 : decode cX5_section 11 = .ok (.getfield 10, 3) := by decide +kernel
theorem dX5_section_14 : decode cX5_section 14 = .ok (.getfield 52, 3) := by decide +kernel
theorem dX5_section_17 : decode cX5_section 17 = .ok (.bipush 7, 2) := by decide +kernel
theorem dX5_section_19 : decode cX5_section 19 = .ok (.if_icmp .lt 6, 3) := by decide +kernel
theorem dX5_section_22 : decode cX5_section 22 = .ok (.bipush (-4), 2) := by decide +kernel
theorem dX5_section_24 : decode cX5_section 24 = .ok (.ireturn, 1) := by decide +kernel
theorem dX5_section_25 : decode cX5_section 25 = .ok (.aload_n 0, 1) := by decide +kernel
theorem dX5_section_26 : decode cX5_section 26 = .ok (.getfield 10, 3) := by decide +kernel
theorem dX5_section_29 : decode cX5_section 29 = .ok (.iload_n 1, 1) := by decide +kernel
theorem dX5_section_30 : decode cX5_section 30 = .ok (.invokevirtual 55, 3) := by decide +kernel
theorem dX5_section_33 : decode cX5_section 33 = .ok (.istore_n 2, 1) := by decide +kernel
theorem dX5_section_34 : decode cX5_section 34 = .ok (.aload_n 0, 1) := by decide +kernel
theorem dX5_section_35 : decode cX5_section 35 = .ok (.invokevirtual 59, 3) := by decide +kernel
theorem dX5_section_38 : decode cX5_section 38 = .ok (.iload_n 2, 1) := by decide +kernel
theorem dX5_section_39 : decode cX5_section 39 = .ok (.ireturn, 1) := by decide +kernel
set_option maxRecDepth 20000 in
theorem ggX5_beats_X5_isSection : GoodIn wsX5_beats wsX5_isSection := goodIn_r _ [7, 1, 8, 12, 13, 14, 15, 16, 17, 18, 19, 20, 21, 22, 23, 24, 25, 26] (by decide +kernel) (by decide +kernel)
set_option maxRecDepth 20000 in
theorem gX5_beats_X5_isSection : GoodIn wsX5_beats (wsV RX5 62 RX5 yX5_isSection wsX5_isSection) := goodIn_app (goodIn_of _ (by decide +kernel)) ggX5_beats_X5_isSection
set_option maxRecDepth 20000 in
theorem ggX5_beats_X5_isBeats : GoodIn wsX5_beats wsX5_isBeats := goodIn_r _ [11] (by decide +kernel) (by decide +kernel)
set_option maxRecDepth 20000 in
theorem gX5_beats_X5_isBeats : GoodIn wsX5_beats (va_wsS RX5 48 yX5_isBeats wsX5_isBeats) := goodIn_app (goodIn_of _ (by decide +kernel)) ggX5_beats_X5_isBeats
theorem dX5_beats_0 : decode cX5_beats 0 = .ok (.aload_n 0, 1) := by decide +kernel
theorem dX5_beats_1 : decode cX5_beats 1 = .ok (.iload_n 1, 1) := by decide +kernel
theorem dX5_beats_2 : decode cX5_beats 2 = .ok (.invokevirtual 62, 3) := by decide +kernel
theorem dX5_beats_5 : decode cX5_beats 5 = .ok (.ifCond .ne 5, 3) := by decide +kernel
theorem dX5_beats_8 : decode cX5_beats 8 = .ok (.iconst (-1), 1) := by decide +kernel
theorem dX5_beats_9 : decode cX5_beats 9 = .ok (.ireturn, 1) := by decide +kernel
theorem dX5_beats_10 : decode cX5_beats 10 = .ok (.iload_n 2, 1) := by decide +kernel
theorem dX5_beats_11 : decode cX5_beats 11 = .ok (.invokestatic 48, 3) := by decide +kernel
theorem dX5_beats_14 : decode cX5_beats 14 = .ok (.ifCond .ne 6, 3) := by decide +kernel
theorem dX5_beats_17 : decode cX5_beats 17 = .ok (.bipush (-2), 2) := by decide +kernel
theorem dX5_beats_19 : decode cX5_beats 19 = .ok (.ireturn, 1) := by decide +kernel
theorem dX5_beats_20 : decode cX5_beats 20 = .ok (.aload_n 0, 1) := by decide +kernel
theorem dX5_beats_21 : decode cX5_beats 21 = .ok (.getfield 10, 3) := by decide +kernel
theorem dX5_beats_24 : decode cX5_beats 24 = .ok (.getfield 65, 3) := by decide +kernel
theorem dX5_beats_27 : decode cX5_beats 27 = .ok (.iload_n 1, 1) := by decide +kernel
theorem dX5_beats_28 : decode cX5_beats 28 = .ok (.iaload, 1) := by decide +kernel
theorem dX5_beats_29 : decode cX5_beats 29 = .ok (.istore_n 3, 1) := by decide +kernel
theorem dX5_beats_30 : decode cX5_beats 30 = .ok (.aload_n 0, 1) := by decide +kernel
theorem dX5_beats_31 : decode cX5_beats 31 = .ok (.getfield 10, 3) := by decide +kernel
theorem dX5_beats_34 : decode cX5_beats 34 = .ok (.getfield 65, 3) := by decide +kernel
theorem dX5_beats_37 : decode cX5_beats 37 = .ok (.iload_n 1, 1) := by decide +kernel
theorem dX5_beats_38 : decode cX5_beats 38 = .ok (.iload_n 2, 1) := by decide +kernel
theorem dX5_beats_39 : decode cX5_beats 39 = .ok (.iastore, 1) := by decide +kernel
theorem dX5_beats_40 : decode cX5_beats 40 = .ok (.iload_n 3, 1) := by decide +kernel
theorem dX5_beats_41 : decode cX5_beats 41 = .ok (.ireturn, 1) := by decide +kernel
set_option maxRecDepth 20000 in
theorem ggX5_start_X5_isWholeTempo : GoodIn wsX5_start wsX5_isWholeTempo := goodIn_r _ [5] (by decide +kernel) (by decide +kernel)
set_option maxRecDepth 20000 in
theorem gX5_start_X5_isWholeTempo : GoodIn wsX5_start (va_wsS RX5 69 yX5_isWholeTempo wsX5_isWholeTempo) := goodIn_app (goodIn_of _ (by decide +kernel)) ggX5_start_X5_isWholeTempo
theorem dX5_start_0 : decode cX5_start 0 = .ok (.iload_n 1, 1) := by decide +kernel
theorem dX5_start_1 : decode cX5_start 1 = .ok (.invokestatic 69, 3) := by decide +kernel
theorem dX5_start_4 : decode cX5_start 4 = .ok (.ifCond .ne 6, 3) := by decide +kernel
theorem dX5_start_7 : decode cX5_start 7 = .ok (.bipush (-2), 2) := by decide +kernel
theorem dX5_start_9 : decode cX5_start 9 = .ok (.ireturn, 1) := by decide +kernel
theorem dX5_start_10 : decode cX5_start 10 = .ok (.aload_n 0, 1) := by decide +kernel
theorem dX5_start_11 : decode cX5_start 11 = .ok (.getfield 44, 3) := by decide +kernel
theorem dX5_start_14 : decode cX5_start 14 = .ok (.istore_n 2, 1) := by decide +kernel
theorem dX5_start_15 : decode cX5_start 15 = .ok (.aload_n 0, 1) := by decide +kernel
theorem dX5_start_16 : decode cX5_start 16 = .ok (.iload_n 1, 1) := by decide +kernel
theorem dX5_start_17 : decode cX5_start 17 = .ok (.putfield 44, 3) := by decide +kernel
theorem dX5_start_20 : decode cX5_start 20 = .ok (.iload_n 2, 1) := by decide +kernel
theorem dX5_start_21 : decode cX5_start 21 = .ok (.ireturn, 1) := by decide +kernel
set_option maxRecDepth 20000 in
theorem ggX5_tie_X5_isSection : GoodIn wsX5_tie wsX5_isSection := goodIn_r _ [7, 1, 8, 79, 80, 81, 82, 83, 84, 85, 86, 87, 88, 89, 90, 91, 92, 93] (by decide +kernel) (by decide +kernel)
set_option maxRecDepth 20000 in
theorem gX5_tie_X5_isSection : GoodIn wsX5_tie (wsV RX5 62 RX5 yX5_isSection wsX5_isSection) := goodIn_app (goodIn_of _ (by decide +kernel)) ggX5_tie_X5_isSection
set_option maxRecDepth 20000 in
theorem ggX5_tie_X5_isValue : GoodIn wsX5_tie wsX5_isValue := goodIn_r _ [11] (by decide +kernel) (by decide +kernel)
set_option maxRecDepth 20000 in
theorem gX5_tie_X5_isValue : GoodIn wsX5_tie (va_wsS RX5 72 yX5_isValue wsX5_isValue) := goodIn_app (goodIn_of _ (by decide +kernel)) ggX5_tie_X5_isValue
set_option maxRecDepth 20000 in
theorem ggX5_tie_X5_isEar : GoodIn wsX5_tie wsX5_isEar := goodIn_r _ [14] (by decide +kernel) (by decide +kernel)
set_option maxRecDepth 20000 in
theorem gX5_tie_X5_isEar : GoodIn wsX5_tie (va_wsS RX5 75 yX5_isEar wsX5_isEar) := goodIn_app (goodIn_of _ (by decide +kernel)) ggX5_tie_X5_isEar
set_option maxRecDepth 20000 in
theorem ggX5_tie_X3_addTie : GoodIn wsX5_tie wsX3_addTie := goodIn_r _ [19, 20, 21, 22, 23, 24, 25, 85, 86, 87, 88, 89, 90, 91, 92, 93] (by decide +kernel) (by decide +kernel)
set_option maxRecDepth 20000 in
theorem gX5_tie_X3_addTie : GoodIn wsX5_tie (wsV RX5 81 RX3 yX3_addTie wsX3_addTie) := goodIn_app (goodIn_of _ (by decide +kernel)) ggX5_tie_X3_addTie
set_option maxRecDepth 20000 in
theorem ggX5_tie_X5_tiesChanged : GoodIn wsX5_tie wsX5_tiesChanged := goodIn_r _ [29, 30, 1, 31, 32, 33, 34, 35, 36, 37, 38, 39, 40, 41, 42, 43, 44, 45, 46, 47, 48, 49, 50, 51, 52, 53, 54, 55, 56, 57, 58, 59, 18, 60, 24, 22, 61, 62, 63, 64, 65, 66, 67, 68, 69, 70, 71, 72, 73, 74, 75, 76, 77, 78, 79, 80, 81, 82, 83, 84, 94, 95, 96, 97, 98, 85, 86, 87, 88, 89, 90, 91, 92, 93, 99, 100, 101, 102, 103, 104, 105, 106, 107] (by decide +kernel) (by decide +kernel)
set_option maxRecDepth 20000 in
theorem gX5_tie_X5_tiesChanged : GoodIn wsX5_tie (wsV RX5 59 RX5 yX5_tiesChanged wsX5_tiesChanged) := goodIn_app (goodIn_of _ (by decide +kernel)) ggX5_tie_X5_tiesChanged
theorem dX5_tie_0 : decode cX5_tie 0 = .ok (.aload_n 0, 1) := by decide +kernel
theorem dX5_tie_1 : decode cX5_tie 1 = .ok (.iload_n 1, 1) := by decide +kernel
theorem dX5_tie_2 : decode cX5_tie 2 = .ok (.invokevirtual 62, 3) := by decide +kernel
theorem dX5_tie_5 : decode cX5_tie 5 = .ok (.ifCond .eq 31, 3) := by decide +kernel
theorem dX5_tie_8 : decode cX5_tie 8 = .ok (.aload_n 0, 1) := by decide +kernel
theorem dX5_tie_9 : decode cX5_tie 9 = .ok (.iload_n 3, 1) := by decide +kernel
theorem dX5_tie_10 : decode cX5_tie 10 = .ok (.invokevirtual 62, 3) := by decide +kernel
theorem dX5_tie_13 : decode cX5_tie 13 = .ok (.ifCond .eq 23, 3) := by decide +kernel
theorem dX5_tie_16 : decode cX5_tie 16 = .ok (.iload_n 1, 1) := by decide +kernel
theorem dX5_tie_17 : decode cX5_tie 17 = .ok (.iload_n 3, 1) := by decide +kernel
theorem dX5_tie_18 : decode cX5_tie 18 = .ok (.if_icmp .eq 18, 3) := by decide +kernel
theorem dX5_tie_21 : decode cX5_tie 21 = .ok (.iload_n 2, 1) := by decide +kernel
theorem dX5_tie_22 : decode cX5_tie 22 = .ok (.invokestatic 72, 3) := by decide +kernel
theorem dX5_tie_25 : decode cX5_tie 25 = .ok (.ifCond .eq 11, 3) := by decide +kernel
theorem dX5_tie_28 : decode cX5_tie 28 = .ok (.iload 4, 2) := by decide +kernel
theorem dX5_tie_30 : decode cX5_tie 30 = .ok (.invokestatic 72, 3) := by decide +kernel
theorem dX5_tie_33 : decode cX5_tie 33 = .ok (.ifCond .ne 5, 3) := by decide +kernel
theorem dX5_tie_36 : decode cX5_tie 36 = .ok (.iconst (-1), 1) := by decide +kernel
theorem dX5_tie_37 : decode cX5_tie 37 = .ok (.ireturn, 1) := by decide +kernel
theorem dX5_tie_38 : decode cX5_tie 38 = .ok (.iload 5, 2) := by decide +kernel
theorem dX5_tie_40 : decode cX5_tie 40 = .ok (.invokestatic 75, 3) := by decide +kernel
theorem dX5_tie_43 : decode cX5_tie 43 = .ok (.ifCond .ne 6, 3) := by decide +kernel
theorem dX5_tie_46 : decode cX5_tie 46 = .ok (.bipush (-2), 2) := by decide +kernel
theorem dX5_tie_48 : decode cX5_tie 48 = .ok (.ireturn, 1) := by decide +kernel
theorem dX5_tie_49 : decode cX5_tie 49 = .ok (.aload_n 0, 1) := by decide +kernel
theorem dX5_tie_50 : decode cX5_tie 50 = .ok (.getfield 10, 3) := by decide +kernel
theorem dX5_tie_53 : decode cX5_tie 53 = .ok (.getfield 78, 3) := by decide +kernel
theorem dX5_tie_56 : decode cX5_tie 56 = .ok (.bipush 12, 2) := by decide +kernel
theorem dX5_tie_58 : decode cX5_tie 58 = .ok (.if_icmp .lt 6, 3) := by decide +kernel
theorem dX5_tie_61 : decode cX5_tie 61 = .ok (.bipush (-4), 2) := by decide +kernel
theorem dX5_tie_63 : decode cX5_tie 63 = .ok (.ireturn, 1) := by decide +kernel
theorem dX5_tie_64 : decode cX5_tie 64 = .ok (.aload_n 0, 1) := by decide +kernel
theorem dX5_tie_65 : decode cX5_tie 65 = .ok (.getfield 10, 3) := by decide +kernel
theorem dX5_tie_68 : decode cX5_tie 68 = .ok (.iload_n 1, 1) := by decide +kernel
theorem dX5_tie_69 : decode cX5_tie 69 = .ok (.iload_n 2, 1) := by decide +kernel
theorem dX5_tie_70 : decode cX5_tie 70 = .ok (.iload_n 3, 1) := by decide +kernel
theorem dX5_tie_71 : decode cX5_tie 71 = .ok (.iload 4, 2) := by decide +kernel
theorem dX5_tie_73 : decode cX5_tie 73 = .ok (.iload 5, 2) := by decide +kernel
theorem dX5_tie_75 : decode cX5_tie 75 = .ok (.invokevirtual 81, 3) := by decide +kernel
theorem dX5_tie_78 : decode cX5_tie 78 = .ok (.istore 6, 2) := by decide +kernel
theorem dX5_tie_80 : decode cX5_tie 80 = .ok (.aload_n 0, 1) := by decide +kernel
theorem dX5_tie_81 : decode cX5_tie 81 = .ok (.invokevirtual 59, 3) := by decide +kernel
theorem dX5_tie_84 : decode cX5_tie 84 = .ok (.iload 6, 2) := by decide +kernel
theorem dX5_tie_86 : decode cX5_tie 86 = .ok (.ireturn, 1) := by decide +kernel
set_option maxRecDepth 20000 in
theorem ggX5_ear_X5_isTie : GoodIn wsX5_ear wsX5_isTie := goodIn_r _ [8, 1, 9, 19, 20, 21, 22, 23, 24, 25, 26, 27, 28, 29, 30, 31, 32, 33] (by decide +kernel) (by decide +kernel)
set_option maxRecDepth 20000 in
theorem gX5_ear_X5_isTie : GoodIn wsX5_ear (wsV RX5 85 RX5 yX5_isTie wsX5_isTie) := goodIn_app (goodIn_of _ (by decide +kernel)) ggX5_ear_X5_isTie
set_option maxRecDepth 20000 in
theorem ggX5_ear_X5_isEar : GoodIn wsX5_ear wsX5_isEar := goodIn_r _ [12] (by decide +kernel) (by decide +kernel)
set_option maxRecDepth 20000 in
theorem gX5_ear_X5_isEar : GoodIn wsX5_ear (va_wsS RX5 75 yX5_isEar wsX5_isEar) := goodIn_app (goodIn_of _ (by decide +kernel)) ggX5_ear_X5_isEar
set_option maxRecDepth 20000 in
theorem ggX5_ear_X0_forget : GoodIn wsX5_ear wsX0_forget := goodIn_r _ [17, 18, 34, 35, 36, 37, 38, 39, 40, 41, 42] (by decide +kernel) (by decide +kernel)
set_option maxRecDepth 20000 in
theorem gX5_ear_X0_forget : GoodIn wsX5_ear (wsV RX5 91 RX0 yX0_forget wsX0_forget) := goodIn_app (goodIn_of _ (by decide +kernel)) ggX5_ear_X0_forget
theorem dX5_ear_0 : decode cX5_ear 0 = .ok (.aload_n 0, 1) := by decide +kernel
theorem dX5_ear_1 : decode cX5_ear 1 = .ok (.iload_n 1, 1) := by decide +kernel
theorem dX5_ear_2 : decode cX5_ear 2 = .ok (.invokevirtual 85, 3) := by decide +kernel
theorem dX5_ear_5 : decode cX5_ear 5 = .ok (.ifCond .ne 5, 3) := by decide +kernel
theorem dX5_ear_8 : decode cX5_ear 8 = .ok (.iconst (-1), 1) := by decide +kernel
theorem dX5_ear_9 : decode cX5_ear 9 = .ok (.ireturn, 1) := by decide +kernel
theorem dX5_ear_10 : decode cX5_ear 10 = .ok (.iload_n 2, 1) := by decide +kernel
theorem dX5_ear_11 : decode cX5_ear 11 = .ok (.invokestatic 75, 3) := by decide +kernel
theorem dX5_ear_14 : decode cX5_ear 14 = .ok (.ifCond .ne 6, 3) := by decide +kernel
theorem dX5_ear_17 : decode cX5_ear 17 = .ok (.bipush (-2), 2) := by decide +kernel
theorem dX5_ear_19 : decode cX5_ear 19 = .ok (.ireturn, 1) := by decide +kernel
theorem dX5_ear_20 : decode cX5_ear 20 = .ok (.aload_n 0, 1) := by decide +kernel
theorem dX5_ear_21 : decode cX5_ear 21 = .ok (.getfield 10, 3) := by decide +kernel
theorem dX5_ear_24 : decode cX5_ear 24 = .ok (.getfield 88, 3) := by decide +kernel
theorem dX5_ear_27 : decode cX5_ear 27 = .ok (.iload_n 1, 1) := by decide +kernel
theorem dX5_ear_28 : decode cX5_ear 28 = .ok (.iaload, 1) := by decide +kernel
theorem dX5_ear_29 : decode cX5_ear 29 = .ok (.istore_n 3, 1) := by decide +kernel
theorem dX5_ear_30 : decode cX5_ear 30 = .ok (.aload_n 0, 1) := by decide +kernel
theorem dX5_ear_31 : decode cX5_ear 31 = .ok (.getfield 10, 3) := by decide +kernel
theorem dX5_ear_34 : decode cX5_ear 34 = .ok (.getfield 88, 3) := by decide +kernel
theorem dX5_ear_37 : decode cX5_ear 37 = .ok (.iload_n 1, 1) := by decide +kernel
theorem dX5_ear_38 : decode cX5_ear 38 = .ok (.iload_n 2, 1) := by decide +kernel
theorem dX5_ear_39 : decode cX5_ear 39 = .ok (.iastore, 1) := by decide +kernel
theorem dX5_ear_40 : decode cX5_ear 40 = .ok (.aload_n 0, 1) := by decide +kernel
theorem dX5_ear_41 : decode cX5_ear 41 = .ok (.getfield 33, 3) := by decide +kernel
theorem dX5_ear_44 : decode cX5_ear 44 = .ok (.invokevirtual 91, 3) := by decide +kernel
theorem dX5_ear_47 : decode cX5_ear 47 = .ok (.iload_n 3, 1) := by decide +kernel
theorem dX5_ear_48 : decode cX5_ear 48 = .ok (.ireturn, 1) := by decide +kernel
set_option maxRecDepth 20000 in
theorem ggX5_untie_X5_isTie : GoodIn wsX5_untie wsX5_isTie := goodIn_r _ [7, 1, 2, 72, 73, 74, 75, 76, 77, 78, 79, 80, 81, 82, 83, 84, 85, 86] (by decide +kernel) (by decide +kernel)
set_option maxRecDepth 20000 in
theorem gX5_untie_X5_isTie : GoodIn wsX5_untie (wsV RX5 85 RX5 yX5_isTie wsX5_isTie) := goodIn_app (goodIn_of _ (by decide +kernel)) ggX5_untie_X5_isTie
set_option maxRecDepth 20000 in
theorem ggX5_untie_X3_removeTie : GoodIn wsX5_untie wsX3_removeTie := goodIn_r _ [12, 13, 14, 15, 16, 17, 18, 78, 79, 80, 81, 82, 83, 84, 85, 86] (by decide +kernel) (by decide +kernel)
set_option maxRecDepth 20000 in
theorem gX5_untie_X3_removeTie : GoodIn wsX5_untie (wsV RX5 94 RX3 yX3_removeTie wsX3_removeTie) := goodIn_app (goodIn_of _ (by decide +kernel)) ggX5_untie_X3_removeTie
set_option maxRecDepth 20000 in
theorem ggX5_untie_X5_tiesChanged : GoodIn wsX5_untie wsX5_tiesChanged := goodIn_r _ [22, 23, 1, 24, 25, 26, 27, 28, 29, 30, 31, 32, 33, 34, 35, 36, 37, 38, 39, 40, 41, 42, 43, 44, 45, 46, 47, 48, 49, 50, 51, 52, 11, 53, 17, 15, 54, 55, 56, 57, 58, 59, 60, 61, 62, 63, 64, 65, 66, 67, 68, 69, 70, 71, 72, 73, 74, 75, 76, 77, 87, 88, 89, 90, 91, 78, 79, 80, 81, 82, 83, 84, 85, 86, 92, 93, 94, 95, 96, 97, 98, 99, 100] (by decide +kernel) (by decide +kernel)
set_option maxRecDepth 20000 in
theorem gX5_untie_X5_tiesChanged : GoodIn wsX5_untie (wsV RX5 59 RX5 yX5_tiesChanged wsX5_tiesChanged) := goodIn_app (goodIn_of _ (by decide +kernel)) ggX5_untie_X5_tiesChanged
theorem dX5_untie_0 : decode cX5_untie 0 = .ok (.aload_n 0, 1) := by decide +kernel
theorem dX5_untie_1 : decode cX5_untie 1 = .ok (.iload_n 1, 1) := by decide +kernel
theorem dX5_untie_2 : decode cX5_untie 2 = .ok (.invokevirtual 85, 3) := by decide +kernel
theorem dX5_untie_5 : decode cX5_untie 5 = .ok (.ifCond .ne 5, 3) := by decide +kernel
theorem dX5_untie_8 : decode cX5_untie 8 = .ok (.iconst (-1), 1) := by decide +kernel
theorem dX5_untie_9 : decode cX5_untie 9 = .ok (.ireturn, 1) := by decide +kernel
theorem dX5_untie_10 : decode cX5_untie 10 = .ok (.aload_n 0, 1) := by decide +kernel
theorem dX5_untie_11 : decode cX5_untie 11 = .ok (.getfield 10, 3) := by decide +kernel
theorem dX5_untie_14 : decode cX5_untie 14 = .ok (.iload_n 1, 1) := by decide +kernel
theorem dX5_untie_15 : decode cX5_untie 15 = .ok (.invokevirtual 94, 3) := by decide +kernel
theorem dX5_untie_18 : decode cX5_untie 18 = .ok (.aload_n 0, 1) := by decide +kernel
theorem dX5_untie_19 : decode cX5_untie 19 = .ok (.invokevirtual 59, 3) := by decide +kernel
theorem dX5_untie_22 : decode cX5_untie 22 = .ok (.aload_n 0, 1) := by decide +kernel
theorem dX5_untie_23 : decode cX5_untie 23 = .ok (.getfield 10, 3) := by decide +kernel
theorem dX5_untie_26 : decode cX5_untie 26 = .ok (.getfield 78, 3) := by decide +kernel
theorem dX5_untie_29 : decode cX5_untie 29 = .ok (.ireturn, 1) := by decide +kernel
set_option maxRecDepth 20000 in
theorem ggX5_clear_X5_tiesChanged : GoodIn wsX5_clear wsX5_tiesChanged := goodIn_r _ [8, 9, 1, 10, 11, 12, 13, 14, 15, 16, 17, 18, 19, 20, 21, 22, 23, 24, 25, 26, 27, 28, 29, 30, 31, 32, 33, 34, 35, 36, 37, 38, 39, 40, 41, 42, 43, 44, 45, 46, 47, 48, 49, 50, 51, 52, 53, 54, 55, 56, 57, 58, 59, 60, 61, 62, 63, 64, 65, 66, 76, 77, 78, 79, 80, 67, 68, 69, 70, 71, 72, 73, 74, 75, 81, 82, 83, 84, 85, 86, 87, 88, 89] (by decide +kernel) (by decide +kernel)
set_option maxRecDepth 20000 in
theorem gX5_clear_X5_tiesChanged : GoodIn wsX5_clear (wsV RX5 59 RX5 yX5_tiesChanged wsX5_tiesChanged) := goodIn_app (goodIn_of _ (by decide +kernel)) ggX5_clear_X5_tiesChanged
theorem dX5_clear_0 : decode cX5_clear 0 = .ok (.aload_n 0, 1) := by decide +kernel
theorem dX5_clear_1 : decode cX5_clear 1 = .ok (.getfield 10, 3) := by decide +kernel
theorem dX5_clear_4 : decode cX5_clear 4 = .ok (.getfield 78, 3) := by decide +kernel
theorem dX5_clear_7 : decode cX5_clear 7 = .ok (.istore_n 1, 1) := by decide +kernel
theorem dX5_clear_8 : decode cX5_clear 8 = .ok (.aload_n 0, 1) := by decide +kernel
theorem dX5_clear_9 : decode cX5_clear 9 = .ok (.getfield 10, 3) := by decide +kernel
theorem dX5_clear_12 : decode cX5_clear 12 = .ok (.iconst 0, 1) := by decide +kernel
theorem dX5_clear_13 : decode cX5_clear 13 = .ok (.putfield 52, 3) := by decide +kernel
theorem dX5_clear_16 : decode cX5_clear 16 = .ok (.aload_n 0, 1) := by decide +kernel
theorem dX5_clear_17 : decode cX5_clear 17 = .ok (.getfield 10, 3) := by decide +kernel
theorem dX5_clear_20 : decode cX5_clear 20 = .ok (.iconst 0, 1) := by decide +kernel
theorem dX5_clear_21 : decode cX5_clear 21 = .ok (.putfield 78, 3) := by decide +kernel
theorem dX5_clear_24 : decode cX5_clear 24 = .ok (.aload_n 0, 1) := by decide +kernel
theorem dX5_clear_25 : decode cX5_clear 25 = .ok (.invokevirtual 59, 3) := by decide +kernel
theorem dX5_clear_28 : decode cX5_clear 28 = .ok (.iload_n 1, 1) := by decide +kernel
theorem dX5_clear_29 : decode cX5_clear 29 = .ok (.ireturn, 1) := by decide +kernel
set_option maxRecDepth 20000 in
theorem ggX5_ticks_X5_isValue : GoodIn wsX5_ticks wsX5_isValue := goodIn_r _ [5] (by decide +kernel) (by decide +kernel)
set_option maxRecDepth 20000 in
theorem gX5_ticks_X5_isValue : GoodIn wsX5_ticks (va_wsS RX5 72 yX5_isValue wsX5_isValue) := goodIn_app (goodIn_of _ (by decide +kernel)) ggX5_ticks_X5_isValue
theorem dX5_ticks_0 : decode cX5_ticks 0 = .ok (.iload_n 1, 1) := by decide +kernel
theorem dX5_ticks_1 : decode cX5_ticks 1 = .ok (.invokestatic 72, 3) := by decide +kernel
theorem dX5_ticks_4 : decode cX5_ticks 4 = .ok (.ifCond .eq 11, 3) := by decide +kernel
theorem dX5_ticks_7 : decode cX5_ticks 7 = .ok (.getstatic 98, 3) := by decide +kernel
theorem dX5_ticks_10 : decode cX5_ticks 10 = .ok (.iload_n 1, 1) := by decide +kernel
theorem dX5_ticks_11 : decode cX5_ticks 11 = .ok (.iaload, 1) := by decide +kernel
theorem dX5_ticks_12 : decode cX5_ticks 12 = .ok (.goto 4, 3) := by decide +kernel
theorem dX5_ticks_15 : decode cX5_ticks 15 = .ok (.iconst (-1), 1) := by decide +kernel
theorem dX5_ticks_16 : decode cX5_ticks 16 = .ok (.ireturn, 1) := by decide +kernel
set_option maxRecDepth 20000 in
theorem ggX5_ofSection_X5_isSection : GoodIn wsX5_ofSection wsX5_isSection := goodIn_r _ [11, 1, 4, 42, 43, 44, 45, 46, 47, 48, 49, 50, 51, 52, 53, 54, 55, 56] (by decide +kernel) (by decide +kernel)
set_option maxRecDepth 20000 in
theorem gX5_ofSection_X5_isSection : GoodIn wsX5_ofSection (wsV RX5 62 RX5 yX5_isSection wsX5_isSection) := goodIn_app (goodIn_of _ (by decide +kernel)) ggX5_ofSection_X5_isSection
set_option maxRecDepth 20000 in
theorem ggX5_ofSection_X3_tiesAt : GoodIn wsX5_ofSection wsX3_tiesAt := goodIn_r _ [16, 17, 18, 19, 48, 49, 50, 51, 52, 53, 54, 55, 56] (by decide +kernel) (by decide +kernel)
set_option maxRecDepth 20000 in
theorem gX5_ofSection_X3_tiesAt : GoodIn wsX5_ofSection (wsV RX5 101 RX3 yX3_tiesAt wsX3_tiesAt) := goodIn_app (goodIn_of _ (by decide +kernel)) ggX5_ofSection_X3_tiesAt
set_option maxRecDepth 20000 in
theorem ggX5_ofSection_X1_sizeOfSet : GoodIn wsX5_ofSection wsX1_sizeOfSet := goodIn_r _ [24, 25, 57, 58, 59, 60, 61] (by decide +kernel) (by decide +kernel)
set_option maxRecDepth 20000 in
theorem gX5_ofSection_X1_sizeOfSet : GoodIn wsX5_ofSection (wsV RX5 104 RX1 yX1_sizeOfSet wsX1_sizeOfSet) := goodIn_app (goodIn_of _ (by decide +kernel)) ggX5_ofSection_X1_sizeOfSet
set_option maxRecDepth 20000 in
theorem ggX5_ofSection_X5_pinHolds : GoodIn wsX5_ofSection wsX5_pinHolds := goodIn_r _ [29, 1, 6, 30, 31, 32, 33, 34, 35, 36, 37, 38, 39, 40, 41, 42, 43, 44, 45, 46, 47, 48, 49, 50, 51, 52, 53, 54, 55, 56, 62, 63] (by decide +kernel) (by decide +kernel)
set_option maxRecDepth 20000 in
theorem gX5_ofSection_X5_pinHolds : GoodIn wsX5_ofSection (wsV RX5 114 RX5 yX5_pinHolds wsX5_pinHolds) := goodIn_app (goodIn_of _ (by decide +kernel)) ggX5_ofSection_X5_pinHolds
theorem dX5_ofSection_0 : decode cX5_ofSection 0 = .ok (.aload_n 0, 1) := by decide +kernel
theorem dX5_ofSection_1 : decode cX5_ofSection 1 = .ok (.iload_n 1, 1) := by decide +kernel
theorem dX5_ofSection_2 : decode cX5_ofSection 2 = .ok (.invokevirtual 62, 3) := by decide +kernel
theorem dX5_ofSection_5 : decode cX5_ofSection 5 = .ok (.ifCond .ne 5, 3) := by decide +kernel
theorem dX5_ofSection_8 : decode cX5_ofSection 8 = .ok (.iconst (-1), 1) := by decide +kernel
theorem dX5_ofSection_9 : decode cX5_ofSection 9 = .ok (.ireturn, 1) := by decide +kernel
theorem dX5_ofSection_10 : decode cX5_ofSection 10 = .ok (.iload_n 2, 1) := by decide +kernel
theorem dX5_ofSection_11 : decode cX5_ofSection 11 = .ok (.tableswitch 106 0 5 #[37, 47, 56, 72, 82, 92], 37) := by decide +kernel
theorem dX5_ofSection_48 : decode cX5_ofSection 48 = .ok (.aload_n 0, 1) := by decide +kernel
theorem dX5_ofSection_49 : decode cX5_ofSection 49 = .ok (.getfield 10, 3) := by decide +kernel
theorem dX5_ofSection_52 : decode cX5_ofSection 52 = .ok (.getfield 65, 3) := by decide +kernel
theorem dX5_ofSection_55 : decode cX5_ofSection 55 = .ok (.iload_n 1, 1) := by decide +kernel
theorem dX5_ofSection_56 : decode cX5_ofSection 56 = .ok (.iaload, 1) := by decide +kernel
theorem dX5_ofSection_57 : decode cX5_ofSection 57 = .ok (.ireturn, 1) := by decide +kernel
theorem dX5_ofSection_58 : decode cX5_ofSection 58 = .ok (.aload_n 0, 1) := by decide +kernel
theorem dX5_ofSection_59 : decode cX5_ofSection 59 = .ok (.getfield 10, 3) := by decide +kernel
theorem dX5_ofSection_62 : decode cX5_ofSection 62 = .ok (.iload_n 1, 1) := by decide +kernel
theorem dX5_ofSection_63 : decode cX5_ofSection 63 = .ok (.invokevirtual 101, 3) := by decide +kernel
theorem dX5_ofSection_66 : decode cX5_ofSection 66 = .ok (.ireturn, 1) := by decide +kernel
theorem dX5_ofSection_67 : decode cX5_ofSection 67 = .ok (.aload_n 0, 1) := by decide +kernel
theorem dX5_ofSection_68 : decode cX5_ofSection 68 = .ok (.getfield 19, 3) := by decide +kernel
theorem dX5_ofSection_71 : decode cX5_ofSection 71 = .ok (.iload_n 1, 1) := by decide +kernel
theorem dX5_ofSection_72 : decode cX5_ofSection 72 = .ok (.aload_n 0, 1) := by decide +kernel
theorem dX5_ofSection_73 : decode cX5_ofSection 73 = .ok (.getfield 10, 3) := by decide +kernel
theorem dX5_ofSection_76 : decode cX5_ofSection 76 = .ok (.getfield 52, 3) := by decide +kernel
theorem dX5_ofSection_79 : decode cX5_ofSection 79 = .ok (.invokevirtual 104, 3) := by decide +kernel
theorem dX5_ofSection_82 : decode cX5_ofSection 82 = .ok (.ireturn, 1) := by decide +kernel
theorem dX5_ofSection_83 : decode cX5_ofSection 83 = .ok (.aload_n 0, 1) := by decide +kernel
theorem dX5_ofSection_84 : decode cX5_ofSection 84 = .ok (.getfield 19, 3) := by decide +kernel
theorem dX5_ofSection_87 : decode cX5_ofSection 87 = .ok (.getfield 108, 3) := by decide +kernel
theorem dX5_ofSection_90 : decode cX5_ofSection 90 = .ok (.iload_n 1, 1) := by decide +kernel
theorem dX5_ofSection_91 : decode cX5_ofSection 91 = .ok (.iaload, 1) := by decide +kernel
theorem dX5_ofSection_92 : decode cX5_ofSection 92 = .ok (.ireturn, 1) := by decide +kernel
theorem dX5_ofSection_93 : decode cX5_ofSection 93 = .ok (.aload_n 0, 1) := by decide +kernel
theorem dX5_ofSection_94 : decode cX5_ofSection 94 = .ok (.getfield 10, 3) := by decide +kernel
theorem dX5_ofSection_97 : decode cX5_ofSection 97 = .ok (.getfield 111, 3) := by decide +kernel
theorem dX5_ofSection_100 : decode cX5_ofSection 100 = .ok (.iload_n 1, 1) := by decide +kernel
theorem dX5_ofSection_101 : decode cX5_ofSection 101 = .ok (.iaload, 1) := by decide +kernel
theorem dX5_ofSection_102 : decode cX5_ofSection 102 = .ok (.ireturn, 1) := by decide +kernel
theorem dX5_ofSection_103 : decode cX5_ofSection 103 = .ok (.aload_n 0, 1) := by decide +kernel
theorem dX5_ofSection_104 : decode cX5_ofSection 104 = .ok (.iload_n 1, 1) := by decide +kernel
theorem dX5_ofSection_105 : decode cX5_ofSection 105 = .ok (.invokevirtual 114, 3) := by decide +kernel
theorem dX5_ofSection_108 : decode cX5_ofSection 108 = .ok (.ifCond .eq 7, 3) := by decide +kernel
theorem dX5_ofSection_111 : decode cX5_ofSection 111 = .ok (.iconst 1, 1) := by decide +kernel
theorem dX5_ofSection_112 : decode cX5_ofSection 112 = .ok (.goto 4, 3) := by decide +kernel
theorem dX5_ofSection_115 : decode cX5_ofSection 115 = .ok (.iconst 0, 1) := by decide +kernel
theorem dX5_ofSection_116 : decode cX5_ofSection 116 = .ok (.ireturn, 1) := by decide +kernel
theorem dX5_ofSection_117 : decode cX5_ofSection 117 = .ok (.bipush (-2), 2) := by decide +kernel
theorem dX5_ofSection_119 : decode cX5_ofSection 119 = .ok (.ireturn, 1) := by decide +kernel
set_option maxRecDepth 20000 in
theorem ggX5_ofTie_X5_isTie : GoodIn wsX5_ofTie wsX5_isTie := goodIn_r _ [13, 1, 14, 15, 16, 17, 18, 19, 20, 21, 22, 23, 24, 25, 26, 27, 28, 29] (by decide +kernel) (by decide +kernel)
set_option maxRecDepth 20000 in
theorem gX5_ofTie_X5_isTie : GoodIn wsX5_ofTie (wsV RX5 85 RX5 yX5_isTie wsX5_isTie) := goodIn_app (goodIn_of _ (by decide +kernel)) ggX5_ofTie_X5_isTie
theorem dX5_ofTie_0 : decode cX5_ofTie 0 = .ok (.aload_n 0, 1) := by decide +kernel
theorem dX5_ofTie_1 : decode cX5_ofTie 1 = .ok (.iload_n 1, 1) := by decide +kernel
theorem dX5_ofTie_2 : decode cX5_ofTie 2 = .ok (.invokevirtual 85, 3) := by decide +kernel
theorem dX5_ofTie_5 : decode cX5_ofTie 5 = .ok (.ifCond .ne 5, 3) := by decide +kernel
theorem dX5_ofTie_8 : decode cX5_ofTie 8 = .ok (.iconst (-1), 1) := by decide +kernel
theorem dX5_ofTie_9 : decode cX5_ofTie 9 = .ok (.ireturn, 1) := by decide +kernel
theorem dX5_ofTie_10 : decode cX5_ofTie 10 = .ok (.iload_n 2, 1) := by decide +kernel
theorem dX5_ofTie_11 : decode cX5_ofTie 11 = .ok (.tableswitch 97 0 5 #[37, 47, 57, 67, 77, 87], 37) := by decide +kernel
theorem dX5_ofTie_48 : decode cX5_ofTie 48 = .ok (.aload_n 0, 1) := by decide +kernel
theorem dX5_ofTie_49 : decode cX5_ofTie 49 = .ok (.getfield 10, 3) := by decide +kernel
theorem dX5_ofTie_52 : decode cX5_ofTie 52 = .ok (.getfield 117, 3) := by decide +kernel
theorem dX5_ofTie_55 : decode cX5_ofTie 55 = .ok (.iload_n 1, 1) := by decide +kernel
theorem dX5_ofTie_56 : decode cX5_ofTie 56 = .ok (.iaload, 1) := by decide +kernel
theorem dX5_ofTie_57 : decode cX5_ofTie 57 = .ok (.ireturn, 1) := by decide +kernel
theorem dX5_ofTie_58 : decode cX5_ofTie 58 = .ok (.aload_n 0, 1) := by decide +kernel
theorem dX5_ofTie_59 : decode cX5_ofTie 59 = .ok (.getfield 10, 3) := by decide +kernel
theorem dX5_ofTie_62 : decode cX5_ofTie 62 = .ok (.getfield 120, 3) := by decide +kernel
theorem dX5_ofTie_65 : decode cX5_ofTie 65 = .ok (.iload_n 1, 1) := by decide +kernel
theorem dX5_ofTie_66 : decode cX5_ofTie 66 = .ok (.iaload, 1) := by decide +kernel
theorem dX5_ofTie_67 : decode cX5_ofTie 67 = .ok (.ireturn, 1) := by decide +kernel
theorem dX5_ofTie_68 : decode cX5_ofTie 68 = .ok (.aload_n 0, 1) := by decide +kernel
theorem dX5_ofTie_69 : decode cX5_ofTie 69 = .ok (.getfield 10, 3) := by decide +kernel
theorem dX5_ofTie_72 : decode cX5_ofTie 72 = .ok (.getfield 123, 3) := by decide +kernel
theorem dX5_ofTie_75 : decode cX5_ofTie 75 = .ok (.iload_n 1, 1) := by decide +kernel
theorem dX5_ofTie_76 : decode cX5_ofTie 76 = .ok (.iaload, 1) := by decide +kernel
theorem dX5_ofTie_77 : decode cX5_ofTie 77 = .ok (.ireturn, 1) := by decide +kernel
theorem dX5_ofTie_78 : decode cX5_ofTie 78 = .ok (.aload_n 0, 1) := by decide +kernel
theorem dX5_ofTie_79 : decode cX5_ofTie 79 = .ok (.getfield 10, 3) := by decide +kernel
theorem dX5_ofTie_82 : decode cX5_ofTie 82 = .ok (.getfield 126, 3) := by decide +kernel
theorem dX5_ofTie_85 : decode cX5_ofTie 85 = .ok (.iload_n 1, 1) := by decide +kernel
theorem dX5_ofTie_86 : decode cX5_ofTie 86 = .ok (.iaload, 1) := by decide +kernel
theorem dX5_ofTie_87 : decode cX5_ofTie 87 = .ok (.ireturn, 1) := by decide +kernel
theorem dX5_ofTie_88 : decode cX5_ofTie 88 = .ok (.aload_n 0, 1) := by decide +kernel
theorem dX5_ofTie_89 : decode cX5_ofTie 89 = .ok (.getfield 10, 3) := by decide +kernel
theorem dX5_ofTie_92 : decode cX5_ofTie 92 = .ok (.getfield 88, 3) := by decide +kernel
theorem dX5_ofTie_95 : decode cX5_ofTie 95 = .ok (.iload_n 1, 1) := by decide +kernel
theorem dX5_ofTie_96 : decode cX5_ofTie 96 = .ok (.iaload, 1) := by decide +kernel
theorem dX5_ofTie_97 : decode cX5_ofTie 97 = .ok (.ireturn, 1) := by decide +kernel
theorem dX5_ofTie_98 : decode cX5_ofTie 98 = .ok (.aload_n 0, 1) := by decide +kernel
theorem dX5_ofTie_99 : decode cX5_ofTie 99 = .ok (.getfield 19, 3) := by decide +kernel
theorem dX5_ofTie_102 : decode cX5_ofTie 102 = .ok (.getfield 129, 3) := by decide +kernel
theorem dX5_ofTie_105 : decode cX5_ofTie 105 = .ok (.iload_n 1, 1) := by decide +kernel
theorem dX5_ofTie_106 : decode cX5_ofTie 106 = .ok (.iaload, 1) := by decide +kernel
theorem dX5_ofTie_107 : decode cX5_ofTie 107 = .ok (.ireturn, 1) := by decide +kernel
theorem dX5_ofTie_108 : decode cX5_ofTie 108 = .ok (.bipush (-2), 2) := by decide +kernel
theorem dX5_ofTie_110 : decode cX5_ofTie 110 = .ok (.ireturn, 1) := by decide +kernel
set_option maxRecDepth 20000 in
theorem ggX5_tempo_X5_isSection : GoodIn wsX5_tempo wsX5_isSection := goodIn_r _ [9, 10, 11, 50, 51, 52, 53, 54, 55, 56, 57, 58, 59, 60, 61, 62, 63, 64] (by decide +kernel) (by decide +kernel)
set_option maxRecDepth 20000 in
theorem gX5_tempo_X5_isSection : GoodIn wsX5_tempo (wsV RX5 62 RX5 yX5_isSection wsX5_isSection) := goodIn_app (goodIn_of _ (by decide +kernel)) ggX5_tempo_X5_isSection
set_option maxRecDepth 20000 in
theorem ggX5_tempo_X5_isWhich : GoodIn wsX5_tempo wsX5_isWhich := goodIn_r _ [14] (by decide +kernel) (by decide +kernel)
set_option maxRecDepth 20000 in
theorem gX5_tempo_X5_isWhich : GoodIn wsX5_tempo (va_wsS RX5 134 yX5_isWhich wsX5_isWhich) := goodIn_app (goodIn_of _ (by decide +kernel)) ggX5_tempo_X5_isWhich
set_option maxRecDepth 20000 in
theorem ggX5_tempo_X1_isPlayed : GoodIn wsX5_tempo wsX1_isPlayed := goodIn_r _ [19, 20, 65, 66, 67, 68, 69] (by decide +kernel) (by decide +kernel)
set_option maxRecDepth 20000 in
theorem gX5_tempo_X1_isPlayed : GoodIn wsX5_tempo (wsV RX5 139 RX1 yX1_isPlayed wsX1_isPlayed) := goodIn_app (goodIn_of _ (by decide +kernel)) ggX5_tempo_X1_isPlayed
set_option maxRecDepth 20000 in
theorem ggX5_tempo_X5_tempoPart : GoodIn wsX5_tempo wsX5_tempoPart := goodIn_r _ [24, 3, 25, 26, 27, 28, 18, 29, 30, 31, 32, 8, 33, 34, 35, 36, 37, 38, 39, 40, 41, 42, 43, 44, 45, 46, 47, 48, 49, 50, 51, 52, 53, 54, 55, 65, 66, 67, 68, 69] (by decide +kernel) (by decide +kernel)
set_option maxRecDepth 20000 in
theorem gX5_tempo_X5_tempoPart : GoodIn wsX5_tempo (wsV RX5 142 RX5 yX5_tempoPart wsX5_tempoPart) := goodIn_app (goodIn_of _ (by decide +kernel)) ggX5_tempo_X5_tempoPart
theorem dX5_tempo_0 : decode cX5_tempo 0 = .ok (.aload_n 0, 1) := by decide +kernel
theorem dX5_tempo_1 : decode cX5_tempo 1 = .ok (.iload_n 1, 1) := by decide +kernel
theorem dX5_tempo_2 : decode cX5_tempo 2 = .ok (.invokevirtual 62, 3) := by decide +kernel
theorem dX5_tempo_5 : decode cX5_tempo 5 = .ok (.ifCond .ne 7, 3) := by decide +kernel
theorem dX5_tempo_8 : decode cX5_tempo 8 = .ok (.ldc2_w 132, 3) := by decide +kernel
theorem dX5_tempo_11 : decode cX5_tempo 11 = .ok (.lreturn, 1) := by decide +kernel
theorem dX5_tempo_12 : decode cX5_tempo 12 = .ok (.iload_n 2, 1) := by decide +kernel
theorem dX5_tempo_13 : decode cX5_tempo 13 = .ok (.invokestatic 134, 3) := by decide +kernel
theorem dX5_tempo_16 : decode cX5_tempo 16 = .ok (.ifCond .ne 7, 3) := by decide +kernel
theorem dX5_tempo_19 : decode cX5_tempo 19 = .ok (.ldc2_w 137, 3) := by decide +kernel
theorem dX5_tempo_22 : decode cX5_tempo 22 = .ok (.lreturn, 1) := by decide +kernel
theorem dX5_tempo_23 : decode cX5_tempo 23 = .ok (.aload_n 0, 1) := by decide +kernel
theorem dX5_tempo_24 : decode cX5_tempo 24 = .ok (.getfield 19, 3) := by decide +kernel
theorem dX5_tempo_27 : decode cX5_tempo 27 = .ok (.iload_n 1, 1) := by decide +kernel
theorem dX5_tempo_28 : decode cX5_tempo 28 = .ok (.invokevirtual 139, 3) := by decide +kernel
theorem dX5_tempo_31 : decode cX5_tempo 31 = .ok (.ifCond .eq 12, 3) := by decide +kernel
theorem dX5_tempo_34 : decode cX5_tempo 34 = .ok (.aload_n 0, 1) := by decide +kernel
theorem dX5_tempo_35 : decode cX5_tempo 35 = .ok (.iload_n 1, 1) := by decide +kernel
theorem dX5_tempo_36 : decode cX5_tempo 36 = .ok (.iload_n 2, 1) := by decide +kernel
theorem dX5_tempo_37 : decode cX5_tempo 37 = .ok (.invokevirtual 142, 3) := by decide +kernel
theorem dX5_tempo_40 : decode cX5_tempo 40 = .ok (.goto 6, 3) := by decide +kernel
theorem dX5_tempo_43 : decode cX5_tempo 43 = .ok (.ldc2_w 146, 3) := by decide +kernel
theorem dX5_tempo_46 : decode cX5_tempo 46 = .ok (.lreturn, 1) := by decide +kernel
set_option maxRecDepth 20000 in
theorem ggX5_ratio_X5_isSection : GoodIn wsX5_ratio wsX5_isSection := goodIn_r _ [10, 11, 12, 35, 36, 37, 38, 39, 40, 46, 47, 48, 49, 50, 51, 52, 53, 54] (by decide +kernel) (by decide +kernel)
set_option maxRecDepth 20000 in
theorem gX5_ratio_X5_isSection : GoodIn wsX5_ratio (wsV RX5 62 RX5 yX5_isSection wsX5_isSection) := goodIn_app (goodIn_of _ (by decide +kernel)) ggX5_ratio_X5_isSection
set_option maxRecDepth 20000 in
theorem ggX5_ratio_X5_isWhich : GoodIn wsX5_ratio wsX5_isWhich := goodIn_r _ [15] (by decide +kernel) (by decide +kernel)
set_option maxRecDepth 20000 in
theorem gX5_ratio_X5_isWhich : GoodIn wsX5_ratio (va_wsS RX5 134 yX5_isWhich wsX5_isWhich) := goodIn_app (goodIn_of _ (by decide +kernel)) ggX5_ratio_X5_isWhich
set_option maxRecDepth 20000 in
theorem ggX5_ratio_X1_twosBetween : GoodIn wsX5_ratio wsX1_twosBetween := goodIn_r _ [20, 21, 41, 42, 43, 44, 45] (by decide +kernel) (by decide +kernel)
set_option maxRecDepth 20000 in
theorem gX5_ratio_X1_twosBetween : GoodIn wsX5_ratio (wsV RX5 148 RX1 yX1_twosBetween wsX1_twosBetween) := goodIn_app (goodIn_of _ (by decide +kernel)) ggX5_ratio_X1_twosBetween
set_option maxRecDepth 20000 in
theorem ggX5_ratio_X1_threesBetween : GoodIn wsX5_ratio wsX1_threesBetween := goodIn_r _ [25, 26, 41, 42, 43, 44, 45] (by decide +kernel) (by decide +kernel)
set_option maxRecDepth 20000 in
theorem gX5_ratio_X1_threesBetween : GoodIn wsX5_ratio (wsV RX5 151 RX1 yX1_threesBetween wsX1_threesBetween) := goodIn_app (goodIn_of _ (by decide +kernel)) ggX5_ratio_X1_threesBetween
set_option maxRecDepth 20000 in
theorem ggX5_ratio_X5_part : GoodIn wsX5_ratio wsX5_part := goodIn_r _ [29, 30, 31, 32, 33, 9, 34] (by decide +kernel) (by decide +kernel)
set_option maxRecDepth 20000 in
theorem gX5_ratio_X5_part : GoodIn wsX5_ratio (va_wsS RX5 154 yX5_part wsX5_part) := goodIn_app (goodIn_of _ (by decide +kernel)) ggX5_ratio_X5_part
theorem dX5_ratio_0 : decode cX5_ratio 0 = .ok (.aload_n 0, 1) := by decide +kernel
theorem dX5_ratio_1 : decode cX5_ratio 1 = .ok (.iload_n 1, 1) := by decide +kernel
theorem dX5_ratio_2 : decode cX5_ratio 2 = .ok (.invokevirtual 62, 3) := by decide +kernel
theorem dX5_ratio_5 : decode cX5_ratio 5 = .ok (.ifCond .eq 11, 3) := by decide +kernel
theorem dX5_ratio_8 : decode cX5_ratio 8 = .ok (.aload_n 0, 1) := by decide +kernel
theorem dX5_ratio_9 : decode cX5_ratio 9 = .ok (.iload_n 2, 1) := by decide +kernel
theorem dX5_ratio_10 : decode cX5_ratio 10 = .ok (.invokevirtual 62, 3) := by decide +kernel
theorem dX5_ratio_13 : decode cX5_ratio 13 = .ok (.ifCond .ne 7, 3) := by decide +kernel
theorem dX5_ratio_16 : decode cX5_ratio 16 = .ok (.ldc2_w 132, 3) := by decide +kernel
theorem dX5_ratio_19 : decode cX5_ratio 19 = .ok (.lreturn, 1) := by decide +kernel
theorem dX5_ratio_20 : decode cX5_ratio 20 = .ok (.iload_n 3, 1) := by decide +kernel
theorem dX5_ratio_21 : decode cX5_ratio 21 = .ok (.invokestatic 134, 3) := by decide +kernel
theorem dX5_ratio_24 : decode cX5_ratio 24 = .ok (.ifCond .ne 7, 3) := by decide +kernel
theorem dX5_ratio_27 : decode cX5_ratio 27 = .ok (.ldc2_w 137, 3) := by decide +kernel
theorem dX5_ratio_30 : decode cX5_ratio 30 = .ok (.lreturn, 1) := by decide +kernel
theorem dX5_ratio_31 : decode cX5_ratio 31 = .ok (.aload_n 0, 1) := by decide +kernel
theorem dX5_ratio_32 : decode cX5_ratio 32 = .ok (.getfield 19, 3) := by decide +kernel
theorem dX5_ratio_35 : decode cX5_ratio 35 = .ok (.getfield 108, 3) := by decide +kernel
theorem dX5_ratio_38 : decode cX5_ratio 38 = .ok (.iload_n 1, 1) := by decide +kernel
theorem dX5_ratio_39 : decode cX5_ratio 39 = .ok (.iaload, 1) := by decide +kernel
theorem dX5_ratio_40 : decode cX5_ratio 40 = .ok (.aload_n 0, 1) := by decide +kernel
theorem dX5_ratio_41 : decode cX5_ratio 41 = .ok (.getfield 19, 3) := by decide +kernel
theorem dX5_ratio_44 : decode cX5_ratio 44 = .ok (.getfield 108, 3) := by decide +kernel
theorem dX5_ratio_47 : decode cX5_ratio 47 = .ok (.iload_n 2, 1) := by decide +kernel
theorem dX5_ratio_48 : decode cX5_ratio 48 = .ok (.iaload, 1) := by decide +kernel
theorem dX5_ratio_49 : decode cX5_ratio 49 = .ok (.if_icmp .eq 7, 3) := by decide +kernel
theorem dX5_ratio_52 : decode cX5_ratio 52 = .ok (.ldc2_w 146, 3) := by decide +kernel
theorem dX5_ratio_55 : decode cX5_ratio 55 = .ok (.lreturn, 1) := by decide +kernel
theorem dX5_ratio_56 : decode cX5_ratio 56 = .ok (.lconst 1, 1) := by decide +kernel
theorem dX5_ratio_57 : decode cX5_ratio 57 = .ok (.aload_n 0, 1) := by decide +kernel
theorem dX5_ratio_58 : decode cX5_ratio 58 = .ok (.getfield 19, 3) := by decide +kernel
theorem dX5_ratio_61 : decode cX5_ratio 61 = .ok (.iload_n 1, 1) := by decide +kernel
theorem dX5_ratio_62 : decode cX5_ratio 62 = .ok (.iload_n 2, 1) := by decide +kernel
theorem dX5_ratio_63 : decode cX5_ratio 63 = .ok (.invokevirtual 148, 3) := by decide +kernel
theorem dX5_ratio_66 : decode cX5_ratio 66 = .ok (.aload_n 0, 1) := by decide +kernel
theorem dX5_ratio_67 : decode cX5_ratio 67 = .ok (.getfield 19, 3) := by decide +kernel
theorem dX5_ratio_70 : decode cX5_ratio 70 = .ok (.iload_n 1, 1) := by decide +kernel
theorem dX5_ratio_71 : decode cX5_ratio 71 = .ok (.iload_n 2, 1) := by decide +kernel
theorem dX5_ratio_72 : decode cX5_ratio 72 = .ok (.invokevirtual 151, 3) := by decide +kernel
theorem dX5_ratio_75 : decode cX5_ratio 75 = .ok (.iload_n 3, 1) := by decide +kernel
theorem dX5_ratio_76 : decode cX5_ratio 76 = .ok (.invokestatic 154, 3) := by decide +kernel
theorem dX5_ratio_79 : decode cX5_ratio 79 = .ok (.lreturn, 1) := by decide +kernel
set_option maxRecDepth 20000 in
theorem ggX5_off_X5_isTie : GoodIn wsX5_off wsX5_isTie := goodIn_r _ [13, 6, 14, 48, 49, 50, 51, 52, 53, 59, 60, 61, 62, 63, 64, 65, 66, 67] (by decide +kernel) (by decide +kernel)
set_option maxRecDepth 20000 in
theorem gX5_off_X5_isTie : GoodIn wsX5_off (wsV RX5 85 RX5 yX5_isTie wsX5_isTie) := goodIn_app (goodIn_of _ (by decide +kernel)) ggX5_off_X5_isTie
set_option maxRecDepth 20000 in
theorem ggX5_off_X5_isWhich : GoodIn wsX5_off wsX5_isWhich := goodIn_r _ [17] (by decide +kernel) (by decide +kernel)
set_option maxRecDepth 20000 in
theorem gX5_off_X5_isWhich : GoodIn wsX5_off (va_wsS RX5 134 yX5_isWhich wsX5_isWhich) := goodIn_app (goodIn_of _ (by decide +kernel)) ggX5_off_X5_isWhich
set_option maxRecDepth 20000 in
theorem ggX5_off_X1_twosBetween : GoodIn wsX5_off wsX1_twosBetween := goodIn_r _ [22, 23, 54, 55, 56, 57, 58] (by decide +kernel) (by decide +kernel)
set_option maxRecDepth 20000 in
theorem gX5_off_X1_twosBetween : GoodIn wsX5_off (wsV RX5 148 RX1 yX1_twosBetween wsX1_twosBetween) := goodIn_app (goodIn_of _ (by decide +kernel)) ggX5_off_X1_twosBetween
set_option maxRecDepth 20000 in
theorem ggX5_off_X3_twosOfTie : GoodIn wsX5_off wsX3_twosOfTie := goodIn_r _ [28, 29, 30, 59, 60, 61, 62, 63, 64, 65, 66, 67] (by decide +kernel) (by decide +kernel)
set_option maxRecDepth 20000 in
theorem gX5_off_X3_twosOfTie : GoodIn wsX5_off (wsV RX5 158 RX3 yX3_twosOfTie wsX3_twosOfTie) := goodIn_app (goodIn_of _ (by decide +kernel)) ggX5_off_X3_twosOfTie
set_option maxRecDepth 20000 in
theorem ggX5_off_X1_threesBetween : GoodIn wsX5_off wsX1_threesBetween := goodIn_r _ [34, 35, 54, 55, 56, 57, 58] (by decide +kernel) (by decide +kernel)
set_option maxRecDepth 20000 in
theorem gX5_off_X1_threesBetween : GoodIn wsX5_off (wsV RX5 151 RX1 yX1_threesBetween wsX1_threesBetween) := goodIn_app (goodIn_of _ (by decide +kernel)) ggX5_off_X1_threesBetween
set_option maxRecDepth 20000 in
theorem ggX5_off_X3_threesOfTie : GoodIn wsX5_off wsX3_threesOfTie := goodIn_r _ [39, 29, 30, 59, 60, 61, 62, 63, 64, 65, 66, 67] (by decide +kernel) (by decide +kernel)
set_option maxRecDepth 20000 in
theorem gX5_off_X3_threesOfTie : GoodIn wsX5_off (wsV RX5 161 RX3 yX3_threesOfTie wsX3_threesOfTie) := goodIn_app (goodIn_of _ (by decide +kernel)) ggX5_off_X3_threesOfTie
set_option maxRecDepth 20000 in
theorem ggX5_off_X5_part : GoodIn wsX5_off wsX5_part := goodIn_r _ [42, 43, 44, 45, 46, 12, 47] (by decide +kernel) (by decide +kernel)
set_option maxRecDepth 20000 in
theorem gX5_off_X5_part : GoodIn wsX5_off (va_wsS RX5 154 yX5_part wsX5_part) := goodIn_app (goodIn_of _ (by decide +kernel)) ggX5_off_X5_part
theorem dX5_off_0 : decode cX5_off 0 = .ok (.aload_n 0, 1) := by decide +kernel
theorem dX5_off_1 : decode cX5_off 1 = .ok (.iload_n 1, 1) := by decide +kernel
theorem dX5_off_2 : decode cX5_off 2 = .ok (.invokevirtual 85, 3) := by decide +kernel
theorem dX5_off_5 : decode cX5_off 5 = .ok (.ifCond .ne 7, 3) := by decide +kernel
theorem dX5_off_8 : decode cX5_off 8 = .ok (.ldc2_w 132, 3) := by decide +kernel
theorem dX5_off_11 : decode cX5_off 11 = .ok (.lreturn, 1) := by decide +kernel
theorem dX5_off_12 : decode cX5_off 12 = .ok (.iload_n 2, 1) := by decide +kernel
theorem dX5_off_13 : decode cX5_off 13 = .ok (.invokestatic 134, 3) := by decide +kernel
theorem dX5_off_16 : decode cX5_off 16 = .ok (.ifCond .ne 7, 3) := by decide +kernel
theorem dX5_off_19 : decode cX5_off 19 = .ok (.ldc2_w 137, 3) := by decide +kernel
theorem dX5_off_22 : decode cX5_off 22 = .ok (.lreturn, 1) := by decide +kernel
theorem dX5_off_23 : decode cX5_off 23 = .ok (.aload_n 0, 1) := by decide +kernel
theorem dX5_off_24 : decode cX5_off 24 = .ok (.getfield 19, 3) := by decide +kernel
theorem dX5_off_27 : decode cX5_off 27 = .ok (.getfield 129, 3) := by decide +kernel
theorem dX5_off_30 : decode cX5_off 30 = .ok (.iload_n 1, 1) := by decide +kernel
theorem dX5_off_31 : decode cX5_off 31 = .ok (.iaload, 1) := by decide +kernel
theorem dX5_off_32 : decode cX5_off 32 = .ok (.ifCond .ne 7, 3) := by decide +kernel
theorem dX5_off_35 : decode cX5_off 35 = .ok (.ldc2_w 146, 3) := by decide +kernel
theorem dX5_off_38 : decode cX5_off 38 = .ok (.lreturn, 1) := by decide +kernel
theorem dX5_off_39 : decode cX5_off 39 = .ok (.aload_n 0, 1) := by decide +kernel
theorem dX5_off_40 : decode cX5_off 40 = .ok (.getfield 19, 3) := by decide +kernel
theorem dX5_off_43 : decode cX5_off 43 = .ok (.aload_n 0, 1) := by decide +kernel
theorem dX5_off_44 : decode cX5_off 44 = .ok (.getfield 10, 3) := by decide +kernel
theorem dX5_off_47 : decode cX5_off 47 = .ok (.getfield 117, 3) := by decide +kernel
theorem dX5_off_50 : decode cX5_off 50 = .ok (.iload_n 1, 1) := by decide +kernel
theorem dX5_off_51 : decode cX5_off 51 = .ok (.iaload, 1) := by decide +kernel
theorem dX5_off_52 : decode cX5_off 52 = .ok (.aload_n 0, 1) := by decide +kernel
theorem dX5_off_53 : decode cX5_off 53 = .ok (.getfield 10, 3) := by decide +kernel
theorem dX5_off_56 : decode cX5_off 56 = .ok (.getfield 123, 3) := by decide +kernel
theorem dX5_off_59 : decode cX5_off 59 = .ok (.iload_n 1, 1) := by decide +kernel
theorem dX5_off_60 : decode cX5_off 60 = .ok (.iaload, 1) := by decide +kernel
theorem dX5_off_61 : decode cX5_off 61 = .ok (.invokevirtual 148, 3) := by decide +kernel
theorem dX5_off_64 : decode cX5_off 64 = .ok (.aload_n 0, 1) := by decide +kernel
theorem dX5_off_65 : decode cX5_off 65 = .ok (.getfield 10, 3) := by decide +kernel
theorem dX5_off_68 : decode cX5_off 68 = .ok (.iload_n 1, 1) := by decide +kernel
theorem dX5_off_69 : decode cX5_off 69 = .ok (.invokevirtual 158, 3) := by decide +kernel
theorem dX5_off_72 : decode cX5_off 72 = .ok (.isub, 1) := by decide +kernel
theorem dX5_off_73 : decode cX5_off 73 = .ok (.istore_n 3, 1) := by decide +kernel
theorem dX5_off_74 : decode cX5_off 74 = .ok (.aload_n 0, 1) := by decide +kernel
theorem dX5_off_75 : decode cX5_off 75 = .ok (.getfield 19, 3) := by decide +kernel
theorem dX5_off_78 : decode cX5_off 78 = .ok (.aload_n 0, 1) := by decide +kernel
theorem dX5_off_79 : decode cX5_off 79 = .ok (.getfield 10, 3) := by decide +kernel
theorem dX5_off_82 : decode cX5_off 82 = .ok (.getfield 117, 3) := by decide +kernel
theorem dX5_off_85 : decode cX5_off 85 = .ok (.iload_n 1, 1) := by decide +kernel
theorem dX5_off_86 : decode cX5_off 86 = .ok (.iaload, 1) := by decide +kernel
theorem dX5_off_87 : decode cX5_off 87 = .ok (.aload_n 0, 1) := by decide +kernel
theorem dX5_off_88 : decode cX5_off 88 = .ok (.getfield 10, 3) := by decide +kernel
theorem dX5_off_91 : decode cX5_off 91 = .ok (.getfield 123, 3) := by decide +kernel
theorem dX5_off_94 : decode cX5_off 94 = .ok (.iload_n 1, 1) := by decide +kernel
theorem dX5_off_95 : decode cX5_off 95 = .ok (.iaload, 1) := by decide +kernel
theorem dX5_off_96 : decode cX5_off 96 = .ok (.invokevirtual 151, 3) := by decide +kernel
theorem dX5_off_99 : decode cX5_off 99 = .ok (.aload_n 0, 1) := by decide +kernel
theorem dX5_off_100 : decode cX5_off 100 = .ok (.getfield 10, 3) := by decide +kernel
theorem dX5_off_103 : decode cX5_off 103 = .ok (.iload_n 1, 1) := by decide +kernel
theorem dX5_off_104 : decode cX5_off 104 = .ok (.invokevirtual 161, 3) := by decide +kernel
theorem dX5_off_107 : decode cX5_off 107 = .ok (.isub, 1) := by decide +kernel
theorem dX5_off_108 : decode cX5_off 108 = .ok (.istore 4, 2) := by decide +kernel
theorem dX5_off_110 : decode cX5_off 110 = .ok (.lconst 1, 1) := by decide +kernel
theorem dX5_off_111 : decode cX5_off 111 = .ok (.iload_n 3, 1) := by decide +kernel
theorem dX5_off_112 : decode cX5_off 112 = .ok (.iload 4, 2) := by decide +kernel
theorem dX5_off_114 : decode cX5_off 114 = .ok (.iload_n 2, 1) := by decide +kernel
theorem dX5_off_115 : decode cX5_off 115 = .ok (.invokestatic 154, 3) := by decide +kernel
theorem dX5_off_118 : decode cX5_off 118 = .ok (.lreturn, 1) := by decide +kernel
set_option maxRecDepth 20000 in
theorem ggX5_ring_X5_isTie : GoodIn wsX5_ring wsX5_isTie := goodIn_r _ [10, 3, 11, 18, 19, 20, 21, 22, 23, 29, 30, 31, 32, 33, 34, 35, 36, 37] (by decide +kernel) (by decide +kernel)
set_option maxRecDepth 20000 in
theorem gX5_ring_X5_isTie : GoodIn wsX5_ring (wsV RX5 85 RX5 yX5_isTie wsX5_isTie) := goodIn_app (goodIn_of _ (by decide +kernel)) ggX5_ring_X5_isTie
set_option maxRecDepth 20000 in
theorem ggX5_ring_X1_routeBetween : GoodIn wsX5_ring wsX1_routeBetween := goodIn_r _ [16, 17, 24, 25, 26, 27, 28] (by decide +kernel) (by decide +kernel)
set_option maxRecDepth 20000 in
theorem gX5_ring_X1_routeBetween : GoodIn wsX5_ring (wsV RX5 164 RX1 yX1_routeBetween wsX1_routeBetween) := goodIn_app (goodIn_of _ (by decide +kernel)) ggX5_ring_X1_routeBetween
theorem dX5_ring_0 : decode cX5_ring 0 = .ok (.aload_n 0, 1) := by decide +kernel
theorem dX5_ring_1 : decode cX5_ring 1 = .ok (.iload_n 1, 1) := by decide +kernel
theorem dX5_ring_2 : decode cX5_ring 2 = .ok (.invokevirtual 85, 3) := by decide +kernel
theorem dX5_ring_5 : decode cX5_ring 5 = .ok (.ifCond .ne 5, 3) := by decide +kernel
theorem dX5_ring_8 : decode cX5_ring 8 = .ok (.iconst (-1), 1) := by decide +kernel
theorem dX5_ring_9 : decode cX5_ring 9 = .ok (.ireturn, 1) := by decide +kernel
theorem dX5_ring_10 : decode cX5_ring 10 = .ok (.aload_n 0, 1) := by decide +kernel
theorem dX5_ring_11 : decode cX5_ring 11 = .ok (.getfield 19, 3) := by decide +kernel
theorem dX5_ring_14 : decode cX5_ring 14 = .ok (.getfield 129, 3) := by decide +kernel
theorem dX5_ring_17 : decode cX5_ring 17 = .ok (.iload_n 1, 1) := by decide +kernel
theorem dX5_ring_18 : decode cX5_ring 18 = .ok (.iaload, 1) := by decide +kernel
theorem dX5_ring_19 : decode cX5_ring 19 = .ok (.ifCond .ne 6, 3) := by decide +kernel
theorem dX5_ring_22 : decode cX5_ring 22 = .ok (.bipush (-9), 2) := by decide +kernel
theorem dX5_ring_24 : decode cX5_ring 24 = .ok (.ireturn, 1) := by decide +kernel
theorem dX5_ring_25 : decode cX5_ring 25 = .ok (.aload_n 0, 1) := by decide +kernel
theorem dX5_ring_26 : decode cX5_ring 26 = .ok (.getfield 19, 3) := by decide +kernel
theorem dX5_ring_29 : decode cX5_ring 29 = .ok (.aload_n 0, 1) := by decide +kernel
theorem dX5_ring_30 : decode cX5_ring 30 = .ok (.getfield 10, 3) := by decide +kernel
theorem dX5_ring_33 : decode cX5_ring 33 = .ok (.getfield 117, 3) := by decide +kernel
theorem dX5_ring_36 : decode cX5_ring 36 = .ok (.iload_n 1, 1) := by decide +kernel
theorem dX5_ring_37 : decode cX5_ring 37 = .ok (.iaload, 1) := by decide +kernel
theorem dX5_ring_38 : decode cX5_ring 38 = .ok (.aload_n 0, 1) := by decide +kernel
theorem dX5_ring_39 : decode cX5_ring 39 = .ok (.getfield 10, 3) := by decide +kernel
theorem dX5_ring_42 : decode cX5_ring 42 = .ok (.getfield 123, 3) := by decide +kernel
theorem dX5_ring_45 : decode cX5_ring 45 = .ok (.iload_n 1, 1) := by decide +kernel
theorem dX5_ring_46 : decode cX5_ring 46 = .ok (.iaload, 1) := by decide +kernel
theorem dX5_ring_47 : decode cX5_ring 47 = .ok (.invokevirtual 164, 3) := by decide +kernel
theorem dX5_ring_50 : decode cX5_ring 50 = .ok (.iconst 1, 1) := by decide +kernel
theorem dX5_ring_51 : decode cX5_ring 51 = .ok (.iload_n 1, 1) := by decide +kernel
theorem dX5_ring_52 : decode cX5_ring 52 = .ok (.ishl, 1) := by decide +kernel
theorem dX5_ring_53 : decode cX5_ring 53 = .ok (.ior, 1) := by decide +kernel
theorem dX5_ring_54 : decode cX5_ring 54 = .ok (.ireturn, 1) := by decide +kernel
set_option maxRecDepth 20000 in
theorem ggX5_mark_X5_isWholeTempo : GoodIn wsX5_mark wsX5_isWholeTempo := goodIn_r _ [7] (by decide +kernel) (by decide +kernel)
set_option maxRecDepth 20000 in
theorem gX5_mark_X5_isWholeTempo : GoodIn wsX5_mark (va_wsS RX5 69 yX5_isWholeTempo wsX5_isWholeTempo) := goodIn_app (goodIn_of _ (by decide +kernel)) ggX5_mark_X5_isWholeTempo
set_option maxRecDepth 20000 in
theorem ggX5_mark_X2_has : GoodIn wsX5_mark wsX2_has := goodIn_r _ [12, 13, 14, 15, 11, 16, 17, 18, 39, 40] (by decide +kernel) (by decide +kernel)
set_option maxRecDepth 20000 in
theorem gX5_mark_X2_has : GoodIn wsX5_mark (wsV RX5 167 RX2 yX2_has wsX2_has) := goodIn_app (goodIn_of _ (by decide +kernel)) ggX5_mark_X2_has
set_option maxRecDepth 20000 in
theorem ggX5_mark_X2_put : GoodIn wsX5_mark wsX2_put := goodIn_r _ [22, 17, 18, 39, 40] (by decide +kernel) (by decide +kernel)
set_option maxRecDepth 20000 in
theorem gX5_mark_X2_put : GoodIn wsX5_mark (wsV RX5 173 RX2 yX2_put wsX2_put) := goodIn_app (goodIn_of _ (by decide +kernel)) ggX5_mark_X2_put
set_option maxRecDepth 20000 in
theorem ggX5_mark_X2_take : GoodIn wsX5_mark wsX2_take := goodIn_r _ [26, 17, 18, 13, 14, 15, 11, 16, 39, 40] (by decide +kernel) (by decide +kernel)
set_option maxRecDepth 20000 in
theorem gX5_mark_X2_take : GoodIn wsX5_mark (wsV RX5 176 RX2 yX2_take wsX2_take) := goodIn_app (goodIn_of _ (by decide +kernel)) ggX5_mark_X2_take
set_option maxRecDepth 20000 in
theorem ggX5_mark_X0_forget : GoodIn wsX5_mark wsX0_forget := goodIn_r _ [31, 32, 41, 42, 43, 44, 45, 46, 47, 48, 49] (by decide +kernel) (by decide +kernel)
set_option maxRecDepth 20000 in
theorem gX5_mark_X0_forget : GoodIn wsX5_mark (wsV RX5 91 RX0 yX0_forget wsX0_forget) := goodIn_app (goodIn_of _ (by decide +kernel)) ggX5_mark_X0_forget
theorem dX5_mark_0 : decode cX5_mark 0 = .ok (.iload_n 1, 1) := by decide +kernel
theorem dX5_mark_1 : decode cX5_mark 1 = .ok (.invokestatic 69, 3) := by decide +kernel
theorem dX5_mark_4 : decode cX5_mark 4 = .ok (.ifCond .ne 6, 3) := by decide +kernel
theorem dX5_mark_7 : decode cX5_mark 7 = .ok (.bipush (-2), 2) := by decide +kernel
theorem dX5_mark_9 : decode cX5_mark 9 = .ok (.ireturn, 1) := by decide +kernel
theorem dX5_mark_10 : decode cX5_mark 10 = .ok (.aload_n 0, 1) := by decide +kernel
theorem dX5_mark_11 : decode cX5_mark 11 = .ok (.getfield 26, 3) := by decide +kernel
theorem dX5_mark_14 : decode cX5_mark 14 = .ok (.iload_n 1, 1) := by decide +kernel
theorem dX5_mark_15 : decode cX5_mark 15 = .ok (.invokevirtual 167, 3) := by decide +kernel
theorem dX5_mark_18 : decode cX5_mark 18 = .ok (.iload_n 2, 1) := by decide +kernel
theorem dX5_mark_19 : decode cX5_mark 19 = .ok (.if_icmp .ne 5, 3) := by decide +kernel
theorem dX5_mark_22 : decode cX5_mark 22 = .ok (.iconst 0, 1) := by decide +kernel
theorem dX5_mark_23 : decode cX5_mark 23 = .ok (.ireturn, 1) := by decide +kernel
theorem dX5_mark_24 : decode cX5_mark 24 = .ok (.iload_n 2, 1) := by decide +kernel
theorem dX5_mark_25 : decode cX5_mark 25 = .ok (.ifCond .eq 18, 3) := by decide +kernel
theorem dX5_mark_28 : decode cX5_mark 28 = .ok (.aload_n 0, 1) := by decide +kernel
theorem dX5_mark_29 : decode cX5_mark 29 = .ok (.getfield 26, 3) := by decide +kernel
theorem dX5_mark_32 : decode cX5_mark 32 = .ok (.getfield 170, 3) := by decide +kernel
theorem dX5_mark_35 : decode cX5_mark 35 = .ok (.bipush 16, 2) := by decide +kernel
theorem dX5_mark_37 : decode cX5_mark 37 = .ok (.if_icmp .lt 6, 3) := by decide +kernel
theorem dX5_mark_40 : decode cX5_mark 40 = .ok (.bipush (-4), 2) := by decide +kernel
theorem dX5_mark_42 : decode cX5_mark 42 = .ok (.ireturn, 1) := by decide +kernel
theorem dX5_mark_43 : decode cX5_mark 43 = .ok (.iload_n 2, 1) := by decide +kernel
theorem dX5_mark_44 : decode cX5_mark 44 = .ok (.ifCond .eq 14, 3) := by decide +kernel
theorem dX5_mark_47 : decode cX5_mark 47 = .ok (.aload_n 0, 1) := by decide +kernel
theorem dX5_mark_48 : decode cX5_mark 48 = .ok (.getfield 26, 3) := by decide +kernel
theorem dX5_mark_51 : decode cX5_mark 51 = .ok (.iload_n 1, 1) := by decide +kernel
theorem dX5_mark_52 : decode cX5_mark 52 = .ok (.invokevirtual 173, 3) := by decide +kernel
theorem dX5_mark_55 : decode cX5_mark 55 = .ok (.goto 11, 3) := by decide +kernel
theorem dX5_mark_58 : decode cX5_mark 58 = .ok (.aload_n 0, 1) := by decide +kernel
theorem dX5_mark_59 : decode cX5_mark 59 = .ok (.getfield 26, 3) := by decide +kernel
theorem dX5_mark_62 : decode cX5_mark 62 = .ok (.iload_n 1, 1) := by decide +kernel
theorem dX5_mark_63 : decode cX5_mark 63 = .ok (.invokevirtual 176, 3) := by decide +kernel
theorem dX5_mark_66 : decode cX5_mark 66 = .ok (.aload_n 0, 1) := by decide +kernel
theorem dX5_mark_67 : decode cX5_mark 67 = .ok (.getfield 33, 3) := by decide +kernel
theorem dX5_mark_70 : decode cX5_mark 70 = .ok (.invokevirtual 91, 3) := by decide +kernel
theorem dX5_mark_73 : decode cX5_mark 73 = .ok (.iconst 1, 1) := by decide +kernel
theorem dX5_mark_74 : decode cX5_mark 74 = .ok (.ireturn, 1) := by decide +kernel
theorem dX5_markAt_0 : decode cX5_markAt 0 = .ok (.iload_n 1, 1) := by decide +kernel
theorem dX5_markAt_1 : decode cX5_markAt 1 = .ok (.ifCond .lt 9, 3) := by decide +kernel
theorem dX5_markAt_4 : decode cX5_markAt 4 = .ok (.iload_n 1, 1) := by decide +kernel
theorem dX5_markAt_5 : decode cX5_markAt 5 = .ok (.bipush 16, 2) := by decide +kernel
theorem dX5_markAt_7 : decode cX5_markAt 7 = .ok (.if_icmp .lt 6, 3) := by decide +kernel
theorem dX5_markAt_10 : decode cX5_markAt 10 = .ok (.bipush (-2), 2) := by decide +kernel
theorem dX5_markAt_12 : decode cX5_markAt 12 = .ok (.ireturn, 1) := by decide +kernel
theorem dX5_markAt_13 : decode cX5_markAt 13 = .ok (.iload_n 1, 1) := by decide +kernel
theorem dX5_markAt_14 : decode cX5_markAt 14 = .ok (.aload_n 0, 1) := by decide +kernel
theorem dX5_markAt_15 : decode cX5_markAt 15 = .ok (.getfield 26, 3) := by decide +kernel
theorem dX5_markAt_18 : decode cX5_markAt 18 = .ok (.getfield 170, 3) := by decide +kernel
theorem dX5_markAt_21 : decode cX5_markAt 21 = .ok (.if_icmp .ge 15, 3) := by decide +kernel
theorem dX5_markAt_24 : decode cX5_markAt 24 = .ok (.aload_n 0, 1) := by decide +kernel
theorem dX5_markAt_25 : decode cX5_markAt 25 = .ok (.getfield 26, 3) := by decide +kernel
theorem dX5_markAt_28 : decode cX5_markAt 28 = .ok (.getfield 179, 3) := by decide +kernel
theorem dX5_markAt_31 : decode cX5_markAt 31 = .ok (.iload_n 1, 1) := by decide +kernel
theorem dX5_markAt_32 : decode cX5_markAt 32 = .ok (.iaload, 1) := by decide +kernel
theorem dX5_markAt_33 : decode cX5_markAt 33 = .ok (.goto 5, 3) := by decide +kernel
theorem dX5_markAt_36 : decode cX5_markAt 36 = .ok (.bipush (-9), 2) := by decide +kernel
theorem dX5_markAt_38 : decode cX5_markAt 38 = .ok (.ireturn, 1) := by decide +kernel
set_option maxRecDepth 20000 in
theorem ggX5_nearest_X5_isSection : GoodIn wsX5_nearest wsX5_isSection := goodIn_r _ [5, 6, 7, 60, 61, 62, 63, 64, 65, 66, 67, 68, 69, 70, 71, 72, 73, 74] (by decide +kernel) (by decide +kernel)
set_option maxRecDepth 20000 in
theorem gX5_nearest_X5_isSection : GoodIn wsX5_nearest (wsV RX5 62 RX5 yX5_isSection wsX5_isSection) := goodIn_app (goodIn_of _ (by decide +kernel)) ggX5_nearest_X5_isSection
set_option maxRecDepth 20000 in
theorem ggX5_nearest_X5_nearestMark : GoodIn wsX5_nearest wsX5_nearestMark := goodIn_r _ [11, 12, 13, 14, 15, 16, 17, 18, 19, 20, 21, 22, 4, 23, 24, 25, 26, 27, 28, 29, 30, 31, 32, 33, 34, 35, 36, 37, 38, 39, 40, 41, 42, 43, 44, 45, 46, 47, 48, 49, 50, 51, 52, 53, 54, 55, 56, 57, 58, 59, 60, 61, 62, 63, 64, 65, 75, 76, 77, 78, 79, 80, 81] (by decide +kernel) (by decide +kernel)
set_option maxRecDepth 20000 in
theorem gX5_nearest_X5_nearestMark : GoodIn wsX5_nearest (wsV RX5 182 RX5 yX5_nearestMark wsX5_nearestMark) := goodIn_app (goodIn_of _ (by decide +kernel)) ggX5_nearest_X5_nearestMark
theorem dX5_nearest_0 : decode cX5_nearest 0 = .ok (.aload_n 0, 1) := by decide +kernel
theorem dX5_nearest_1 : decode cX5_nearest 1 = .ok (.iload_n 1, 1) := by decide +kernel
theorem dX5_nearest_2 : decode cX5_nearest 2 = .ok (.invokevirtual 62, 3) := by decide +kernel
theorem dX5_nearest_5 : decode cX5_nearest 5 = .ok (.ifCond .ne 5, 3) := by decide +kernel
theorem dX5_nearest_8 : decode cX5_nearest 8 = .ok (.iconst (-1), 1) := by decide +kernel
theorem dX5_nearest_9 : decode cX5_nearest 9 = .ok (.ireturn, 1) := by decide +kernel
theorem dX5_nearest_10 : decode cX5_nearest 10 = .ok (.aload_n 0, 1) := by decide +kernel
theorem dX5_nearest_11 : decode cX5_nearest 11 = .ok (.iload_n 1, 1) := by decide +kernel
theorem dX5_nearest_12 : decode cX5_nearest 12 = .ok (.invokevirtual 182, 3) := by decide +kernel
theorem dX5_nearest_15 : decode cX5_nearest 15 = .ok (.ireturn, 1) := by decide +kernel
set_option maxRecDepth 20000 in
theorem ggX5_away_X5_isSection : GoodIn wsX5_away wsX5_isSection := goodIn_r _ [12, 13, 14, 67, 68, 69, 70, 71, 72, 73, 74, 75, 76, 77, 78, 79, 80, 81] (by decide +kernel) (by decide +kernel)
set_option maxRecDepth 20000 in
theorem gX5_away_X5_isSection : GoodIn wsX5_away (wsV RX5 62 RX5 yX5_isSection wsX5_isSection) := goodIn_app (goodIn_of _ (by decide +kernel)) ggX5_away_X5_isSection
set_option maxRecDepth 20000 in
theorem ggX5_away_X5_isWhich : GoodIn wsX5_away wsX5_isWhich := goodIn_r _ [17] (by decide +kernel) (by decide +kernel)
set_option maxRecDepth 20000 in
theorem gX5_away_X5_isWhich : GoodIn wsX5_away (va_wsS RX5 134 yX5_isWhich wsX5_isWhich) := goodIn_app (goodIn_of _ (by decide +kernel)) ggX5_away_X5_isWhich
set_option maxRecDepth 20000 in
theorem ggX5_away_X5_nearestMark : GoodIn wsX5_away wsX5_nearestMark := goodIn_r _ [21, 22, 23, 24, 25, 26, 27, 28, 29, 30, 31, 32, 11, 33, 34, 35, 36, 37, 38, 39, 40, 41, 42, 43, 44, 45, 46, 47, 48, 49, 50, 51, 52, 53, 54, 55, 56, 57, 58, 59, 60, 61, 62, 63, 64, 65, 66, 5, 6, 7, 67, 68, 69, 70, 71, 72, 82, 83, 84, 85, 86, 87, 88] (by decide +kernel) (by decide +kernel)
set_option maxRecDepth 20000 in
theorem gX5_away_X5_nearestMark : GoodIn wsX5_away (wsV RX5 182 RX5 yX5_nearestMark wsX5_nearestMark) := goodIn_app (goodIn_of _ (by decide +kernel)) ggX5_away_X5_nearestMark
set_option maxRecDepth 20000 in
theorem ggX5_away_X5_tempoPart : GoodIn wsX5_away wsX5_tempoPart := goodIn_r _ [33, 22, 34, 35, 36, 37, 27, 38, 39, 40, 41, 11, 42, 43, 44, 45, 46, 47, 48, 49, 50, 51, 52, 53, 54, 55, 56, 57, 58, 67, 68, 69, 70, 71, 72, 82, 83, 84, 85, 86] (by decide +kernel) (by decide +kernel)
set_option maxRecDepth 20000 in
theorem gX5_away_X5_tempoPart : GoodIn wsX5_away (wsV RX5 142 RX5 yX5_tempoPart wsX5_tempoPart) := goodIn_app (goodIn_of _ (by decide +kernel)) ggX5_away_X5_tempoPart
theorem dX5_away_0 : decode cX5_away 0 = .ok (.aload_n 0, 1) := by decide +kernel
theorem dX5_away_1 : decode cX5_away 1 = .ok (.iload_n 1, 1) := by decide +kernel
theorem dX5_away_2 : decode cX5_away 2 = .ok (.invokevirtual 62, 3) := by decide +kernel
theorem dX5_away_5 : decode cX5_away 5 = .ok (.ifCond .ne 7, 3) := by decide +kernel
theorem dX5_away_8 : decode cX5_away 8 = .ok (.ldc2_w 132, 3) := by decide +kernel
theorem dX5_away_11 : decode cX5_away 11 = .ok (.lreturn, 1) := by decide +kernel
theorem dX5_away_12 : decode cX5_away 12 = .ok (.iload_n 2, 1) := by decide +kernel
theorem dX5_away_13 : decode cX5_away 13 = .ok (.invokestatic 134, 3) := by decide +kernel
theorem dX5_away_16 : decode cX5_away 16 = .ok (.ifCond .ne 7, 3) := by decide +kernel
theorem dX5_away_19 : decode cX5_away 19 = .ok (.ldc2_w 137, 3) := by decide +kernel
theorem dX5_away_22 : decode cX5_away 22 = .ok (.lreturn, 1) := by decide +kernel
theorem dX5_away_23 : decode cX5_away 23 = .ok (.aload_n 0, 1) := by decide +kernel
theorem dX5_away_24 : decode cX5_away 24 = .ok (.iload_n 1, 1) := by decide +kernel
theorem dX5_away_25 : decode cX5_away 25 = .ok (.invokevirtual 182, 3) := by decide +kernel
theorem dX5_away_28 : decode cX5_away 28 = .ok (.istore_n 3, 1) := by decide +kernel
theorem dX5_away_29 : decode cX5_away 29 = .ok (.iload_n 3, 1) := by decide +kernel
theorem dX5_away_30 : decode cX5_away 30 = .ok (.bipush (-9), 2) := by decide +kernel
theorem dX5_away_32 : decode cX5_away 32 = .ok (.if_icmp .ne 7, 3) := by decide +kernel
theorem dX5_away_35 : decode cX5_away 35 = .ok (.ldc2_w 146, 3) := by decide +kernel
theorem dX5_away_38 : decode cX5_away 38 = .ok (.lreturn, 1) := by decide +kernel
theorem dX5_away_39 : decode cX5_away 39 = .ok (.aload_n 0, 1) := by decide +kernel
theorem dX5_away_40 : decode cX5_away 40 = .ok (.iload_n 1, 1) := by decide +kernel
theorem dX5_away_41 : decode cX5_away 41 = .ok (.iconst 1, 1) := by decide +kernel
theorem dX5_away_42 : decode cX5_away 42 = .ok (.invokevirtual 142, 3) := by decide +kernel
theorem dX5_away_45 : decode cX5_away 45 = .ok (.lstore 4, 2) := by decide +kernel
theorem dX5_away_47 : decode cX5_away 47 = .ok (.iload_n 2, 1) := by decide +kernel
theorem dX5_away_48 : decode cX5_away 48 = .ok (.iconst 1, 1) := by decide +kernel
theorem dX5_away_49 : decode cX5_away 49 = .ok (.if_icmp .ne 8, 3) := by decide +kernel
theorem dX5_away_52 : decode cX5_away 52 = .ok (.lload 4, 2) := by decide +kernel
theorem dX5_away_54 : decode cX5_away 54 = .ok (.goto 18, 3) := by decide +kernel
theorem dX5_away_57 : decode cX5_away 57 = .ok (.aload_n 0, 1) := by decide +kernel
theorem dX5_away_58 : decode cX5_away 58 = .ok (.iload_n 1, 1) := by decide +kernel
theorem dX5_away_59 : decode cX5_away 59 = .ok (.iconst 0, 1) := by decide +kernel
theorem dX5_away_60 : decode cX5_away 60 = .ok (.invokevirtual 142, 3) := by decide +kernel
theorem dX5_away_63 : decode cX5_away 63 = .ok (.iload_n 3, 1) := by decide +kernel
theorem dX5_away_64 : decode cX5_away 64 = .ok (.i2l, 1) := by decide +kernel
theorem dX5_away_65 : decode cX5_away 65 = .ok (.lload 4, 2) := by decide +kernel
theorem dX5_away_67 : decode cX5_away 67 = .ok (.lmul, 1) := by decide +kernel
theorem dX5_away_68 : decode cX5_away 68 = .ok (.lsub, 1) := by decide +kernel
theorem dX5_away_69 : decode cX5_away 69 = .ok (.invokestatic 185, 3) := by decide +kernel
theorem dX5_away_72 : decode cX5_away 72 = .ok (.lreturn, 1) := by decide +kernel
set_option maxRecDepth 20000 in
theorem ggX5_pin_X5_isSection : GoodIn wsX5_pin wsX5_isSection := goodIn_r _ [8, 1, 9, 19, 20, 21, 22, 23, 24, 25, 26, 27, 28, 29, 30, 31, 32, 33] (by decide +kernel) (by decide +kernel)
set_option maxRecDepth 20000 in
theorem gX5_pin_X5_isSection : GoodIn wsX5_pin (wsV RX5 62 RX5 yX5_isSection wsX5_isSection) := goodIn_app (goodIn_of _ (by decide +kernel)) ggX5_pin_X5_isSection
set_option maxRecDepth 20000 in
theorem ggX5_pin_X5_isWholeTempo : GoodIn wsX5_pin wsX5_isWholeTempo := goodIn_r _ [12] (by decide +kernel) (by decide +kernel)
set_option maxRecDepth 20000 in
theorem gX5_pin_X5_isWholeTempo : GoodIn wsX5_pin (va_wsS RX5 69 yX5_isWholeTempo wsX5_isWholeTempo) := goodIn_app (goodIn_of _ (by decide +kernel)) ggX5_pin_X5_isWholeTempo
set_option maxRecDepth 20000 in
theorem ggX5_pin_X0_forget : GoodIn wsX5_pin wsX0_forget := goodIn_r _ [17, 18, 34, 35, 36, 37, 38, 39, 40, 41, 42] (by decide +kernel) (by decide +kernel)
set_option maxRecDepth 20000 in
theorem gX5_pin_X0_forget : GoodIn wsX5_pin (wsV RX5 91 RX0 yX0_forget wsX0_forget) := goodIn_app (goodIn_of _ (by decide +kernel)) ggX5_pin_X0_forget
theorem dX5_pin_0 : decode cX5_pin 0 = .ok (.aload_n 0, 1) := by decide +kernel
theorem dX5_pin_1 : decode cX5_pin 1 = .ok (.iload_n 1, 1) := by decide +kernel
theorem dX5_pin_2 : decode cX5_pin 2 = .ok (.invokevirtual 62, 3) := by decide +kernel
theorem dX5_pin_5 : decode cX5_pin 5 = .ok (.ifCond .ne 5, 3) := by decide +kernel
theorem dX5_pin_8 : decode cX5_pin 8 = .ok (.iconst (-1), 1) := by decide +kernel
theorem dX5_pin_9 : decode cX5_pin 9 = .ok (.ireturn, 1) := by decide +kernel
theorem dX5_pin_10 : decode cX5_pin 10 = .ok (.iload_n 2, 1) := by decide +kernel
theorem dX5_pin_11 : decode cX5_pin 11 = .ok (.bipush (-9), 2) := by decide +kernel
theorem dX5_pin_13 : decode cX5_pin 13 = .ok (.if_icmp .eq 13, 3) := by decide +kernel
theorem dX5_pin_16 : decode cX5_pin 16 = .ok (.iload_n 2, 1) := by decide +kernel
theorem dX5_pin_17 : decode cX5_pin 17 = .ok (.invokestatic 69, 3) := by decide +kernel
theorem dX5_pin_20 : decode cX5_pin 20 = .ok (.ifCond .ne 6, 3) := by decide +kernel
theorem dX5_pin_23 : decode cX5_pin 23 = .ok (.bipush (-2), 2) := by decide +kernel
theorem dX5_pin_25 : decode cX5_pin 25 = .ok (.ireturn, 1) := by decide +kernel
theorem dX5_pin_26 : decode cX5_pin 26 = .ok (.aload_n 0, 1) := by decide +kernel
theorem dX5_pin_27 : decode cX5_pin 27 = .ok (.getfield 10, 3) := by decide +kernel
theorem dX5_pin_30 : decode cX5_pin 30 = .ok (.getfield 111, 3) := by decide +kernel
theorem dX5_pin_33 : decode cX5_pin 33 = .ok (.iload_n 1, 1) := by decide +kernel
theorem dX5_pin_34 : decode cX5_pin 34 = .ok (.iaload, 1) := by decide +kernel
theorem dX5_pin_35 : decode cX5_pin 35 = .ok (.istore_n 3, 1) := by decide +kernel
theorem dX5_pin_36 : decode cX5_pin 36 = .ok (.aload_n 0, 1) := by decide +kernel
theorem dX5_pin_37 : decode cX5_pin 37 = .ok (.getfield 10, 3) := by decide +kernel
theorem dX5_pin_40 : decode cX5_pin 40 = .ok (.getfield 111, 3) := by decide +kernel
theorem dX5_pin_43 : decode cX5_pin 43 = .ok (.iload_n 1, 1) := by decide +kernel
theorem dX5_pin_44 : decode cX5_pin 44 = .ok (.iload_n 2, 1) := by decide +kernel
theorem dX5_pin_45 : decode cX5_pin 45 = .ok (.iastore, 1) := by decide +kernel
theorem dX5_pin_46 : decode cX5_pin 46 = .ok (.aload_n 0, 1) := by decide +kernel
theorem dX5_pin_47 : decode cX5_pin 47 = .ok (.getfield 33, 3) := by decide +kernel
theorem dX5_pin_50 : decode cX5_pin 50 = .ok (.invokevirtual 91, 3) := by decide +kernel
theorem dX5_pin_53 : decode cX5_pin 53 = .ok (.iload_n 3, 1) := by decide +kernel
theorem dX5_pin_54 : decode cX5_pin 54 = .ok (.ireturn, 1) := by decide +kernel
set_option maxRecDepth 20000 in
theorem ggX5_harm_X0_find : GoodIn wsX5_harm wsX0_find := goodIn_r _ [10, 11, 12, 13, 14, 15, 16, 17, 18, 9, 19, 20, 21, 22, 23, 24, 25, 26, 27, 28, 29, 30, 31, 32, 33, 34, 35, 36, 37, 38, 39, 40, 41, 42, 43, 44, 45, 46, 47, 48, 49, 50, 51, 52, 53, 54, 55, 56, 57, 58, 59, 60, 61, 62, 63, 64, 65, 66, 67, 68, 69, 70, 71, 72, 73, 74, 75, 76, 77, 78, 79, 80, 81, 88, 89, 90, 91, 92, 93, 94, 95, 96, 97, 98, 99, 100, 101, 102, 103, 104, 105, 106, 107, 108, 109, 110, 111, 112] (by decide +kernel) (by decide +kernel)
set_option maxRecDepth 20000 in
theorem gX5_harm_X0_find : GoodIn wsX5_harm (wsV RX5 191 RX0 yX0_find wsX0_find) := goodIn_app (goodIn_of _ (by decide +kernel)) ggX5_harm_X0_find
theorem dX5_harm_0 : decode cX5_harm 0 = .ok (.aload_n 0, 1) := by decide +kernel
theorem dX5_harm_1 : decode cX5_harm 1 = .ok (.getfield 33, 3) := by decide +kernel
theorem dX5_harm_4 : decode cX5_harm 4 = .ok (.aload_n 0, 1) := by decide +kernel
theorem dX5_harm_5 : decode cX5_harm 5 = .ok (.getfield 10, 3) := by decide +kernel
theorem dX5_harm_8 : decode cX5_harm 8 = .ok (.aload_n 0, 1) := by decide +kernel
theorem dX5_harm_9 : decode cX5_harm 9 = .ok (.getfield 19, 3) := by decide +kernel
theorem dX5_harm_12 : decode cX5_harm 12 = .ok (.aload_n 0, 1) := by decide +kernel
theorem dX5_harm_13 : decode cX5_harm 13 = .ok (.getfield 26, 3) := by decide +kernel
theorem dX5_harm_16 : decode cX5_harm 16 = .ok (.invokevirtual 191, 3) := by decide +kernel
theorem dX5_harm_19 : decode cX5_harm 19 = .ok (.aload_n 0, 1) := by decide +kernel
theorem dX5_harm_20 : decode cX5_harm 20 = .ok (.getfield 33, 3) := by decide +kernel
theorem dX5_harm_23 : decode cX5_harm 23 = .ok (.getfield 195, 3) := by decide +kernel
theorem dX5_harm_26 : decode cX5_harm 26 = .ok (.ireturn, 1) := by decide +kernel
set_option maxRecDepth 20000 in
theorem ggX5_play_X5_isSection : GoodIn wsX5_play wsX5_isSection := goodIn_r _ [10, 2, 11, 88, 89, 90, 91, 92, 93, 103, 104, 105, 106, 107, 108, 109, 110, 111] (by decide +kernel) (by decide +kernel)
set_option maxRecDepth 20000 in
theorem gX5_play_X5_isSection : GoodIn wsX5_play (wsV RX5 62 RX5 yX5_isSection wsX5_isSection) := goodIn_app (goodIn_of _ (by decide +kernel)) ggX5_play_X5_isSection
set_option maxRecDepth 20000 in
theorem ggX5_play_X0_find : GoodIn wsX5_play wsX0_find := goodIn_r _ [16, 17, 18, 19, 20, 21, 22, 23, 24, 15, 25, 26, 27, 28, 29, 30, 31, 32, 33, 34, 35, 36, 37, 38, 39, 40, 41, 42, 43, 44, 45, 46, 47, 48, 49, 50, 51, 52, 53, 54, 55, 56, 57, 58, 59, 60, 61, 62, 63, 64, 65, 66, 67, 68, 69, 70, 71, 72, 73, 74, 75, 76, 77, 78, 79, 80, 81, 82, 83, 84, 85, 86, 87, 94, 95, 96, 97, 98, 99, 100, 101, 102, 103, 104, 105, 106, 107, 108, 109, 110, 111, 112, 113, 114, 115, 116, 117, 118] (by decide +kernel) (by decide +kernel)
set_option maxRecDepth 20000 in
theorem gX5_play_X0_find : GoodIn wsX5_play (wsV RX5 191 RX0 yX0_find wsX0_find) := goodIn_app (goodIn_of _ (by decide +kernel)) ggX5_play_X0_find
theorem dX5_play_0 : decode cX5_play 0 = .ok (.aload_n 0, 1) := by decide +kernel
theorem dX5_play_1 : decode cX5_play 1 = .ok (.iload_n 1, 1) := by decide +kernel
theorem dX5_play_2 : decode cX5_play 2 = .ok (.invokevirtual 62, 3) := by decide +kernel
theorem dX5_play_5 : decode cX5_play 5 = .ok (.ifCond .ne 5, 3) := by decide +kernel
theorem dX5_play_8 : decode cX5_play 8 = .ok (.iconst (-1), 1) := by decide +kernel
theorem dX5_play_9 : decode cX5_play 9 = .ok (.ireturn, 1) := by decide +kernel
theorem dX5_play_10 : decode cX5_play 10 = .ok (.aload_n 0, 1) := by decide +kernel
theorem dX5_play_11 : decode cX5_play 11 = .ok (.getfield 33, 3) := by decide +kernel
theorem dX5_play_14 : decode cX5_play 14 = .ok (.aload_n 0, 1) := by decide +kernel
theorem dX5_play_15 : decode cX5_play 15 = .ok (.getfield 10, 3) := by decide +kernel
theorem dX5_play_18 : decode cX5_play 18 = .ok (.aload_n 0, 1) := by decide +kernel
theorem dX5_play_19 : decode cX5_play 19 = .ok (.getfield 19, 3) := by decide +kernel
theorem dX5_play_22 : decode cX5_play 22 = .ok (.aload_n 0, 1) := by decide +kernel
theorem dX5_play_23 : decode cX5_play 23 = .ok (.getfield 26, 3) := by decide +kernel
theorem dX5_play_26 : decode cX5_play 26 = .ok (.invokevirtual 191, 3) := by decide +kernel
theorem dX5_play_29 : decode cX5_play 29 = .ok (.aload_n 0, 1) := by decide +kernel
theorem dX5_play_30 : decode cX5_play 30 = .ok (.getfield 33, 3) := by decide +kernel
theorem dX5_play_33 : decode cX5_play 33 = .ok (.getfield 198, 3) := by decide +kernel
theorem dX5_play_36 : decode cX5_play 36 = .ok (.iload_n 1, 1) := by decide +kernel
theorem dX5_play_37 : decode cX5_play 37 = .ok (.iaload, 1) := by decide +kernel
theorem dX5_play_38 : decode cX5_play 38 = .ok (.ireturn, 1) := by decide +kernel
set_option maxRecDepth 20000 in
theorem ggX5_drift_X5_isTie : GoodIn wsX5_drift wsX5_isTie := goodIn_r _ [12, 2, 13, 91, 92, 93, 94, 95, 96, 106, 107, 108, 109, 110, 111, 112, 113, 114] (by decide +kernel) (by decide +kernel)
set_option maxRecDepth 20000 in
theorem gX5_drift_X5_isTie : GoodIn wsX5_drift (wsV RX5 85 RX5 yX5_isTie wsX5_isTie) := goodIn_app (goodIn_of _ (by decide +kernel)) ggX5_drift_X5_isTie
set_option maxRecDepth 20000 in
theorem ggX5_drift_X0_find : GoodIn wsX5_drift wsX0_find := goodIn_r _ [18, 19, 20, 21, 22, 23, 24, 25, 26, 17, 27, 28, 29, 30, 31, 32, 33, 34, 35, 36, 37, 38, 39, 40, 41, 42, 43, 44, 45, 46, 47, 48, 49, 50, 51, 52, 53, 54, 55, 56, 57, 58, 59, 60, 61, 62, 63, 64, 65, 66, 67, 68, 69, 70, 71, 72, 73, 74, 75, 76, 77, 78, 79, 80, 81, 82, 83, 84, 85, 86, 87, 88, 89, 97, 98, 99, 100, 101, 102, 103, 104, 105, 106, 107, 108, 109, 110, 111, 112, 113, 114, 115, 116, 117, 118, 119, 120, 121] (by decide +kernel) (by decide +kernel)
set_option maxRecDepth 20000 in
theorem gX5_drift_X0_find : GoodIn wsX5_drift (wsV RX5 191 RX0 yX0_find wsX0_find) := goodIn_app (goodIn_of _ (by decide +kernel)) ggX5_drift_X0_find
set_option maxRecDepth 20000 in
theorem ggX5_drift_X3_driftBy : GoodIn wsX5_drift wsX3_driftBy := goodIn_r _ [80, 81, 82, 83, 84, 75, 85, 106, 107, 108, 109, 110, 111, 112, 113, 114] (by decide +kernel) (by decide +kernel)
set_option maxRecDepth 20000 in
theorem gX5_drift_X3_driftBy : GoodIn wsX5_drift (wsV RX5 201 RX3 yX3_driftBy wsX3_driftBy) := goodIn_app (goodIn_of _ (by decide +kernel)) ggX5_drift_X3_driftBy
theorem dX5_drift_0 : decode cX5_drift 0 = .ok (.aload_n 0, 1) := by decide +kernel
theorem dX5_drift_1 : decode cX5_drift 1 = .ok (.iload_n 1, 1) := by decide +kernel
theorem dX5_drift_2 : decode cX5_drift 2 = .ok (.invokevirtual 85, 3) := by decide +kernel
theorem dX5_drift_5 : decode cX5_drift 5 = .ok (.ifCond .ne 5, 3) := by decide +kernel
theorem dX5_drift_8 : decode cX5_drift 8 = .ok (.iconst (-1), 1) := by decide +kernel
theorem dX5_drift_9 : decode cX5_drift 9 = .ok (.ireturn, 1) := by decide +kernel
theorem dX5_drift_10 : decode cX5_drift 10 = .ok (.aload_n 0, 1) := by decide +kernel
theorem dX5_drift_11 : decode cX5_drift 11 = .ok (.getfield 33, 3) := by decide +kernel
theorem dX5_drift_14 : decode cX5_drift 14 = .ok (.aload_n 0, 1) := by decide +kernel
theorem dX5_drift_15 : decode cX5_drift 15 = .ok (.getfield 10, 3) := by decide +kernel
theorem dX5_drift_18 : decode cX5_drift 18 = .ok (.aload_n 0, 1) := by decide +kernel
theorem dX5_drift_19 : decode cX5_drift 19 = .ok (.getfield 19, 3) := by decide +kernel
theorem dX5_drift_22 : decode cX5_drift 22 = .ok (.aload_n 0, 1) := by decide +kernel
theorem dX5_drift_23 : decode cX5_drift 23 = .ok (.getfield 26, 3) := by decide +kernel
theorem dX5_drift_26 : decode cX5_drift 26 = .ok (.invokevirtual 191, 3) := by decide +kernel
theorem dX5_drift_29 : decode cX5_drift 29 = .ok (.aload_n 0, 1) := by decide +kernel
theorem dX5_drift_30 : decode cX5_drift 30 = .ok (.getfield 33, 3) := by decide +kernel
theorem dX5_drift_33 : decode cX5_drift 33 = .ok (.getfield 198, 3) := by decide +kernel
theorem dX5_drift_36 : decode cX5_drift 36 = .ok (.aload_n 0, 1) := by decide +kernel
theorem dX5_drift_37 : decode cX5_drift 37 = .ok (.getfield 10, 3) := by decide +kernel
theorem dX5_drift_40 : decode cX5_drift 40 = .ok (.getfield 117, 3) := by decide +kernel
theorem dX5_drift_43 : decode cX5_drift 43 = .ok (.iload_n 1, 1) := by decide +kernel
theorem dX5_drift_44 : decode cX5_drift 44 = .ok (.iaload, 1) := by decide +kernel
theorem dX5_drift_45 : decode cX5_drift 45 = .ok (.iaload, 1) := by decide +kernel
theorem dX5_drift_46 : decode cX5_drift 46 = .ok (.istore_n 2, 1) := by decide +kernel
theorem dX5_drift_47 : decode cX5_drift 47 = .ok (.aload_n 0, 1) := by decide +kernel
theorem dX5_drift_48 : decode cX5_drift 48 = .ok (.getfield 33, 3) := by decide +kernel
theorem dX5_drift_51 : decode cX5_drift 51 = .ok (.getfield 198, 3) := by decide +kernel
theorem dX5_drift_54 : decode cX5_drift 54 = .ok (.aload_n 0, 1) := by decide +kernel
theorem dX5_drift_55 : decode cX5_drift 55 = .ok (.getfield 10, 3) := by decide +kernel
theorem dX5_drift_58 : decode cX5_drift 58 = .ok (.getfield 123, 3) := by decide +kernel
theorem dX5_drift_61 : decode cX5_drift 61 = .ok (.iload_n 1, 1) := by decide +kernel
theorem dX5_drift_62 : decode cX5_drift 62 = .ok (.iaload, 1) := by decide +kernel
theorem dX5_drift_63 : decode cX5_drift 63 = .ok (.iaload, 1) := by decide +kernel
theorem dX5_drift_64 : decode cX5_drift 64 = .ok (.istore_n 3, 1) := by decide +kernel
theorem dX5_drift_65 : decode cX5_drift 65 = .ok (.iload_n 2, 1) := by decide +kernel
theorem dX5_drift_66 : decode cX5_drift 66 = .ok (.bipush (-9), 2) := by decide +kernel
theorem dX5_drift_68 : decode cX5_drift 68 = .ok (.if_icmp .eq 9, 3) := by decide +kernel
theorem dX5_drift_71 : decode cX5_drift 71 = .ok (.iload_n 3, 1) := by decide +kernel
theorem dX5_drift_72 : decode cX5_drift 72 = .ok (.bipush (-9), 2) := by decide +kernel
theorem dX5_drift_74 : decode cX5_drift 74 = .ok (.if_icmp .ne 8, 3) := by decide +kernel
theorem dX5_drift_77 : decode cX5_drift 77 = .ok (.bipush (-9), 2) := by decide +kernel
theorem dX5_drift_79 : decode cX5_drift 79 = .ok (.goto 13, 3) := by decide +kernel
theorem dX5_drift_82 : decode cX5_drift 82 = .ok (.aload_n 0, 1) := by decide +kernel
theorem dX5_drift_83 : decode cX5_drift 83 = .ok (.getfield 10, 3) := by decide +kernel
theorem dX5_drift_86 : decode cX5_drift 86 = .ok (.iload_n 1, 1) := by decide +kernel
theorem dX5_drift_87 : decode cX5_drift 87 = .ok (.iload_n 2, 1) := by decide +kernel
theorem dX5_drift_88 : decode cX5_drift 88 = .ok (.iload_n 3, 1) := by decide +kernel
theorem dX5_drift_89 : decode cX5_drift 89 = .ok (.invokevirtual 201, 3) := by decide +kernel
theorem dX5_drift_92 : decode cX5_drift 92 = .ok (.ireturn, 1) := by decide +kernel
set_option maxRecDepth 20000 in
theorem ggX5_clock_X5_isSection : GoodIn wsX5_clock wsX5_isSection := goodIn_r _ [10, 11, 12, 47, 48, 49, 50, 51, 52, 53, 54, 55, 56, 57, 58, 59, 60, 61] (by decide +kernel) (by decide +kernel)
set_option maxRecDepth 20000 in
theorem gX5_clock_X5_isSection : GoodIn wsX5_clock (wsV RX5 62 RX5 yX5_isSection wsX5_isSection) := goodIn_app (goodIn_of _ (by decide +kernel)) ggX5_clock_X5_isSection
set_option maxRecDepth 20000 in
theorem ggX5_clock_X1_isPlayed : GoodIn wsX5_clock wsX1_isPlayed := goodIn_r _ [17, 18, 62, 63, 64, 65, 66] (by decide +kernel) (by decide +kernel)
set_option maxRecDepth 20000 in
theorem gX5_clock_X1_isPlayed : GoodIn wsX5_clock (wsV RX5 139 RX1 yX1_isPlayed wsX1_isPlayed) := goodIn_app (goodIn_of _ (by decide +kernel)) ggX5_clock_X1_isPlayed
set_option maxRecDepth 20000 in
theorem ggX5_clock_X5_lasting : GoodIn wsX5_clock wsX5_lasting := goodIn_r _ [22, 3, 11, 23, 24, 13, 14, 15, 16, 17, 18, 25, 26, 27, 28, 29, 30, 31, 32, 33, 34, 35, 36, 9, 37, 38, 39, 40, 41, 42, 47, 48, 49, 50, 51, 52, 53, 54, 55, 56, 57, 58, 59, 60, 61, 62, 63, 64, 65, 66] (by decide +kernel) (by decide +kernel)
set_option maxRecDepth 20000 in
theorem gX5_clock_X5_lasting : GoodIn wsX5_clock (wsV RX5 205 RX5 yX5_lasting wsX5_lasting) := goodIn_app (goodIn_of _ (by decide +kernel)) ggX5_clock_X5_lasting
set_option maxRecDepth 20000 in
theorem ggX5_clock_X5_lastingUpTo : GoodIn wsX5_clock wsX5_lastingUpTo := goodIn_r _ [46, 19, 20, 21, 9, 22, 3, 11, 23, 24, 13, 14, 15, 16, 17, 18, 25, 26, 27, 28, 29, 30, 31, 32, 33, 34, 35, 36, 37, 38, 39, 40, 41, 42, 47, 48, 49, 50, 51, 52, 53, 54, 55, 56, 57, 58, 59, 60, 61, 62, 63, 64, 65, 66] (by decide +kernel) (by decide +kernel)
set_option maxRecDepth 20000 in
theorem gX5_clock_X5_lastingUpTo : GoodIn wsX5_clock (wsV RX5 208 RX5 yX5_lastingUpTo wsX5_lastingUpTo) := goodIn_app (goodIn_of _ (by decide +kernel)) ggX5_clock_X5_lastingUpTo
theorem dX5_clock_0 : decode cX5_clock 0 = .ok (.aload_n 0, 1) := by decide +kernel
theorem dX5_clock_1 : decode cX5_clock 1 = .ok (.iload_n 1, 1) := by decide +kernel
theorem dX5_clock_2 : decode cX5_clock 2 = .ok (.invokevirtual 62, 3) := by decide +kernel
theorem dX5_clock_5 : decode cX5_clock 5 = .ok (.ifCond .ne 7, 3) := by decide +kernel
theorem dX5_clock_8 : decode cX5_clock 8 = .ok (.ldc2_w 132, 3) := by decide +kernel
theorem dX5_clock_11 : decode cX5_clock 11 = .ok (.lreturn, 1) := by decide +kernel
theorem dX5_clock_12 : decode cX5_clock 12 = .ok (.iload_n 2, 1) := by decide +kernel
theorem dX5_clock_13 : decode cX5_clock 13 = .ok (.ifCond .eq 12, 3) := by decide +kernel
theorem dX5_clock_16 : decode cX5_clock 16 = .ok (.iload_n 2, 1) := by decide +kernel
theorem dX5_clock_17 : decode cX5_clock 17 = .ok (.iconst 1, 1) := by decide +kernel
theorem dX5_clock_18 : decode cX5_clock 18 = .ok (.if_icmp .eq 7, 3) := by decide +kernel
theorem dX5_clock_21 : decode cX5_clock 21 = .ok (.ldc2_w 137, 3) := by decide +kernel
theorem dX5_clock_24 : decode cX5_clock 24 = .ok (.lreturn, 1) := by decide +kernel
theorem dX5_clock_25 : decode cX5_clock 25 = .ok (.aload_n 0, 1) := by decide +kernel
theorem dX5_clock_26 : decode cX5_clock 26 = .ok (.getfield 19, 3) := by decide +kernel
theorem dX5_clock_29 : decode cX5_clock 29 = .ok (.iload_n 1, 1) := by decide +kernel
theorem dX5_clock_30 : decode cX5_clock 30 = .ok (.invokevirtual 139, 3) := by decide +kernel
theorem dX5_clock_33 : decode cX5_clock 33 = .ok (.ifCond .ne 7, 3) := by decide +kernel
theorem dX5_clock_36 : decode cX5_clock 36 = .ok (.ldc2_w 146, 3) := by decide +kernel
theorem dX5_clock_39 : decode cX5_clock 39 = .ok (.lreturn, 1) := by decide +kernel
theorem dX5_clock_40 : decode cX5_clock 40 = .ok (.iload_n 2, 1) := by decide +kernel
theorem dX5_clock_41 : decode cX5_clock 41 = .ok (.iconst 1, 1) := by decide +kernel
theorem dX5_clock_42 : decode cX5_clock 42 = .ok (.if_icmp .ne 15, 3) := by decide +kernel
theorem dX5_clock_45 : decode cX5_clock 45 = .ok (.aload_n 0, 1) := by decide +kernel
theorem dX5_clock_46 : decode cX5_clock 46 = .ok (.iload_n 1, 1) := by decide +kernel
theorem dX5_clock_47 : decode cX5_clock 47 = .ok (.aload_n 0, 1) := by decide +kernel
theorem dX5_clock_48 : decode cX5_clock 48 = .ok (.getfield 44, 3) := by decide +kernel
theorem dX5_clock_51 : decode cX5_clock 51 = .ok (.invokevirtual 205, 3) := by decide +kernel
theorem dX5_clock_54 : decode cX5_clock 54 = .ok (.goto 12, 3) := by decide +kernel
theorem dX5_clock_57 : decode cX5_clock 57 = .ok (.aload_n 0, 1) := by decide +kernel
theorem dX5_clock_58 : decode cX5_clock 58 = .ok (.iload_n 1, 1) := by decide +kernel
theorem dX5_clock_59 : decode cX5_clock 59 = .ok (.aload_n 0, 1) := by decide +kernel
theorem dX5_clock_60 : decode cX5_clock 60 = .ok (.getfield 44, 3) := by decide +kernel
theorem dX5_clock_63 : decode cX5_clock 63 = .ok (.invokevirtual 208, 3) := by decide +kernel
theorem dX5_clock_66 : decode cX5_clock 66 = .ok (.lreturn, 1) := by decide +kernel
set_option maxRecDepth 20000 in
theorem ggX5_whole_X5_lastingUpTo : GoodIn wsX5_whole wsX5_lastingUpTo := goodIn_r _ [8, 9, 10, 11, 7, 12, 13, 1, 14, 15, 16, 17, 18, 19, 20, 21, 22, 23, 24, 25, 26, 27, 28, 29, 30, 31, 32, 33, 34, 35, 36, 37, 38, 39, 40, 41, 42, 43, 44, 45, 46, 47, 48, 49, 50, 51, 52, 53, 54, 55, 56, 57, 58, 59] (by decide +kernel) (by decide +kernel)
set_option maxRecDepth 20000 in
theorem gX5_whole_X5_lastingUpTo : GoodIn wsX5_whole (wsV RX5 208 RX5 yX5_lastingUpTo wsX5_lastingUpTo) := goodIn_app (goodIn_of _ (by decide +kernel)) ggX5_whole_X5_lastingUpTo
theorem dX5_whole_0 : decode cX5_whole 0 = .ok (.aload_n 0, 1) := by decide +kernel
theorem dX5_whole_1 : decode cX5_whole 1 = .ok (.aload_n 0, 1) := by decide +kernel
theorem dX5_whole_2 : decode cX5_whole 2 = .ok (.getfield 10, 3) := by decide +kernel
theorem dX5_whole_5 : decode cX5_whole 5 = .ok (.getfield 52, 3) := by decide +kernel
theorem dX5_whole_8 : decode cX5_whole 8 = .ok (.aload_n 0, 1) := by decide +kernel
theorem dX5_whole_9 : decode cX5_whole 9 = .ok (.getfield 44, 3) := by decide +kernel
theorem dX5_whole_12 : decode cX5_whole 12 = .ok (.invokevirtual 208, 3) := by decide +kernel
theorem dX5_whole_15 : decode cX5_whole 15 = .ok (.lreturn, 1) := by decide +kernel
set_option maxRecDepth 20000 in
theorem ggX5_where_X5_isMoment : GoodIn wsX5_where wsX5_isMoment := goodIn_r _ [7, 8] (by decide +kernel) (by decide +kernel)
set_option maxRecDepth 20000 in
theorem gX5_where_X5_isMoment : GoodIn wsX5_where (va_wsS RX5 211 yX5_isMoment wsX5_isMoment) := goodIn_app (goodIn_of _ (by decide +kernel)) ggX5_where_X5_isMoment
set_option maxRecDepth 20000 in
theorem ggX5_where_X5_lasting : GoodIn wsX5_where wsX5_lasting := goodIn_r _ [12, 13, 1, 14, 15, 16, 17, 18, 19, 20, 21, 22, 23, 24, 25, 26, 27, 28, 29, 30, 31, 32, 33, 6, 34, 35, 36, 37, 38, 39, 40, 41, 42, 43, 44, 45, 46, 47, 48, 49, 50, 51, 52, 53, 54, 55, 56, 57, 58, 59] (by decide +kernel) (by decide +kernel)
set_option maxRecDepth 20000 in
theorem gX5_where_X5_lasting : GoodIn wsX5_where (wsV RX5 205 RX5 yX5_lasting wsX5_lasting) := goodIn_app (goodIn_of _ (by decide +kernel)) ggX5_where_X5_lasting
theorem dX5_where_0 : decode cX5_where 0 = .ok (.iload_n 1, 1) := by decide +kernel
theorem dX5_where_1 : decode cX5_where 1 = .ok (.invokestatic 211, 3) := by decide +kernel
theorem dX5_where_4 : decode cX5_where 4 = .ok (.ifCond .eq 12, 3) := by decide +kernel
theorem dX5_where_7 : decode cX5_where 7 = .ok (.iload_n 2, 1) := by decide +kernel
theorem dX5_where_8 : decode cX5_where 8 = .ok (.ifCond .eq 11, 3) := by decide +kernel
theorem dX5_where_11 : decode cX5_where 11 = .ok (.iload_n 2, 1) := by decide +kernel
theorem dX5_where_12 : decode cX5_where 12 = .ok (.iconst 1, 1) := by decide +kernel
theorem dX5_where_13 : decode cX5_where 13 = .ok (.if_icmp .eq 6, 3) := by decide +kernel
theorem dX5_where_16 : decode cX5_where 16 = .ok (.bipush (-2), 2) := by decide +kernel
theorem dX5_where_18 : decode cX5_where 18 = .ok (.ireturn, 1) := by decide +kernel
theorem dX5_where_19 : decode cX5_where 19 = .ok (.lconst 0, 1) := by decide +kernel
theorem dX5_where_20 : decode cX5_where 20 = .ok (.lstore_n 3, 1) := by decide +kernel
theorem dX5_where_21 : decode cX5_where 21 = .ok (.iconst 0, 1) := by decide +kernel
theorem dX5_where_22 : decode cX5_where 22 = .ok (.istore 5, 2) := by decide +kernel
theorem dX5_where_24 : decode cX5_where 24 = .ok (.iload 5, 2) := by decide +kernel
theorem dX5_where_26 : decode cX5_where 26 = .ok (.aload_n 0, 1) := by decide +kernel
theorem dX5_where_27 : decode cX5_where 27 = .ok (.getfield 10, 3) := by decide +kernel
theorem dX5_where_30 : decode cX5_where 30 = .ok (.getfield 52, 3) := by decide +kernel
theorem dX5_where_33 : decode cX5_where 33 = .ok (.if_icmp .ge 49, 3) := by decide +kernel
theorem dX5_where_36 : decode cX5_where 36 = .ok (.lload_n 3, 1) := by decide +kernel
theorem dX5_where_37 : decode cX5_where 37 = .ok (.aload_n 0, 1) := by decide +kernel
theorem dX5_where_38 : decode cX5_where 38 = .ok (.iload 5, 2) := by decide +kernel
theorem dX5_where_40 : decode cX5_where 40 = .ok (.aload_n 0, 1) := by decide +kernel
theorem dX5_where_41 : decode cX5_where 41 = .ok (.getfield 44, 3) := by decide +kernel
theorem dX5_where_44 : decode cX5_where 44 = .ok (.invokevirtual 205, 3) := by decide +kernel
theorem dX5_where_47 : decode cX5_where 47 = .ok (.ladd, 1) := by decide +kernel
theorem dX5_where_48 : decode cX5_where 48 = .ok (.lstore 6, 2) := by decide +kernel
theorem dX5_where_50 : decode cX5_where 50 = .ok (.iload_n 1, 1) := by decide +kernel
theorem dX5_where_51 : decode cX5_where 51 = .ok (.i2l, 1) := by decide +kernel
theorem dX5_where_52 : decode cX5_where 52 = .ok (.lload 6, 2) := by decide +kernel
theorem dX5_where_54 : decode cX5_where 54 = .ok (.lcmp, 1) := by decide +kernel
theorem dX5_where_55 : decode cX5_where 55 = .ok (.ifCond .ge 18, 3) := by decide +kernel
theorem dX5_where_58 : decode cX5_where 58 = .ok (.iload_n 2, 1) := by decide +kernel
theorem dX5_where_59 : decode cX5_where 59 = .ok (.ifCond .ne 8, 3) := by decide +kernel
theorem dX5_where_62 : decode cX5_where 62 = .ok (.iload 5, 2) := by decide +kernel
theorem dX5_where_64 : decode cX5_where 64 = .ok (.goto 8, 3) := by decide +kernel
theorem dX5_where_67 : decode cX5_where 67 = .ok (.iload_n 1, 1) := by decide +kernel
theorem dX5_where_68 : decode cX5_where 68 = .ok (.i2l, 1) := by decide +kernel
theorem dX5_where_69 : decode cX5_where 69 = .ok (.lload_n 3, 1) := by decide +kernel
theorem dX5_where_70 : decode cX5_where 70 = .ok (.lsub, 1) := by decide +kernel
theorem dX5_where_71 : decode cX5_where 71 = .ok (.l2i, 1) := by decide +kernel
theorem dX5_where_72 : decode cX5_where 72 = .ok (.ireturn, 1) := by decide +kernel
theorem dX5_where_73 : decode cX5_where 73 = .ok (.lload 6, 2) := by decide +kernel
theorem dX5_where_75 : decode cX5_where 75 = .ok (.lstore_n 3, 1) := by decide +kernel
theorem dX5_where_76 : decode cX5_where 76 = .ok (.iinc 5 1, 3) := by decide +kernel
theorem dX5_where_79 : decode cX5_where 79 = .ok (.goto (-55), 3) := by decide +kernel
theorem dX5_where_82 : decode cX5_where 82 = .ok (.bipush (-9), 2) := by decide +kernel
theorem dX5_where_84 : decode cX5_where 84 = .ok (.ireturn, 1) := by decide +kernel
set_option maxRecDepth 20000 in
theorem ggX5_within_X5_isMoment : GoodIn wsX5_within wsX5_isMoment := goodIn_r _ [6, 7] (by decide +kernel) (by decide +kernel)
set_option maxRecDepth 20000 in
theorem gX5_within_X5_isMoment : GoodIn wsX5_within (va_wsS RX5 211 yX5_isMoment wsX5_isMoment) := goodIn_app (goodIn_of _ (by decide +kernel)) ggX5_within_X5_isMoment
set_option maxRecDepth 20000 in
theorem ggX5_within_X5_lastingUpTo : GoodIn wsX5_within wsX5_lastingUpTo := goodIn_r _ [11, 12, 13, 14, 5, 15, 16, 1, 17, 18, 19, 20, 21, 22, 23, 24, 25, 26, 27, 28, 29, 30, 31, 32, 33, 34, 35, 36, 37, 38, 39, 40, 41, 42, 43, 44, 45, 46, 47, 48, 49, 50, 51, 52, 53, 54, 55, 56, 57, 58, 59, 60, 61, 62] (by decide +kernel) (by decide +kernel)
set_option maxRecDepth 20000 in
theorem gX5_within_X5_lastingUpTo : GoodIn wsX5_within (wsV RX5 208 RX5 yX5_lastingUpTo wsX5_lastingUpTo) := goodIn_app (goodIn_of _ (by decide +kernel)) ggX5_within_X5_lastingUpTo
theorem dX5_within_0 : decode cX5_within 0 = .ok (.iload_n 1, 1) := by decide +kernel
theorem dX5_within_1 : decode cX5_within 1 = .ok (.invokestatic 211, 3) := by decide +kernel
theorem dX5_within_4 : decode cX5_within 4 = .ok (.ifCond .ne 6, 3) := by decide +kernel
theorem dX5_within_7 : decode cX5_within 7 = .ok (.bipush (-2), 2) := by decide +kernel
theorem dX5_within_9 : decode cX5_within 9 = .ok (.ireturn, 1) := by decide +kernel
theorem dX5_within_10 : decode cX5_within 10 = .ok (.bipush 19, 2) := by decide +kernel
theorem dX5_within_12 : decode cX5_within 12 = .ok (.istore_n 2, 1) := by decide +kernel
theorem dX5_within_13 : decode cX5_within 13 = .ok (.sipush 256, 3) := by decide +kernel
theorem dX5_within_16 : decode cX5_within 16 = .ok (.istore_n 3, 1) := by decide +kernel
theorem dX5_within_17 : decode cX5_within 17 = .ok (.iload_n 3, 1) := by decide +kernel
theorem dX5_within_18 : decode cX5_within 18 = .ok (.ifCond .le 45, 3) := by decide +kernel
theorem dX5_within_21 : decode cX5_within 21 = .ok (.iload_n 2, 1) := by decide +kernel
theorem dX5_within_22 : decode cX5_within 22 = .ok (.iload_n 3, 1) := by decide +kernel
theorem dX5_within_23 : decode cX5_within 23 = .ok (.iadd, 1) := by decide +kernel
theorem dX5_within_24 : decode cX5_within 24 = .ok (.istore 4, 2) := by decide +kernel
theorem dX5_within_26 : decode cX5_within 26 = .ok (.iload 4, 2) := by decide +kernel
theorem dX5_within_28 : decode cX5_within 28 = .ok (.sipush 400, 3) := by decide +kernel
theorem dX5_within_31 : decode cX5_within 31 = .ok (.if_icmp .gt 25, 3) := by decide +kernel
theorem dX5_within_34 : decode cX5_within 34 = .ok (.aload_n 0, 1) := by decide +kernel
theorem dX5_within_35 : decode cX5_within 35 = .ok (.aload_n 0, 1) := by decide +kernel
theorem dX5_within_36 : decode cX5_within 36 = .ok (.getfield 10, 3) := by decide +kernel
theorem dX5_within_39 : decode cX5_within 39 = .ok (.getfield 52, 3) := by decide +kernel
theorem dX5_within_42 : decode cX5_within 42 = .ok (.iload 4, 2) := by decide +kernel
theorem dX5_within_44 : decode cX5_within 44 = .ok (.invokevirtual 208, 3) := by decide +kernel
theorem dX5_within_47 : decode cX5_within 47 = .ok (.iload_n 1, 1) := by decide +kernel
theorem dX5_within_48 : decode cX5_within 48 = .ok (.i2l, 1) := by decide +kernel
theorem dX5_within_49 : decode cX5_within 49 = .ok (.lcmp, 1) := by decide +kernel
theorem dX5_within_50 : decode cX5_within 50 = .ok (.ifCond .le 6, 3) := by decide +kernel
theorem dX5_within_53 : decode cX5_within 53 = .ok (.iload 4, 2) := by decide +kernel
theorem dX5_within_55 : decode cX5_within 55 = .ok (.istore_n 2, 1) := by decide +kernel
theorem dX5_within_56 : decode cX5_within 56 = .ok (.iload_n 3, 1) := by decide +kernel
theorem dX5_within_57 : decode cX5_within 57 = .ok (.iconst 2, 1) := by decide +kernel
theorem dX5_within_58 : decode cX5_within 58 = .ok (.idiv, 1) := by decide +kernel
theorem dX5_within_59 : decode cX5_within 59 = .ok (.istore_n 3, 1) := by decide +kernel
theorem dX5_within_60 : decode cX5_within 60 = .ok (.goto (-43), 3) := by decide +kernel
theorem dX5_within_63 : decode cX5_within 63 = .ok (.iload_n 2, 1) := by decide +kernel
theorem dX5_within_64 : decode cX5_within 64 = .ok (.sipush 400, 3) := by decide +kernel
theorem dX5_within_67 : decode cX5_within 67 = .ok (.if_icmp .ge 9, 3) := by decide +kernel
theorem dX5_within_70 : decode cX5_within 70 = .ok (.iload_n 2, 1) := by decide +kernel
theorem dX5_within_71 : decode cX5_within 71 = .ok (.iconst 1, 1) := by decide +kernel
theorem dX5_within_72 : decode cX5_within 72 = .ok (.iadd, 1) := by decide +kernel
theorem dX5_within_73 : decode cX5_within 73 = .ok (.goto 5, 3) := by decide +kernel
theorem dX5_within_76 : decode cX5_within 76 = .ok (.bipush (-9), 2) := by decide +kernel
theorem dX5_within_78 : decode cX5_within 78 = .ok (.ireturn, 1) := by decide +kernel
set_option maxRecDepth 20000 in
theorem ggX5_pivot_X5_isSection : GoodIn wsX5_pivot wsX5_isSection := goodIn_r _ [7, 8, 9, 48, 49, 50, 51, 52, 53, 54, 55, 56, 57, 58, 59, 60, 61, 62] (by decide +kernel) (by decide +kernel)
set_option maxRecDepth 20000 in
theorem gX5_pivot_X5_isSection : GoodIn wsX5_pivot (wsV RX5 62 RX5 yX5_isSection wsX5_isSection) := goodIn_app (goodIn_of _ (by decide +kernel)) ggX5_pivot_X5_isSection
set_option maxRecDepth 20000 in
theorem ggX5_pivot_X5_isWholeTempo : GoodIn wsX5_pivot wsX5_isWholeTempo := goodIn_r _ [12] (by decide +kernel) (by decide +kernel)
set_option maxRecDepth 20000 in
theorem gX5_pivot_X5_isWholeTempo : GoodIn wsX5_pivot (va_wsS RX5 69 yX5_isWholeTempo wsX5_isWholeTempo) := goodIn_app (goodIn_of _ (by decide +kernel)) ggX5_pivot_X5_isWholeTempo
set_option maxRecDepth 20000 in
theorem ggX5_pivot_X1_isPlayed : GoodIn wsX5_pivot wsX1_isPlayed := goodIn_r _ [17, 18, 63, 64, 65, 66, 67] (by decide +kernel) (by decide +kernel)
set_option maxRecDepth 20000 in
theorem gX5_pivot_X1_isPlayed : GoodIn wsX5_pivot (wsV RX5 139 RX1 yX1_isPlayed wsX1_isPlayed) := goodIn_app (goodIn_of _ (by decide +kernel)) ggX5_pivot_X1_isPlayed
set_option maxRecDepth 20000 in
theorem ggX5_pivot_X5_tempoPart : GoodIn wsX5_pivot wsX5_tempoPart := goodIn_r _ [22, 1, 23, 24, 25, 26, 16, 27, 28, 29, 30, 6, 31, 32, 33, 34, 35, 36, 37, 38, 39, 40, 41, 42, 43, 44, 45, 46, 47, 48, 49, 50, 51, 52, 53, 63, 64, 65, 66, 67] (by decide +kernel) (by decide +kernel)
set_option maxRecDepth 20000 in
theorem gX5_pivot_X5_tempoPart : GoodIn wsX5_pivot (wsV RX5 142 RX5 yX5_tempoPart wsX5_tempoPart) := goodIn_app (goodIn_of _ (by decide +kernel)) ggX5_pivot_X5_tempoPart
theorem dX5_pivot_0 : decode cX5_pivot 0 = .ok (.aload_n 0, 1) := by decide +kernel
theorem dX5_pivot_1 : decode cX5_pivot 1 = .ok (.iload_n 1, 1) := by decide +kernel
theorem dX5_pivot_2 : decode cX5_pivot 2 = .ok (.invokevirtual 62, 3) := by decide +kernel
theorem dX5_pivot_5 : decode cX5_pivot 5 = .ok (.ifCond .ne 5, 3) := by decide +kernel
theorem dX5_pivot_8 : decode cX5_pivot 8 = .ok (.iconst (-1), 1) := by decide +kernel
theorem dX5_pivot_9 : decode cX5_pivot 9 = .ok (.ireturn, 1) := by decide +kernel
theorem dX5_pivot_10 : decode cX5_pivot 10 = .ok (.iload_n 2, 1) := by decide +kernel
theorem dX5_pivot_11 : decode cX5_pivot 11 = .ok (.invokestatic 69, 3) := by decide +kernel
theorem dX5_pivot_14 : decode cX5_pivot 14 = .ok (.ifCond .eq 15, 3) := by decide +kernel
theorem dX5_pivot_17 : decode cX5_pivot 17 = .ok (.iload_n 3, 1) := by decide +kernel
theorem dX5_pivot_18 : decode cX5_pivot 18 = .ok (.iconst (-1), 1) := by decide +kernel
theorem dX5_pivot_19 : decode cX5_pivot 19 = .ok (.if_icmp .lt 10, 3) := by decide +kernel
theorem dX5_pivot_22 : decode cX5_pivot 22 = .ok (.iload_n 3, 1) := by decide +kernel
theorem dX5_pivot_23 : decode cX5_pivot 23 = .ok (.sipush 399, 3) := by decide +kernel
theorem dX5_pivot_26 : decode cX5_pivot 26 = .ok (.if_icmp .le 6, 3) := by decide +kernel
theorem dX5_pivot_29 : decode cX5_pivot 29 = .ok (.bipush (-2), 2) := by decide +kernel
theorem dX5_pivot_31 : decode cX5_pivot 31 = .ok (.ireturn, 1) := by decide +kernel
theorem dX5_pivot_32 : decode cX5_pivot 32 = .ok (.aload_n 0, 1) := by decide +kernel
theorem dX5_pivot_33 : decode cX5_pivot 33 = .ok (.getfield 19, 3) := by decide +kernel
theorem dX5_pivot_36 : decode cX5_pivot 36 = .ok (.iload_n 1, 1) := by decide +kernel
theorem dX5_pivot_37 : decode cX5_pivot 37 = .ok (.invokevirtual 139, 3) := by decide +kernel
theorem dX5_pivot_40 : decode cX5_pivot 40 = .ok (.ifCond .ne 6, 3) := by decide +kernel
theorem dX5_pivot_43 : decode cX5_pivot 43 = .ok (.bipush (-3), 2) := by decide +kernel
theorem dX5_pivot_45 : decode cX5_pivot 45 = .ok (.ireturn, 1) := by decide +kernel
theorem dX5_pivot_46 : decode cX5_pivot 46 = .ok (.aload_n 0, 1) := by decide +kernel
theorem dX5_pivot_47 : decode cX5_pivot 47 = .ok (.iload_n 1, 1) := by decide +kernel
theorem dX5_pivot_48 : decode cX5_pivot 48 = .ok (.iconst 0, 1) := by decide +kernel
theorem dX5_pivot_49 : decode cX5_pivot 49 = .ok (.invokevirtual 142, 3) := by decide +kernel
theorem dX5_pivot_52 : decode cX5_pivot 52 = .ok (.lstore 4, 2) := by decide +kernel
theorem dX5_pivot_54 : decode cX5_pivot 54 = .ok (.iload_n 2, 1) := by decide +kernel
theorem dX5_pivot_55 : decode cX5_pivot 55 = .ok (.i2l, 1) := by decide +kernel
theorem dX5_pivot_56 : decode cX5_pivot 56 = .ok (.aload_n 0, 1) := by decide +kernel
theorem dX5_pivot_57 : decode cX5_pivot 57 = .ok (.iload_n 1, 1) := by decide +kernel
theorem dX5_pivot_58 : decode cX5_pivot 58 = .ok (.iconst 1, 1) := by decide +kernel
theorem dX5_pivot_59 : decode cX5_pivot 59 = .ok (.invokevirtual 142, 3) := by decide +kernel
theorem dX5_pivot_62 : decode cX5_pivot 62 = .ok (.lmul, 1) := by decide +kernel
theorem dX5_pivot_63 : decode cX5_pivot 63 = .ok (.lstore 6, 2) := by decide +kernel
theorem dX5_pivot_65 : decode cX5_pivot 65 = .ok (.iconst 0, 1) := by decide +kernel
theorem dX5_pivot_66 : decode cX5_pivot 66 = .ok (.istore 8, 2) := by decide +kernel
theorem dX5_pivot_68 : decode cX5_pivot 68 = .ok (.iconst 0, 1) := by decide +kernel
theorem dX5_pivot_69 : decode cX5_pivot 69 = .ok (.istore 9, 2) := by decide +kernel
theorem dX5_pivot_71 : decode cX5_pivot 71 = .ok (.iload 9, 2) := by decide +kernel
theorem dX5_pivot_73 : decode cX5_pivot 73 = .ok (.bipush 20, 2) := by decide +kernel
theorem dX5_pivot_75 : decode cX5_pivot 75 = .ok (.if_icmp .ge 67, 3) := by decide +kernel
theorem dX5_pivot_78 : decode cX5_pivot 78 = .ok (.iconst 0, 1) := by decide +kernel
theorem dX5_pivot_79 : decode cX5_pivot 79 = .ok (.istore 10, 2) := by decide +kernel
theorem dX5_pivot_81 : decode cX5_pivot 81 = .ok (.iload 10, 2) := by decide +kernel
theorem dX5_pivot_83 : decode cX5_pivot 83 = .ok (.bipush 20, 2) := by decide +kernel
theorem dX5_pivot_85 : decode cX5_pivot 85 = .ok (.if_icmp .ge 51, 3) := by decide +kernel
theorem dX5_pivot_88 : decode cX5_pivot 88 = .ok (.lload 4, 2) := by decide +kernel
theorem dX5_pivot_90 : decode cX5_pivot 90 = .ok (.getstatic 98, 3) := by decide +kernel
theorem dX5_pivot_93 : decode cX5_pivot 93 = .ok (.iload 10, 2) := by decide +kernel
theorem dX5_pivot_95 : decode cX5_pivot 95 = .ok (.iaload, 1) := by decide +kernel
theorem dX5_pivot_96 : decode cX5_pivot 96 = .ok (.i2l, 1) := by decide +kernel
theorem dX5_pivot_97 : decode cX5_pivot 97 = .ok (.lmul, 1) := by decide +kernel
theorem dX5_pivot_98 : decode cX5_pivot 98 = .ok (.lload 6, 2) := by decide +kernel
theorem dX5_pivot_100 : decode cX5_pivot 100 = .ok (.getstatic 98, 3) := by decide +kernel
theorem dX5_pivot_103 : decode cX5_pivot 103 = .ok (.iload 9, 2) := by decide +kernel
theorem dX5_pivot_105 : decode cX5_pivot 105 = .ok (.iaload, 1) := by decide +kernel
theorem dX5_pivot_106 : decode cX5_pivot 106 = .ok (.i2l, 1) := by decide +kernel
theorem dX5_pivot_107 : decode cX5_pivot 107 = .ok (.lmul, 1) := by decide +kernel
theorem dX5_pivot_108 : decode cX5_pivot 108 = .ok (.lcmp, 1) := by decide +kernel
theorem dX5_pivot_109 : decode cX5_pivot 109 = .ok (.ifCond .ne 21, 3) := by decide +kernel
theorem dX5_pivot_112 : decode cX5_pivot 112 = .ok (.iload 8, 2) := by decide +kernel
theorem dX5_pivot_114 : decode cX5_pivot 114 = .ok (.iload_n 3, 1) := by decide +kernel
theorem dX5_pivot_115 : decode cX5_pivot 115 = .ok (.if_icmp .ne 12, 3) := by decide +kernel
theorem dX5_pivot_118 : decode cX5_pivot 118 = .ok (.bipush 100, 2) := by decide +kernel
theorem dX5_pivot_120 : decode cX5_pivot 120 = .ok (.iload 9, 2) := by decide +kernel
theorem dX5_pivot_122 : decode cX5_pivot 122 = .ok (.imul, 1) := by decide +kernel
theorem dX5_pivot_123 : decode cX5_pivot 123 = .ok (.iload 10, 2) := by decide +kernel
theorem dX5_pivot_125 : decode cX5_pivot 125 = .ok (.iadd, 1) := by decide +kernel
theorem dX5_pivot_126 : decode cX5_pivot 126 = .ok (.ireturn, 1) := by decide +kernel
theorem dX5_pivot_127 : decode cX5_pivot 127 = .ok (.iinc 8 1, 3) := by decide +kernel
theorem dX5_pivot_130 : decode cX5_pivot 130 = .ok (.iinc 10 1, 3) := by decide +kernel
theorem dX5_pivot_133 : decode cX5_pivot 133 = .ok (.goto (-52), 3) := by decide +kernel
theorem dX5_pivot_136 : decode cX5_pivot 136 = .ok (.iinc 9 1, 3) := by decide +kernel
theorem dX5_pivot_139 : decode cX5_pivot 139 = .ok (.goto (-68), 3) := by decide +kernel
theorem dX5_pivot_142 : decode cX5_pivot 142 = .ok (.iload_n 3, 1) := by decide +kernel
theorem dX5_pivot_143 : decode cX5_pivot 143 = .ok (.iconst (-1), 1) := by decide +kernel
theorem dX5_pivot_144 : decode cX5_pivot 144 = .ok (.if_icmp .ne 8, 3) := by decide +kernel
theorem dX5_pivot_147 : decode cX5_pivot 147 = .ok (.iload 8, 2) := by decide +kernel
theorem dX5_pivot_149 : decode cX5_pivot 149 = .ok (.goto 5, 3) := by decide +kernel
theorem dX5_pivot_152 : decode cX5_pivot 152 = .ok (.bipush (-9), 2) := by decide +kernel
theorem dX5_pivot_154 : decode cX5_pivot 154 = .ok (.ireturn, 1) := by decide +kernel
set_option maxRecDepth 20000 in
theorem ggX5_pivots_X5_isWholeTempo : GoodIn wsX5_pivots wsX5_isWholeTempo := goodIn_r _ [8] (by decide +kernel) (by decide +kernel)
set_option maxRecDepth 20000 in
theorem gX5_pivots_X5_isWholeTempo : GoodIn wsX5_pivots (va_wsS RX5 69 yX5_isWholeTempo wsX5_isWholeTempo) := goodIn_app (goodIn_of _ (by decide +kernel)) ggX5_pivots_X5_isWholeTempo
set_option maxRecDepth 20000 in
theorem ggX5_pivots_X4_find : GoodIn wsX5_pivots wsX4_find := goodIn_r _ [13, 14, 15, 16, 17, 18, 19, 7, 20, 21, 22, 23, 24, 25, 26, 27, 28, 29, 30, 31, 12, 32, 33, 34, 35, 36, 37, 38, 39, 40, 41, 42, 43, 44, 45, 46, 47, 48, 49, 50, 51, 52, 53, 54, 55, 56, 57, 58, 59, 60, 61, 62, 63, 64, 65, 66, 67, 68, 69, 70, 71, 72, 73, 74, 75, 76, 77, 78, 79, 86, 87, 88, 89, 90, 91, 92, 93, 94, 95] (by decide +kernel) (by decide +kernel)
set_option maxRecDepth 20000 in
theorem gX5_pivots_X4_find : GoodIn wsX5_pivots (wsV RX5 215 RX4 yX4_find wsX4_find) := goodIn_app (goodIn_of _ (by decide +kernel)) ggX5_pivots_X4_find
theorem dX5_pivots_0 : decode cX5_pivots 0 = .ok (.iload_n 1, 1) := by decide +kernel
theorem dX5_pivots_1 : decode cX5_pivots 1 = .ok (.invokestatic 69, 3) := by decide +kernel
theorem dX5_pivots_4 : decode cX5_pivots 4 = .ok (.ifCond .eq 20, 3) := by decide +kernel
theorem dX5_pivots_7 : decode cX5_pivots 7 = .ok (.iload_n 2, 1) := by decide +kernel
theorem dX5_pivots_8 : decode cX5_pivots 8 = .ok (.invokestatic 69, 3) := by decide +kernel
theorem dX5_pivots_11 : decode cX5_pivots 11 = .ok (.ifCond .eq 13, 3) := by decide +kernel
theorem dX5_pivots_14 : decode cX5_pivots 14 = .ok (.iload_n 3, 1) := by decide +kernel
theorem dX5_pivots_15 : decode cX5_pivots 15 = .ok (.ifCond .lt 9, 3) := by decide +kernel
theorem dX5_pivots_18 : decode cX5_pivots 18 = .ok (.iload_n 3, 1) := by decide +kernel
theorem dX5_pivots_19 : decode cX5_pivots 19 = .ok (.ldc 214, 2) := by decide +kernel
theorem dX5_pivots_21 : decode cX5_pivots 21 = .ok (.if_icmp .le 6, 3) := by decide +kernel
theorem dX5_pivots_24 : decode cX5_pivots 24 = .ok (.bipush (-2), 2) := by decide +kernel
theorem dX5_pivots_26 : decode cX5_pivots 26 = .ok (.ireturn, 1) := by decide +kernel
theorem dX5_pivots_27 : decode cX5_pivots 27 = .ok (.iload 4, 2) := by decide +kernel
theorem dX5_pivots_29 : decode cX5_pivots 29 = .ok (.iconst (-1), 1) := by decide +kernel
theorem dX5_pivots_30 : decode cX5_pivots 30 = .ok (.if_icmp .lt 9, 3) := by decide +kernel
theorem dX5_pivots_33 : decode cX5_pivots 33 = .ok (.iload 4, 2) := by decide +kernel
theorem dX5_pivots_35 : decode cX5_pivots 35 = .ok (.iconst 5, 1) := by decide +kernel
theorem dX5_pivots_36 : decode cX5_pivots 36 = .ok (.if_icmp .lt 6, 3) := by decide +kernel
theorem dX5_pivots_39 : decode cX5_pivots 39 = .ok (.bipush (-2), 2) := by decide +kernel
theorem dX5_pivots_41 : decode cX5_pivots 41 = .ok (.ireturn, 1) := by decide +kernel
theorem dX5_pivots_42 : decode cX5_pivots 42 = .ok (.aload_n 0, 1) := by decide +kernel
theorem dX5_pivots_43 : decode cX5_pivots 43 = .ok (.getfield 40, 3) := by decide +kernel
theorem dX5_pivots_46 : decode cX5_pivots 46 = .ok (.iload_n 1, 1) := by decide +kernel
theorem dX5_pivots_47 : decode cX5_pivots 47 = .ok (.iload_n 2, 1) := by decide +kernel
theorem dX5_pivots_48 : decode cX5_pivots 48 = .ok (.iload_n 3, 1) := by decide +kernel
theorem dX5_pivots_49 : decode cX5_pivots 49 = .ok (.invokevirtual 215, 3) := by decide +kernel
theorem dX5_pivots_52 : decode cX5_pivots 52 = .ok (.iload 4, 2) := by decide +kernel
theorem dX5_pivots_54 : decode cX5_pivots 54 = .ok (.iconst (-1), 1) := by decide +kernel
theorem dX5_pivots_55 : decode cX5_pivots 55 = .ok (.if_icmp .ne 11, 3) := by decide +kernel
theorem dX5_pivots_58 : decode cX5_pivots 58 = .ok (.aload_n 0, 1) := by decide +kernel
theorem dX5_pivots_59 : decode cX5_pivots 59 = .ok (.getfield 40, 3) := by decide +kernel
theorem dX5_pivots_62 : decode cX5_pivots 62 = .ok (.getfield 218, 3) := by decide +kernel
theorem dX5_pivots_65 : decode cX5_pivots 65 = .ok (.ireturn, 1) := by decide +kernel
theorem dX5_pivots_66 : decode cX5_pivots 66 = .ok (.iload 4, 2) := by decide +kernel
theorem dX5_pivots_68 : decode cX5_pivots 68 = .ok (.aload_n 0, 1) := by decide +kernel
theorem dX5_pivots_69 : decode cX5_pivots 69 = .ok (.getfield 40, 3) := by decide +kernel
theorem dX5_pivots_72 : decode cX5_pivots 72 = .ok (.getfield 218, 3) := by decide +kernel
theorem dX5_pivots_75 : decode cX5_pivots 75 = .ok (.if_icmp .ge 16, 3) := by decide +kernel
theorem dX5_pivots_78 : decode cX5_pivots 78 = .ok (.aload_n 0, 1) := by decide +kernel
theorem dX5_pivots_79 : decode cX5_pivots 79 = .ok (.getfield 40, 3) := by decide +kernel
theorem dX5_pivots_82 : decode cX5_pivots 82 = .ok (.getfield 221, 3) := by decide +kernel
theorem dX5_pivots_85 : decode cX5_pivots 85 = .ok (.iload 4, 2) := by decide +kernel
theorem dX5_pivots_87 : decode cX5_pivots 87 = .ok (.iaload, 1) := by decide +kernel
theorem dX5_pivots_88 : decode cX5_pivots 88 = .ok (.goto 5, 3) := by decide +kernel
theorem dX5_pivots_91 : decode cX5_pivots 91 = .ok (.bipush (-9), 2) := by decide +kernel
theorem dX5_pivots_93 : decode cX5_pivots 93 = .ok (.ireturn, 1) := by decide +kernel
set_option maxRecDepth 20000 in
theorem ggX5_many_X1_countOf : GoodIn wsX5_many wsX1_countOf := goodIn_r _ [12, 13, 52, 53, 54, 55, 56] (by decide +kernel) (by decide +kernel)
set_option maxRecDepth 20000 in
theorem gX5_many_X1_countOf : GoodIn wsX5_many (wsV RX5 224 RX1 yX1_countOf wsX1_countOf) := goodIn_app (goodIn_of _ (by decide +kernel)) ggX5_many_X1_countOf
set_option maxRecDepth 20000 in
theorem ggX5_many_X5_pinsThatHold : GoodIn wsX5_many wsX5_pinsThatHold := goodIn_r _ [18, 1, 2, 19, 20, 21, 17, 22, 23, 5, 24, 25, 26, 27, 28, 29, 30, 31, 32, 33, 34, 35, 36, 37, 38, 39, 40, 41, 42, 43, 44, 45, 46, 47, 48, 49, 50, 51] (by decide +kernel) (by decide +kernel)
set_option maxRecDepth 20000 in
theorem gX5_many_X5_pinsThatHold : GoodIn wsX5_many (wsV RX5 227 RX5 yX5_pinsThatHold wsX5_pinsThatHold) := goodIn_app (goodIn_of _ (by decide +kernel)) ggX5_many_X5_pinsThatHold
theorem dX5_many_0 : decode cX5_many 0 = .ok (.iload_n 1, 1) := by decide +kernel
theorem dX5_many_1 : decode cX5_many 1 = .ok (.tableswitch 157 0 8 #[51, 59, 67, 83, 99, 115, 139, 147, 152], 51) := by decide +kernel
theorem dX5_many_52 : decode cX5_many 52 = .ok (.aload_n 0, 1) := by decide +kernel
theorem dX5_many_53 : decode cX5_many 53 = .ok (.getfield 10, 3) := by decide +kernel
theorem dX5_many_56 : decode cX5_many 56 = .ok (.getfield 52, 3) := by decide +kernel
theorem dX5_many_59 : decode cX5_many 59 = .ok (.ireturn, 1) := by decide +kernel
theorem dX5_many_60 : decode cX5_many 60 = .ok (.aload_n 0, 1) := by decide +kernel
theorem dX5_many_61 : decode cX5_many 61 = .ok (.getfield 10, 3) := by decide +kernel
theorem dX5_many_64 : decode cX5_many 64 = .ok (.getfield 78, 3) := by decide +kernel
theorem dX5_many_67 : decode cX5_many 67 = .ok (.ireturn, 1) := by decide +kernel
theorem dX5_many_68 : decode cX5_many 68 = .ok (.aload_n 0, 1) := by decide +kernel
theorem dX5_many_69 : decode cX5_many 69 = .ok (.getfield 19, 3) := by decide +kernel
theorem dX5_many_72 : decode cX5_many 72 = .ok (.iconst 0, 1) := by decide +kernel
theorem dX5_many_73 : decode cX5_many 73 = .ok (.aload_n 0, 1) := by decide +kernel
theorem dX5_many_74 : decode cX5_many 74 = .ok (.getfield 10, 3) := by decide +kernel
theorem dX5_many_77 : decode cX5_many 77 = .ok (.getfield 78, 3) := by decide +kernel
theorem dX5_many_80 : decode cX5_many 80 = .ok (.invokevirtual 224, 3) := by decide +kernel
theorem dX5_many_83 : decode cX5_many 83 = .ok (.ireturn, 1) := by decide +kernel
theorem dX5_many_84 : decode cX5_many 84 = .ok (.aload_n 0, 1) := by decide +kernel
theorem dX5_many_85 : decode cX5_many 85 = .ok (.getfield 19, 3) := by decide +kernel
theorem dX5_many_88 : decode cX5_many 88 = .ok (.iconst 1, 1) := by decide +kernel
theorem dX5_many_89 : decode cX5_many 89 = .ok (.aload_n 0, 1) := by decide +kernel
theorem dX5_many_90 : decode cX5_many 90 = .ok (.getfield 10, 3) := by decide +kernel
theorem dX5_many_93 : decode cX5_many 93 = .ok (.getfield 78, 3) := by decide +kernel
theorem dX5_many_96 : decode cX5_many 96 = .ok (.invokevirtual 224, 3) := by decide +kernel
theorem dX5_many_99 : decode cX5_many 99 = .ok (.ireturn, 1) := by decide +kernel
theorem dX5_many_100 : decode cX5_many 100 = .ok (.aload_n 0, 1) := by decide +kernel
theorem dX5_many_101 : decode cX5_many 101 = .ok (.getfield 19, 3) := by decide +kernel
theorem dX5_many_104 : decode cX5_many 104 = .ok (.iconst 2, 1) := by decide +kernel
theorem dX5_many_105 : decode cX5_many 105 = .ok (.aload_n 0, 1) := by decide +kernel
theorem dX5_many_106 : decode cX5_many 106 = .ok (.getfield 10, 3) := by decide +kernel
theorem dX5_many_109 : decode cX5_many 109 = .ok (.getfield 78, 3) := by decide +kernel
theorem dX5_many_112 : decode cX5_many 112 = .ok (.invokevirtual 224, 3) := by decide +kernel
theorem dX5_many_115 : decode cX5_many 115 = .ok (.ireturn, 1) := by decide +kernel
theorem dX5_many_116 : decode cX5_many 116 = .ok (.aload_n 0, 1) := by decide +kernel
theorem dX5_many_117 : decode cX5_many 117 = .ok (.getfield 10, 3) := by decide +kernel
theorem dX5_many_120 : decode cX5_many 120 = .ok (.getfield 52, 3) := by decide +kernel
theorem dX5_many_123 : decode cX5_many 123 = .ok (.aload_n 0, 1) := by decide +kernel
theorem dX5_many_124 : decode cX5_many 124 = .ok (.getfield 19, 3) := by decide +kernel
theorem dX5_many_127 : decode cX5_many 127 = .ok (.iconst 0, 1) := by decide +kernel
theorem dX5_many_128 : decode cX5_many 128 = .ok (.aload_n 0, 1) := by decide +kernel
theorem dX5_many_129 : decode cX5_many 129 = .ok (.getfield 10, 3) := by decide +kernel
theorem dX5_many_132 : decode cX5_many 132 = .ok (.getfield 78, 3) := by decide +kernel
theorem dX5_many_135 : decode cX5_many 135 = .ok (.invokevirtual 224, 3) := by decide +kernel
theorem dX5_many_138 : decode cX5_many 138 = .ok (.isub, 1) := by decide +kernel
theorem dX5_many_139 : decode cX5_many 139 = .ok (.ireturn, 1) := by decide +kernel
theorem dX5_many_140 : decode cX5_many 140 = .ok (.aload_n 0, 1) := by decide +kernel
theorem dX5_many_141 : decode cX5_many 141 = .ok (.getfield 26, 3) := by decide +kernel
theorem dX5_many_144 : decode cX5_many 144 = .ok (.getfield 170, 3) := by decide +kernel
theorem dX5_many_147 : decode cX5_many 147 = .ok (.ireturn, 1) := by decide +kernel
theorem dX5_many_148 : decode cX5_many 148 = .ok (.aload_n 0, 1) := by decide +kernel
theorem dX5_many_149 : decode cX5_many 149 = .ok (.invokevirtual 227, 3) := by decide +kernel
theorem dX5_many_152 : decode cX5_many 152 = .ok (.ireturn, 1) := by decide +kernel
theorem dX5_many_153 : decode cX5_many 153 = .ok (.aload_n 0, 1) := by decide +kernel
theorem dX5_many_154 : decode cX5_many 154 = .ok (.getfield 44, 3) := by decide +kernel
theorem dX5_many_157 : decode cX5_many 157 = .ok (.ireturn, 1) := by decide +kernel
theorem dX5_many_158 : decode cX5_many 158 = .ok (.bipush (-2), 2) := by decide +kernel
theorem dX5_many_160 : decode cX5_many 160 = .ok (.ireturn, 1) := by decide +kernel
theorem dX5_isSection_0 : decode cX5_isSection 0 = .ok (.iload_n 1, 1) := by decide +kernel
theorem dX5_isSection_1 : decode cX5_isSection 1 = .ok (.ifCond .lt 18, 3) := by decide +kernel
theorem dX5_isSection_4 : decode cX5_isSection 4 = .ok (.iload_n 1, 1) := by decide +kernel
theorem dX5_isSection_5 : decode cX5_isSection 5 = .ok (.aload_n 0, 1) := by decide +kernel
theorem dX5_isSection_6 : decode cX5_isSection 6 = .ok (.getfield 10, 3) := by decide +kernel
theorem dX5_isSection_9 : decode cX5_isSection 9 = .ok (.getfield 52, 3) := by decide +kernel
theorem dX5_isSection_12 : decode cX5_isSection 12 = .ok (.if_icmp .ge 7, 3) := by decide +kernel
theorem dX5_isSection_15 : decode cX5_isSection 15 = .ok (.iconst 1, 1) := by decide +kernel
theorem dX5_isSection_16 : decode cX5_isSection 16 = .ok (.goto 4, 3) := by decide +kernel
theorem dX5_isSection_19 : decode cX5_isSection 19 = .ok (.iconst 0, 1) := by decide +kernel
theorem dX5_isSection_20 : decode cX5_isSection 20 = .ok (.ireturn, 1) := by decide +kernel
theorem dX5_isTie_0 : decode cX5_isTie 0 = .ok (.iload_n 1, 1) := by decide +kernel
theorem dX5_isTie_1 : decode cX5_isTie 1 = .ok (.ifCond .lt 18, 3) := by decide +kernel
theorem dX5_isTie_4 : decode cX5_isTie 4 = .ok (.iload_n 1, 1) := by decide +kernel
theorem dX5_isTie_5 : decode cX5_isTie 5 = .ok (.aload_n 0, 1) := by decide +kernel
theorem dX5_isTie_6 : decode cX5_isTie 6 = .ok (.getfield 10, 3) := by decide +kernel
theorem dX5_isTie_9 : decode cX5_isTie 9 = .ok (.getfield 78, 3) := by decide +kernel
theorem dX5_isTie_12 : decode cX5_isTie 12 = .ok (.if_icmp .ge 7, 3) := by decide +kernel
theorem dX5_isTie_15 : decode cX5_isTie 15 = .ok (.iconst 1, 1) := by decide +kernel
theorem dX5_isTie_16 : decode cX5_isTie 16 = .ok (.goto 4, 3) := by decide +kernel
theorem dX5_isTie_19 : decode cX5_isTie 19 = .ok (.iconst 0, 1) := by decide +kernel
theorem dX5_isTie_20 : decode cX5_isTie 20 = .ok (.ireturn, 1) := by decide +kernel
theorem dX5_isValue_0 : decode cX5_isValue 0 = .ok (.iload_n 0, 1) := by decide +kernel
theorem dX5_isValue_1 : decode cX5_isValue 1 = .ok (.ifCond .lt 13, 3) := by decide +kernel
theorem dX5_isValue_4 : decode cX5_isValue 4 = .ok (.iload_n 0, 1) := by decide +kernel
theorem dX5_isValue_5 : decode cX5_isValue 5 = .ok (.bipush 20, 2) := by decide +kernel
theorem dX5_isValue_7 : decode cX5_isValue 7 = .ok (.if_icmp .ge 7, 3) := by decide +kernel
theorem dX5_isValue_10 : decode cX5_isValue 10 = .ok (.iconst 1, 1) := by decide +kernel
theorem dX5_isValue_11 : decode cX5_isValue 11 = .ok (.goto 4, 3) := by decide +kernel
theorem dX5_isValue_14 : decode cX5_isValue 14 = .ok (.iconst 0, 1) := by decide +kernel
theorem dX5_isValue_15 : decode cX5_isValue 15 = .ok (.ireturn, 1) := by decide +kernel
theorem dX5_isBeats_0 : decode cX5_isBeats 0 = .ok (.iload_n 0, 1) := by decide +kernel
theorem dX5_isBeats_1 : decode cX5_isBeats 1 = .ok (.iconst 1, 1) := by decide +kernel
theorem dX5_isBeats_2 : decode cX5_isBeats 2 = .ok (.if_icmp .lt 13, 3) := by decide +kernel
theorem dX5_isBeats_5 : decode cX5_isBeats 5 = .ok (.iload_n 0, 1) := by decide +kernel
theorem dX5_isBeats_6 : decode cX5_isBeats 6 = .ok (.bipush 99, 2) := by decide +kernel
theorem dX5_isBeats_8 : decode cX5_isBeats 8 = .ok (.if_icmp .gt 7, 3) := by decide +kernel
theorem dX5_isBeats_11 : decode cX5_isBeats 11 = .ok (.iconst 1, 1) := by decide +kernel
theorem dX5_isBeats_12 : decode cX5_isBeats 12 = .ok (.goto 4, 3) := by decide +kernel
theorem dX5_isBeats_15 : decode cX5_isBeats 15 = .ok (.iconst 0, 1) := by decide +kernel
theorem dX5_isBeats_16 : decode cX5_isBeats 16 = .ok (.ireturn, 1) := by decide +kernel
theorem dX5_isEar_0 : decode cX5_isEar 0 = .ok (.iload_n 0, 1) := by decide +kernel
theorem dX5_isEar_1 : decode cX5_isEar 1 = .ok (.ifCond .lt 13, 3) := by decide +kernel
theorem dX5_isEar_4 : decode cX5_isEar 4 = .ok (.iload_n 0, 1) := by decide +kernel
theorem dX5_isEar_5 : decode cX5_isEar 5 = .ok (.bipush 9, 2) := by decide +kernel
theorem dX5_isEar_7 : decode cX5_isEar 7 = .ok (.if_icmp .gt 7, 3) := by decide +kernel
theorem dX5_isEar_10 : decode cX5_isEar 10 = .ok (.iconst 1, 1) := by decide +kernel
theorem dX5_isEar_11 : decode cX5_isEar 11 = .ok (.goto 4, 3) := by decide +kernel
theorem dX5_isEar_14 : decode cX5_isEar 14 = .ok (.iconst 0, 1) := by decide +kernel
theorem dX5_isEar_15 : decode cX5_isEar 15 = .ok (.ireturn, 1) := by decide +kernel
theorem dX5_isWhich_0 : decode cX5_isWhich 0 = .ok (.iload_n 0, 1) := by decide +kernel
theorem dX5_isWhich_1 : decode cX5_isWhich 1 = .ok (.ifCond .eq 8, 3) := by decide +kernel
theorem dX5_isWhich_4 : decode cX5_isWhich 4 = .ok (.iload_n 0, 1) := by decide +kernel
theorem dX5_isWhich_5 : decode cX5_isWhich 5 = .ok (.iconst 1, 1) := by decide +kernel
theorem dX5_isWhich_6 : decode cX5_isWhich 6 = .ok (.if_icmp .ne 7, 3) := by decide +kernel
theorem dX5_isWhich_9 : decode cX5_isWhich 9 = .ok (.iconst 1, 1) := by decide +kernel
theorem dX5_isWhich_10 : decode cX5_isWhich 10 = .ok (.goto 4, 3) := by decide +kernel
theorem dX5_isWhich_13 : decode cX5_isWhich 13 = .ok (.iconst 0, 1) := by decide +kernel
theorem dX5_isWhich_14 : decode cX5_isWhich 14 = .ok (.ireturn, 1) := by decide +kernel
theorem dX5_isWholeTempo_0 : decode cX5_isWholeTempo 0 = .ok (.iload_n 0, 1) := by decide +kernel
theorem dX5_isWholeTempo_1 : decode cX5_isWholeTempo 1 = .ok (.bipush 20, 2) := by decide +kernel
theorem dX5_isWholeTempo_3 : decode cX5_isWholeTempo 3 = .ok (.if_icmp .lt 14, 3) := by decide +kernel
theorem dX5_isWholeTempo_6 : decode cX5_isWholeTempo 6 = .ok (.iload_n 0, 1) := by decide +kernel
theorem dX5_isWholeTempo_7 : decode cX5_isWholeTempo 7 = .ok (.sipush 400, 3) := by decide +kernel
theorem dX5_isWholeTempo_10 : decode cX5_isWholeTempo 10 = .ok (.if_icmp .gt 7, 3) := by decide +kernel
theorem dX5_isWholeTempo_13 : decode cX5_isWholeTempo 13 = .ok (.iconst 1, 1) := by decide +kernel
theorem dX5_isWholeTempo_14 : decode cX5_isWholeTempo 14 = .ok (.goto 4, 3) := by decide +kernel
theorem dX5_isWholeTempo_17 : decode cX5_isWholeTempo 17 = .ok (.iconst 0, 1) := by decide +kernel
theorem dX5_isWholeTempo_18 : decode cX5_isWholeTempo 18 = .ok (.ireturn, 1) := by decide +kernel
theorem dX5_isMoment_0 : decode cX5_isMoment 0 = .ok (.iload_n 0, 1) := by decide +kernel
theorem dX5_isMoment_1 : decode cX5_isMoment 1 = .ok (.ifCond .lt 13, 3) := by decide +kernel
theorem dX5_isMoment_4 : decode cX5_isMoment 4 = .ok (.iload_n 0, 1) := by decide +kernel
theorem dX5_isMoment_5 : decode cX5_isMoment 5 = .ok (.ldc 231, 2) := by decide +kernel
theorem dX5_isMoment_7 : decode cX5_isMoment 7 = .ok (.if_icmp .gt 7, 3) := by decide +kernel
theorem dX5_isMoment_10 : decode cX5_isMoment 10 = .ok (.iconst 1, 1) := by decide +kernel
theorem dX5_isMoment_11 : decode cX5_isMoment 11 = .ok (.goto 4, 3) := by decide +kernel
theorem dX5_isMoment_14 : decode cX5_isMoment 14 = .ok (.iconst 0, 1) := by decide +kernel
theorem dX5_isMoment_15 : decode cX5_isMoment 15 = .ok (.ireturn, 1) := by decide +kernel
set_option maxRecDepth 20000 in
theorem ggX5_tiesChanged_X1_follow : GoodIn wsX5_tiesChanged wsX1_follow := goodIn_r _ [8, 9, 10, 11, 12, 13, 14, 15, 16, 17, 7, 18, 19, 20, 21, 22, 23, 24, 25, 26, 27, 28, 29, 30, 31, 32, 33, 34, 35, 36, 37, 38, 39, 40, 41, 42, 43, 44, 45, 46, 47, 60, 61, 62, 63, 64, 65, 66, 67, 68, 69, 70, 71, 72, 73] (by decide +kernel) (by decide +kernel)
set_option maxRecDepth 20000 in
theorem gX5_tiesChanged_X1_follow : GoodIn wsX5_tiesChanged (wsV RX5 232 RX1 yX1_follow wsX1_follow) := goodIn_app (goodIn_of _ (by decide +kernel)) ggX5_tiesChanged_X1_follow
set_option maxRecDepth 20000 in
theorem ggX5_tiesChanged_X0_forget : GoodIn wsX5_tiesChanged wsX0_forget := goodIn_r _ [52, 53, 74, 75, 76, 77, 78, 79, 80, 81, 82] (by decide +kernel) (by decide +kernel)
set_option maxRecDepth 20000 in
theorem gX5_tiesChanged_X0_forget : GoodIn wsX5_tiesChanged (wsV RX5 91 RX0 yX0_forget wsX0_forget) := goodIn_app (goodIn_of _ (by decide +kernel)) ggX5_tiesChanged_X0_forget
theorem dX5_tiesChanged_0 : decode cX5_tiesChanged 0 = .ok (.aload_n 0, 1) := by decide +kernel
theorem dX5_tiesChanged_1 : decode cX5_tiesChanged 1 = .ok (.getfield 19, 3) := by decide +kernel
theorem dX5_tiesChanged_4 : decode cX5_tiesChanged 4 = .ok (.aload_n 0, 1) := by decide +kernel
theorem dX5_tiesChanged_5 : decode cX5_tiesChanged 5 = .ok (.getfield 10, 3) := by decide +kernel
theorem dX5_tiesChanged_8 : decode cX5_tiesChanged 8 = .ok (.invokevirtual 232, 3) := by decide +kernel
theorem dX5_tiesChanged_11 : decode cX5_tiesChanged 11 = .ok (.aload_n 0, 1) := by decide +kernel
theorem dX5_tiesChanged_12 : decode cX5_tiesChanged 12 = .ok (.getfield 33, 3) := by decide +kernel
theorem dX5_tiesChanged_15 : decode cX5_tiesChanged 15 = .ok (.invokevirtual 91, 3) := by decide +kernel
theorem dX5_tiesChanged_18 : decode cX5_tiesChanged 18 = .ok (.return_, 1) := by decide +kernel
set_option maxRecDepth 20000 in
theorem ggX5_pinHolds_X2_has : GoodIn wsX5_pinHolds wsX2_has := goodIn_r _ [8, 9, 10, 11, 7, 12, 13, 14, 30, 31] (by decide +kernel) (by decide +kernel)
set_option maxRecDepth 20000 in
theorem gX5_pinHolds_X2_has : GoodIn wsX5_pinHolds (wsV RX5 167 RX2 yX2_has wsX2_has) := goodIn_app (goodIn_of _ (by decide +kernel)) ggX5_pinHolds_X2_has
theorem dX5_pinHolds_0 : decode cX5_pinHolds 0 = .ok (.aload_n 0, 1) := by decide +kernel
theorem dX5_pinHolds_1 : decode cX5_pinHolds 1 = .ok (.getfield 10, 3) := by decide +kernel
theorem dX5_pinHolds_4 : decode cX5_pinHolds 4 = .ok (.getfield 111, 3) := by decide +kernel
theorem dX5_pinHolds_7 : decode cX5_pinHolds 7 = .ok (.iload_n 1, 1) := by decide +kernel
theorem dX5_pinHolds_8 : decode cX5_pinHolds 8 = .ok (.iaload, 1) := by decide +kernel
theorem dX5_pinHolds_9 : decode cX5_pinHolds 9 = .ok (.bipush (-9), 2) := by decide +kernel
theorem dX5_pinHolds_11 : decode cX5_pinHolds 11 = .ok (.if_icmp .eq 26, 3) := by decide +kernel
theorem dX5_pinHolds_14 : decode cX5_pinHolds 14 = .ok (.aload_n 0, 1) := by decide +kernel
theorem dX5_pinHolds_15 : decode cX5_pinHolds 15 = .ok (.getfield 26, 3) := by decide +kernel
theorem dX5_pinHolds_18 : decode cX5_pinHolds 18 = .ok (.aload_n 0, 1) := by decide +kernel
theorem dX5_pinHolds_19 : decode cX5_pinHolds 19 = .ok (.getfield 10, 3) := by decide +kernel
theorem dX5_pinHolds_22 : decode cX5_pinHolds 22 = .ok (.getfield 111, 3) := by decide +kernel
theorem dX5_pinHolds_25 : decode cX5_pinHolds 25 = .ok (.iload_n 1, 1) := by decide +kernel
theorem dX5_pinHolds_26 : decode cX5_pinHolds 26 = .ok (.iaload, 1) := by decide +kernel
theorem dX5_pinHolds_27 : decode cX5_pinHolds 27 = .ok (.invokevirtual 167, 3) := by decide +kernel
theorem dX5_pinHolds_30 : decode cX5_pinHolds 30 = .ok (.ifCond .eq 7, 3) := by decide +kernel
theorem dX5_pinHolds_33 : decode cX5_pinHolds 33 = .ok (.iconst 1, 1) := by decide +kernel
theorem dX5_pinHolds_34 : decode cX5_pinHolds 34 = .ok (.goto 4, 3) := by decide +kernel
theorem dX5_pinHolds_37 : decode cX5_pinHolds 37 = .ok (.iconst 0, 1) := by decide +kernel
theorem dX5_pinHolds_38 : decode cX5_pinHolds 38 = .ok (.ireturn, 1) := by decide +kernel
set_option maxRecDepth 20000 in
theorem ggX5_pinsThatHold_X5_pinHolds : GoodIn wsX5_pinsThatHold wsX5_pinHolds := goodIn_r _ [7, 1, 8, 9, 10, 11, 12, 13, 14, 15, 16, 17, 18, 19, 20, 21, 22, 23, 24, 25, 26, 27, 28, 29, 30, 31, 32, 33, 34, 35, 36, 37] (by decide +kernel) (by decide +kernel)
set_option maxRecDepth 20000 in
theorem gX5_pinsThatHold_X5_pinHolds : GoodIn wsX5_pinsThatHold (wsV RX5 114 RX5 yX5_pinHolds wsX5_pinHolds) := goodIn_app (goodIn_of _ (by decide +kernel)) ggX5_pinsThatHold_X5_pinHolds
theorem dX5_pinsThatHold_0 : decode cX5_pinsThatHold 0 = .ok (.iconst 0, 1) := by decide +kernel
theorem dX5_pinsThatHold_1 : decode cX5_pinsThatHold 1 = .ok (.istore_n 1, 1) := by decide +kernel
theorem dX5_pinsThatHold_2 : decode cX5_pinsThatHold 2 = .ok (.iconst 0, 1) := by decide +kernel
theorem dX5_pinsThatHold_3 : decode cX5_pinsThatHold 3 = .ok (.istore_n 2, 1) := by decide +kernel
theorem dX5_pinsThatHold_4 : decode cX5_pinsThatHold 4 = .ok (.iload_n 2, 1) := by decide +kernel
theorem dX5_pinsThatHold_5 : decode cX5_pinsThatHold 5 = .ok (.aload_n 0, 1) := by decide +kernel
theorem dX5_pinsThatHold_6 : decode cX5_pinsThatHold 6 = .ok (.getfield 10, 3) := by decide +kernel
theorem dX5_pinsThatHold_9 : decode cX5_pinsThatHold 9 = .ok (.getfield 52, 3) := by decide +kernel
theorem dX5_pinsThatHold_12 : decode cX5_pinsThatHold 12 = .ok (.if_icmp .ge 20, 3) := by decide +kernel
theorem dX5_pinsThatHold_15 : decode cX5_pinsThatHold 15 = .ok (.aload_n 0, 1) := by decide +kernel
theorem dX5_pinsThatHold_16 : decode cX5_pinsThatHold 16 = .ok (.iload_n 2, 1) := by decide +kernel
theorem dX5_pinsThatHold_17 : decode cX5_pinsThatHold 17 = .ok (.invokevirtual 114, 3) := by decide +kernel
theorem dX5_pinsThatHold_20 : decode cX5_pinsThatHold 20 = .ok (.ifCond .eq 6, 3) := by decide +kernel
theorem dX5_pinsThatHold_23 : decode cX5_pinsThatHold 23 = .ok (.iinc 1 1, 3) := by decide +kernel
theorem dX5_pinsThatHold_26 : decode cX5_pinsThatHold 26 = .ok (.iinc 2 1, 3) := by decide +kernel
theorem dX5_pinsThatHold_29 : decode cX5_pinsThatHold 29 = .ok (.goto (-25), 3) := by decide +kernel
theorem dX5_pinsThatHold_32 : decode cX5_pinsThatHold 32 = .ok (.iload_n 1, 1) := by decide +kernel
theorem dX5_pinsThatHold_33 : decode cX5_pinsThatHold 33 = .ok (.ireturn, 1) := by decide +kernel
set_option maxRecDepth 20000 in
theorem ggX5_tempoPart_X1_twosBetween : GoodIn wsX5_tempoPart wsX1_twosBetween := goodIn_r _ [7, 8, 35, 36, 37, 38, 39] (by decide +kernel) (by decide +kernel)
set_option maxRecDepth 20000 in
theorem gX5_tempoPart_X1_twosBetween : GoodIn wsX5_tempoPart (wsV RX5 148 RX1 yX1_twosBetween wsX1_twosBetween) := goodIn_app (goodIn_of _ (by decide +kernel)) ggX5_tempoPart_X1_twosBetween
set_option maxRecDepth 20000 in
theorem ggX5_tempoPart_X5_countOfFactor : GoodIn wsX5_tempoPart wsX5_countOfFactor := goodIn_r _ [12] (by decide +kernel) (by decide +kernel)
set_option maxRecDepth 20000 in
theorem gX5_tempoPart_X5_countOfFactor : GoodIn wsX5_tempoPart (va_wsS RX5 236 yX5_countOfFactor wsX5_countOfFactor) := goodIn_app (goodIn_of _ (by decide +kernel)) ggX5_tempoPart_X5_countOfFactor
set_option maxRecDepth 20000 in
theorem ggX5_tempoPart_X1_threesBetween : GoodIn wsX5_tempoPart wsX1_threesBetween := goodIn_r _ [16, 17, 35, 36, 37, 38, 39] (by decide +kernel) (by decide +kernel)
set_option maxRecDepth 20000 in
theorem gX5_tempoPart_X1_threesBetween : GoodIn wsX5_tempoPart (wsV RX5 151 RX1 yX1_threesBetween wsX1_threesBetween) := goodIn_app (goodIn_of _ (by decide +kernel)) ggX5_tempoPart_X1_threesBetween
set_option maxRecDepth 20000 in
theorem ggX5_tempoPart_X5_restOf : GoodIn wsX5_tempoPart wsX5_restOf := goodIn_r _ [20, 21, 22, 9, 10, 11, 12, 23, 24, 25] (by decide +kernel) (by decide +kernel)
set_option maxRecDepth 20000 in
theorem gX5_tempoPart_X5_restOf : GoodIn wsX5_tempoPart (va_wsS RX5 239 yX5_restOf wsX5_restOf) := goodIn_app (goodIn_of _ (by decide +kernel)) ggX5_tempoPart_X5_restOf
set_option maxRecDepth 20000 in
theorem ggX5_tempoPart_X5_part : GoodIn wsX5_tempoPart wsX5_part := goodIn_r _ [28, 21, 22, 23, 24, 11, 25] (by decide +kernel) (by decide +kernel)
set_option maxRecDepth 20000 in
theorem gX5_tempoPart_X5_part : GoodIn wsX5_tempoPart (va_wsS RX5 154 yX5_part wsX5_part) := goodIn_app (goodIn_of _ (by decide +kernel)) ggX5_tempoPart_X5_part
theorem dX5_tempoPart_0 : decode cX5_tempoPart 0 = .ok (.aload_n 0, 1) := by decide +kernel
theorem dX5_tempoPart_1 : decode cX5_tempoPart 1 = .ok (.getfield 19, 3) := by decide +kernel
theorem dX5_tempoPart_4 : decode cX5_tempoPart 4 = .ok (.iconst 0, 1) := by decide +kernel
theorem dX5_tempoPart_5 : decode cX5_tempoPart 5 = .ok (.iload_n 1, 1) := by decide +kernel
theorem dX5_tempoPart_6 : decode cX5_tempoPart 6 = .ok (.invokevirtual 148, 3) := by decide +kernel
theorem dX5_tempoPart_9 : decode cX5_tempoPart 9 = .ok (.aload_n 0, 1) := by decide +kernel
theorem dX5_tempoPart_10 : decode cX5_tempoPart 10 = .ok (.getfield 44, 3) := by decide +kernel
theorem dX5_tempoPart_13 : decode cX5_tempoPart 13 = .ok (.iconst 2, 1) := by decide +kernel
theorem dX5_tempoPart_14 : decode cX5_tempoPart 14 = .ok (.invokestatic 236, 3) := by decide +kernel
theorem dX5_tempoPart_17 : decode cX5_tempoPart 17 = .ok (.iadd, 1) := by decide +kernel
theorem dX5_tempoPart_18 : decode cX5_tempoPart 18 = .ok (.istore_n 3, 1) := by decide +kernel
theorem dX5_tempoPart_19 : decode cX5_tempoPart 19 = .ok (.aload_n 0, 1) := by decide +kernel
theorem dX5_tempoPart_20 : decode cX5_tempoPart 20 = .ok (.getfield 19, 3) := by decide +kernel
theorem dX5_tempoPart_23 : decode cX5_tempoPart 23 = .ok (.iconst 0, 1) := by decide +kernel
theorem dX5_tempoPart_24 : decode cX5_tempoPart 24 = .ok (.iload_n 1, 1) := by decide +kernel
theorem dX5_tempoPart_25 : decode cX5_tempoPart 25 = .ok (.invokevirtual 151, 3) := by decide +kernel
theorem dX5_tempoPart_28 : decode cX5_tempoPart 28 = .ok (.aload_n 0, 1) := by decide +kernel
theorem dX5_tempoPart_29 : decode cX5_tempoPart 29 = .ok (.getfield 44, 3) := by decide +kernel
theorem dX5_tempoPart_32 : decode cX5_tempoPart 32 = .ok (.iconst 3, 1) := by decide +kernel
theorem dX5_tempoPart_33 : decode cX5_tempoPart 33 = .ok (.invokestatic 236, 3) := by decide +kernel
theorem dX5_tempoPart_36 : decode cX5_tempoPart 36 = .ok (.iadd, 1) := by decide +kernel
theorem dX5_tempoPart_37 : decode cX5_tempoPart 37 = .ok (.istore 4, 2) := by decide +kernel
theorem dX5_tempoPart_39 : decode cX5_tempoPart 39 = .ok (.aload_n 0, 1) := by decide +kernel
theorem dX5_tempoPart_40 : decode cX5_tempoPart 40 = .ok (.getfield 44, 3) := by decide +kernel
theorem dX5_tempoPart_43 : decode cX5_tempoPart 43 = .ok (.invokestatic 239, 3) := by decide +kernel
theorem dX5_tempoPart_46 : decode cX5_tempoPart 46 = .ok (.iload_n 3, 1) := by decide +kernel
theorem dX5_tempoPart_47 : decode cX5_tempoPart 47 = .ok (.iload 4, 2) := by decide +kernel
theorem dX5_tempoPart_49 : decode cX5_tempoPart 49 = .ok (.iload_n 2, 1) := by decide +kernel
theorem dX5_tempoPart_50 : decode cX5_tempoPart 50 = .ok (.invokestatic 154, 3) := by decide +kernel
theorem dX5_tempoPart_53 : decode cX5_tempoPart 53 = .ok (.lreturn, 1) := by decide +kernel
set_option maxRecDepth 20000 in
theorem ggX5_nearestMark_X1_isPlayed : GoodIn wsX5_nearestMark wsX1_isPlayed := goodIn_r _ [7, 8, 56, 57, 58, 59, 60] (by decide +kernel) (by decide +kernel)
set_option maxRecDepth 20000 in
theorem gX5_nearestMark_X1_isPlayed : GoodIn wsX5_nearestMark (wsV RX5 139 RX1 yX1_isPlayed wsX1_isPlayed) := goodIn_app (goodIn_of _ (by decide +kernel)) ggX5_nearestMark_X1_isPlayed
set_option maxRecDepth 20000 in
theorem ggX5_nearestMark_X5_tempoPart : GoodIn wsX5_nearestMark wsX5_tempoPart := goodIn_r _ [13, 1, 14, 15, 16, 17, 6, 18, 19, 20, 21, 12, 22, 23, 24, 25, 26, 27, 28, 29, 30, 31, 32, 33, 34, 35, 36, 37, 38, 50, 51, 52, 53, 54, 55, 56, 57, 58, 59, 60] (by decide +kernel) (by decide +kernel)
set_option maxRecDepth 20000 in
theorem gX5_nearestMark_X5_tempoPart : GoodIn wsX5_nearestMark (wsV RX5 142 RX5 yX5_tempoPart wsX5_tempoPart) := goodIn_app (goodIn_of _ (by decide +kernel)) ggX5_nearestMark_X5_tempoPart
set_option maxRecDepth 20000 in
theorem ggX5_nearestMark_X2_nearestTo : GoodIn wsX5_nearestMark wsX2_nearestTo := goodIn_r _ [43, 44, 45, 46, 47, 48, 49, 61, 62] (by decide +kernel) (by decide +kernel)
set_option maxRecDepth 20000 in
theorem gX5_nearestMark_X2_nearestTo : GoodIn wsX5_nearestMark (wsV RX5 243 RX2 yX2_nearestTo wsX2_nearestTo) := goodIn_app (goodIn_of _ (by decide +kernel)) ggX5_nearestMark_X2_nearestTo
theorem dX5_nearestMark_0 : decode cX5_nearestMark 0 = .ok (.aload_n 0, 1) := by decide +kernel
theorem dX5_nearestMark_1 : decode cX5_nearestMark 1 = .ok (.getfield 19, 3) := by decide +kernel
theorem dX5_nearestMark_4 : decode cX5_nearestMark 4 = .ok (.iload_n 1, 1) := by decide +kernel
theorem dX5_nearestMark_5 : decode cX5_nearestMark 5 = .ok (.invokevirtual 139, 3) := by decide +kernel
theorem dX5_nearestMark_8 : decode cX5_nearestMark 8 = .ok (.ifCond .ne 6, 3) := by decide +kernel
theorem dX5_nearestMark_11 : decode cX5_nearestMark 11 = .ok (.bipush (-9), 2) := by decide +kernel
theorem dX5_nearestMark_13 : decode cX5_nearestMark 13 = .ok (.ireturn, 1) := by decide +kernel
theorem dX5_nearestMark_14 : decode cX5_nearestMark 14 = .ok (.aload_n 0, 1) := by decide +kernel
theorem dX5_nearestMark_15 : decode cX5_nearestMark 15 = .ok (.getfield 26, 3) := by decide +kernel
theorem dX5_nearestMark_18 : decode cX5_nearestMark 18 = .ok (.aload_n 0, 1) := by decide +kernel
theorem dX5_nearestMark_19 : decode cX5_nearestMark 19 = .ok (.iload_n 1, 1) := by decide +kernel
theorem dX5_nearestMark_20 : decode cX5_nearestMark 20 = .ok (.iconst 0, 1) := by decide +kernel
theorem dX5_nearestMark_21 : decode cX5_nearestMark 21 = .ok (.invokevirtual 142, 3) := by decide +kernel
theorem dX5_nearestMark_24 : decode cX5_nearestMark 24 = .ok (.aload_n 0, 1) := by decide +kernel
theorem dX5_nearestMark_25 : decode cX5_nearestMark 25 = .ok (.iload_n 1, 1) := by decide +kernel
theorem dX5_nearestMark_26 : decode cX5_nearestMark 26 = .ok (.iconst 1, 1) := by decide +kernel
theorem dX5_nearestMark_27 : decode cX5_nearestMark 27 = .ok (.invokevirtual 142, 3) := by decide +kernel
theorem dX5_nearestMark_30 : decode cX5_nearestMark 30 = .ok (.invokevirtual 243, 3) := by decide +kernel
theorem dX5_nearestMark_33 : decode cX5_nearestMark 33 = .ok (.ireturn, 1) := by decide +kernel
set_option maxRecDepth 20000 in
theorem ggX5_lasting_X1_isPlayed : GoodIn wsX5_lasting wsX1_isPlayed := goodIn_r _ [9, 10, 45, 46, 47, 48, 49] (by decide +kernel) (by decide +kernel)
set_option maxRecDepth 20000 in
theorem gX5_lasting_X1_isPlayed : GoodIn wsX5_lasting (wsV RX5 139 RX1 yX1_isPlayed wsX1_isPlayed) := goodIn_app (goodIn_of _ (by decide +kernel)) ggX5_lasting_X1_isPlayed
set_option maxRecDepth 20000 in
theorem ggX5_lasting_X1_twosBetween : GoodIn wsX5_lasting wsX1_twosBetween := goodIn_r _ [14, 15, 45, 46, 47, 48, 49] (by decide +kernel) (by decide +kernel)
set_option maxRecDepth 20000 in
theorem gX5_lasting_X1_twosBetween : GoodIn wsX5_lasting (wsV RX5 148 RX1 yX1_twosBetween wsX1_twosBetween) := goodIn_app (goodIn_of _ (by decide +kernel)) ggX5_lasting_X1_twosBetween
set_option maxRecDepth 20000 in
theorem ggX5_lasting_X1_threesBetween : GoodIn wsX5_lasting wsX1_threesBetween := goodIn_r _ [19, 20, 45, 46, 47, 48, 49] (by decide +kernel) (by decide +kernel)
set_option maxRecDepth 20000 in
theorem gX5_lasting_X1_threesBetween : GoodIn wsX5_lasting (wsV RX5 151 RX1 yX1_threesBetween wsX1_threesBetween) := goodIn_app (goodIn_of _ (by decide +kernel)) ggX5_lasting_X1_threesBetween
set_option maxRecDepth 20000 in
theorem ggX5_lasting_X5_part : GoodIn wsX5_lasting wsX5_part := goodIn_r _ [24, 25, 26, 27, 28, 23, 29] (by decide +kernel) (by decide +kernel)
set_option maxRecDepth 20000 in
theorem gX5_lasting_X5_part : GoodIn wsX5_lasting (va_wsS RX5 154 yX5_part wsX5_part) := goodIn_app (goodIn_of _ (by decide +kernel)) ggX5_lasting_X5_part
theorem dX5_lasting_0 : decode cX5_lasting 0 = .ok (.aload_n 0, 1) := by decide +kernel
theorem dX5_lasting_1 : decode cX5_lasting 1 = .ok (.getfield 19, 3) := by decide +kernel
theorem dX5_lasting_4 : decode cX5_lasting 4 = .ok (.iload_n 1, 1) := by decide +kernel
theorem dX5_lasting_5 : decode cX5_lasting 5 = .ok (.invokevirtual 139, 3) := by decide +kernel
theorem dX5_lasting_8 : decode cX5_lasting 8 = .ok (.ifCond .ne 5, 3) := by decide +kernel
theorem dX5_lasting_11 : decode cX5_lasting 11 = .ok (.lconst 0, 1) := by decide +kernel
theorem dX5_lasting_12 : decode cX5_lasting 12 = .ok (.lreturn, 1) := by decide +kernel
theorem dX5_lasting_13 : decode cX5_lasting 13 = .ok (.aload_n 0, 1) := by decide +kernel
theorem dX5_lasting_14 : decode cX5_lasting 14 = .ok (.getfield 19, 3) := by decide +kernel
theorem dX5_lasting_17 : decode cX5_lasting 17 = .ok (.iconst 0, 1) := by decide +kernel
theorem dX5_lasting_18 : decode cX5_lasting 18 = .ok (.iload_n 1, 1) := by decide +kernel
theorem dX5_lasting_19 : decode cX5_lasting 19 = .ok (.invokevirtual 148, 3) := by decide +kernel
theorem dX5_lasting_22 : decode cX5_lasting 22 = .ok (.istore_n 3, 1) := by decide +kernel
theorem dX5_lasting_23 : decode cX5_lasting 23 = .ok (.aload_n 0, 1) := by decide +kernel
theorem dX5_lasting_24 : decode cX5_lasting 24 = .ok (.getfield 19, 3) := by decide +kernel
theorem dX5_lasting_27 : decode cX5_lasting 27 = .ok (.iconst 0, 1) := by decide +kernel
theorem dX5_lasting_28 : decode cX5_lasting 28 = .ok (.iload_n 1, 1) := by decide +kernel
theorem dX5_lasting_29 : decode cX5_lasting 29 = .ok (.invokevirtual 151, 3) := by decide +kernel
theorem dX5_lasting_32 : decode cX5_lasting 32 = .ok (.istore 4, 2) := by decide +kernel
theorem dX5_lasting_34 : decode cX5_lasting 34 = .ok (.iload_n 2, 1) := by decide +kernel
theorem dX5_lasting_35 : decode cX5_lasting 35 = .ok (.i2l, 1) := by decide +kernel
theorem dX5_lasting_36 : decode cX5_lasting 36 = .ok (.iload_n 3, 1) := by decide +kernel
theorem dX5_lasting_37 : decode cX5_lasting 37 = .ok (.iload 4, 2) := by decide +kernel
theorem dX5_lasting_39 : decode cX5_lasting 39 = .ok (.iconst 0, 1) := by decide +kernel
theorem dX5_lasting_40 : decode cX5_lasting 40 = .ok (.invokestatic 154, 3) := by decide +kernel
theorem dX5_lasting_43 : decode cX5_lasting 43 = .ok (.lstore 5, 2) := by decide +kernel
theorem dX5_lasting_45 : decode cX5_lasting 45 = .ok (.iload_n 2, 1) := by decide +kernel
theorem dX5_lasting_46 : decode cX5_lasting 46 = .ok (.i2l, 1) := by decide +kernel
theorem dX5_lasting_47 : decode cX5_lasting 47 = .ok (.iload_n 3, 1) := by decide +kernel
theorem dX5_lasting_48 : decode cX5_lasting 48 = .ok (.iload 4, 2) := by decide +kernel
theorem dX5_lasting_50 : decode cX5_lasting 50 = .ok (.iconst 1, 1) := by decide +kernel
theorem dX5_lasting_51 : decode cX5_lasting 51 = .ok (.invokestatic 154, 3) := by decide +kernel
theorem dX5_lasting_54 : decode cX5_lasting 54 = .ok (.lstore 7, 2) := by decide +kernel
theorem dX5_lasting_56 : decode cX5_lasting 56 = .ok (.lload 5, 2) := by decide +kernel
theorem dX5_lasting_58 : decode cX5_lasting 58 = .ok (.lconst 0, 1) := by decide +kernel
theorem dX5_lasting_59 : decode cX5_lasting 59 = .ok (.lcmp, 1) := by decide +kernel
theorem dX5_lasting_60 : decode cX5_lasting 60 = .ok (.ifCond .le 26, 3) := by decide +kernel
theorem dX5_lasting_63 : decode cX5_lasting 63 = .ok (.aload_n 0, 1) := by decide +kernel
theorem dX5_lasting_64 : decode cX5_lasting 64 = .ok (.getfield 10, 3) := by decide +kernel
theorem dX5_lasting_67 : decode cX5_lasting 67 = .ok (.getfield 65, 3) := by decide +kernel
theorem dX5_lasting_70 : decode cX5_lasting 70 = .ok (.iload_n 1, 1) := by decide +kernel
theorem dX5_lasting_71 : decode cX5_lasting 71 = .ok (.iaload, 1) := by decide +kernel
theorem dX5_lasting_72 : decode cX5_lasting 72 = .ok (.i2l, 1) := by decide +kernel
theorem dX5_lasting_73 : decode cX5_lasting 73 = .ok (.ldc2_w 247, 3) := by decide +kernel
theorem dX5_lasting_76 : decode cX5_lasting 76 = .ok (.lmul, 1) := by decide +kernel
theorem dX5_lasting_77 : decode cX5_lasting 77 = .ok (.lload 7, 2) := by decide +kernel
theorem dX5_lasting_79 : decode cX5_lasting 79 = .ok (.lmul, 1) := by decide +kernel
theorem dX5_lasting_80 : decode cX5_lasting 80 = .ok (.lload 5, 2) := by decide +kernel
theorem dX5_lasting_82 : decode cX5_lasting 82 = .ok (.ldiv, 1) := by decide +kernel
theorem dX5_lasting_83 : decode cX5_lasting 83 = .ok (.goto 4, 3) := by decide +kernel
theorem dX5_lasting_86 : decode cX5_lasting 86 = .ok (.lconst 0, 1) := by decide +kernel
theorem dX5_lasting_87 : decode cX5_lasting 87 = .ok (.lreturn, 1) := by decide +kernel
set_option maxRecDepth 20000 in
theorem ggX5_lastingUpTo_X5_lasting : GoodIn wsX5_lastingUpTo wsX5_lasting := goodIn_r _ [5, 6, 7, 8, 9, 10, 11, 12, 13, 14, 15, 16, 17, 18, 19, 20, 21, 22, 23, 24, 25, 26, 27, 4, 28, 29, 30, 31, 32, 33, 34, 35, 36, 37, 38, 39, 40, 41, 42, 43, 44, 45, 46, 47, 48, 49, 50, 51, 52, 53] (by decide +kernel) (by decide +kernel)
set_option maxRecDepth 20000 in
theorem gX5_lastingUpTo_X5_lasting : GoodIn wsX5_lastingUpTo (wsV RX5 205 RX5 yX5_lasting wsX5_lasting) := goodIn_app (goodIn_of _ (by decide +kernel)) ggX5_lastingUpTo_X5_lasting
theorem dX5_lastingUpTo_0 : decode cX5_lastingUpTo 0 = .ok (.lconst 0, 1) := by decide +kernel
theorem dX5_lastingUpTo_1 : decode cX5_lastingUpTo 1 = .ok (.lstore_n 3, 1) := by decide +kernel
theorem dX5_lastingUpTo_2 : decode cX5_lastingUpTo 2 = .ok (.iconst 0, 1) := by decide +kernel
theorem dX5_lastingUpTo_3 : decode cX5_lastingUpTo 3 = .ok (.istore 5, 2) := by decide +kernel
theorem dX5_lastingUpTo_5 : decode cX5_lastingUpTo 5 = .ok (.iload 5, 2) := by decide +kernel
theorem dX5_lastingUpTo_7 : decode cX5_lastingUpTo 7 = .ok (.iload_n 1, 1) := by decide +kernel
theorem dX5_lastingUpTo_8 : decode cX5_lastingUpTo 8 = .ok (.if_icmp .ge 26, 3) := by decide +kernel
theorem dX5_lastingUpTo_11 : decode cX5_lastingUpTo 11 = .ok (.iload 5, 2) := by decide +kernel
theorem dX5_lastingUpTo_13 : decode cX5_lastingUpTo 13 = .ok (.bipush 7, 2) := by decide +kernel
theorem dX5_lastingUpTo_15 : decode cX5_lastingUpTo 15 = .ok (.if_icmp .ge 19, 3) := by decide +kernel
theorem dX5_lastingUpTo_18 : decode cX5_lastingUpTo 18 = .ok (.lload_n 3, 1) := by decide +kernel
theorem dX5_lastingUpTo_19 : decode cX5_lastingUpTo 19 = .ok (.aload_n 0, 1) := by decide +kernel
theorem dX5_lastingUpTo_20 : decode cX5_lastingUpTo 20 = .ok (.iload 5, 2) := by decide +kernel
theorem dX5_lastingUpTo_22 : decode cX5_lastingUpTo 22 = .ok (.iload_n 2, 1) := by decide +kernel
theorem dX5_lastingUpTo_23 : decode cX5_lastingUpTo 23 = .ok (.invokevirtual 205, 3) := by decide +kernel
theorem dX5_lastingUpTo_26 : decode cX5_lastingUpTo 26 = .ok (.ladd, 1) := by decide +kernel
theorem dX5_lastingUpTo_27 : decode cX5_lastingUpTo 27 = .ok (.lstore_n 3, 1) := by decide +kernel
theorem dX5_lastingUpTo_28 : decode cX5_lastingUpTo 28 = .ok (.iinc 5 1, 3) := by decide +kernel
theorem dX5_lastingUpTo_31 : decode cX5_lastingUpTo 31 = .ok (.goto (-26), 3) := by decide +kernel
theorem dX5_lastingUpTo_34 : decode cX5_lastingUpTo 34 = .ok (.lload_n 3, 1) := by decide +kernel
theorem dX5_lastingUpTo_35 : decode cX5_lastingUpTo 35 = .ok (.lreturn, 1) := by decide +kernel
set_option maxRecDepth 20000 in
theorem ggX5_part_X5_power : GoodIn wsX5_part wsX5_power := goodIn_r _ [6] (by decide +kernel) (by decide +kernel)
set_option maxRecDepth 20000 in
theorem gX5_part_X5_power : GoodIn wsX5_part (va_wsS RX5 251 yX5_power wsX5_power) := goodIn_app (goodIn_of _ (by decide +kernel)) ggX5_part_X5_power
theorem dX5_part_0 : decode cX5_part 0 = .ok (.iload 4, 2) := by decide +kernel
theorem dX5_part_2 : decode cX5_part 2 = .ok (.ifCond .ne 21, 3) := by decide +kernel
theorem dX5_part_5 : decode cX5_part 5 = .ok (.lload_n 0, 1) := by decide +kernel
theorem dX5_part_6 : decode cX5_part 6 = .ok (.ldc2_w 249, 3) := by decide +kernel
theorem dX5_part_9 : decode cX5_part 9 = .ok (.iload_n 2, 1) := by decide +kernel
theorem dX5_part_10 : decode cX5_part 10 = .ok (.invokestatic 251, 3) := by decide +kernel
theorem dX5_part_13 : decode cX5_part 13 = .ok (.lmul, 1) := by decide +kernel
theorem dX5_part_14 : decode cX5_part 14 = .ok (.ldc2_w 255, 3) := by decide +kernel
theorem dX5_part_17 : decode cX5_part 17 = .ok (.iload_n 3, 1) := by decide +kernel
theorem dX5_part_18 : decode cX5_part 18 = .ok (.invokestatic 251, 3) := by decide +kernel
theorem dX5_part_21 : decode cX5_part 21 = .ok (.lmul, 1) := by decide +kernel
theorem dX5_part_22 : decode cX5_part 22 = .ok (.lreturn, 1) := by decide +kernel
theorem dX5_part_23 : decode cX5_part 23 = .ok (.ldc2_w 249, 3) := by decide +kernel
theorem dX5_part_26 : decode cX5_part 26 = .ok (.iload_n 2, 1) := by decide +kernel
theorem dX5_part_27 : decode cX5_part 27 = .ok (.ineg, 1) := by decide +kernel
theorem dX5_part_28 : decode cX5_part 28 = .ok (.invokestatic 251, 3) := by decide +kernel
theorem dX5_part_31 : decode cX5_part 31 = .ok (.ldc2_w 255, 3) := by decide +kernel
theorem dX5_part_34 : decode cX5_part 34 = .ok (.iload_n 3, 1) := by decide +kernel
theorem dX5_part_35 : decode cX5_part 35 = .ok (.ineg, 1) := by decide +kernel
theorem dX5_part_36 : decode cX5_part 36 = .ok (.invokestatic 251, 3) := by decide +kernel
theorem dX5_part_39 : decode cX5_part 39 = .ok (.lmul, 1) := by decide +kernel
theorem dX5_part_40 : decode cX5_part 40 = .ok (.lreturn, 1) := by decide +kernel
theorem dX5_power_0 : decode cX5_power 0 = .ok (.lconst 1, 1) := by decide +kernel
theorem dX5_power_1 : decode cX5_power 1 = .ok (.lstore_n 3, 1) := by decide +kernel
theorem dX5_power_2 : decode cX5_power 2 = .ok (.iconst 0, 1) := by decide +kernel
theorem dX5_power_3 : decode cX5_power 3 = .ok (.istore 5, 2) := by decide +kernel
theorem dX5_power_5 : decode cX5_power 5 = .ok (.iload 5, 2) := by decide +kernel
theorem dX5_power_7 : decode cX5_power 7 = .ok (.iload_n 2, 1) := by decide +kernel
theorem dX5_power_8 : decode cX5_power 8 = .ok (.if_icmp .ge 13, 3) := by decide +kernel
theorem dX5_power_11 : decode cX5_power 11 = .ok (.lload_n 3, 1) := by decide +kernel
theorem dX5_power_12 : decode cX5_power 12 = .ok (.lload_n 0, 1) := by decide +kernel
theorem dX5_power_13 : decode cX5_power 13 = .ok (.lmul, 1) := by decide +kernel
theorem dX5_power_14 : decode cX5_power 14 = .ok (.lstore_n 3, 1) := by decide +kernel
theorem dX5_power_15 : decode cX5_power 15 = .ok (.iinc 5 1, 3) := by decide +kernel
theorem dX5_power_18 : decode cX5_power 18 = .ok (.goto (-13), 3) := by decide +kernel
theorem dX5_power_21 : decode cX5_power 21 = .ok (.lload_n 3, 1) := by decide +kernel
theorem dX5_power_22 : decode cX5_power 22 = .ok (.lreturn, 1) := by decide +kernel
theorem dX5_countOfFactor_0 : decode cX5_countOfFactor 0 = .ok (.iload_n 0, 1) := by decide +kernel
theorem dX5_countOfFactor_1 : decode cX5_countOfFactor 1 = .ok (.istore_n 2, 1) := by decide +kernel
theorem dX5_countOfFactor_2 : decode cX5_countOfFactor 2 = .ok (.iconst 0, 1) := by decide +kernel
theorem dX5_countOfFactor_3 : decode cX5_countOfFactor 3 = .ok (.istore_n 3, 1) := by decide +kernel
theorem dX5_countOfFactor_4 : decode cX5_countOfFactor 4 = .ok (.iload_n 3, 1) := by decide +kernel
theorem dX5_countOfFactor_5 : decode cX5_countOfFactor 5 = .ok (.bipush 9, 2) := by decide +kernel
theorem dX5_countOfFactor_7 : decode cX5_countOfFactor 7 = .ok (.if_icmp .ge 24, 3) := by decide +kernel
theorem dX5_countOfFactor_10 : decode cX5_countOfFactor 10 = .ok (.iload_n 1, 1) := by decide +kernel
theorem dX5_countOfFactor_11 : decode cX5_countOfFactor 11 = .ok (.iconst 1, 1) := by decide +kernel
theorem dX5_countOfFactor_12 : decode cX5_countOfFactor 12 = .ok (.if_icmp .le 19, 3) := by decide +kernel
theorem dX5_countOfFactor_15 : decode cX5_countOfFactor 15 = .ok (.iload_n 2, 1) := by decide +kernel
theorem dX5_countOfFactor_16 : decode cX5_countOfFactor 16 = .ok (.iload_n 1, 1) := by decide +kernel
theorem dX5_countOfFactor_17 : decode cX5_countOfFactor 17 = .ok (.irem, 1) := by decide +kernel
theorem dX5_countOfFactor_18 : decode cX5_countOfFactor 18 = .ok (.ifCond .ne 13, 3) := by decide +kernel
theorem dX5_countOfFactor_21 : decode cX5_countOfFactor 21 = .ok (.iload_n 2, 1) := by decide +kernel
theorem dX5_countOfFactor_22 : decode cX5_countOfFactor 22 = .ok (.iload_n 1, 1) := by decide +kernel
theorem dX5_countOfFactor_23 : decode cX5_countOfFactor 23 = .ok (.idiv, 1) := by decide +kernel
theorem dX5_countOfFactor_24 : decode cX5_countOfFactor 24 = .ok (.istore_n 2, 1) := by decide +kernel
theorem dX5_countOfFactor_25 : decode cX5_countOfFactor 25 = .ok (.iinc 3 1, 3) := by decide +kernel
theorem dX5_countOfFactor_28 : decode cX5_countOfFactor 28 = .ok (.goto (-24), 3) := by decide +kernel
theorem dX5_countOfFactor_31 : decode cX5_countOfFactor 31 = .ok (.iload_n 3, 1) := by decide +kernel
theorem dX5_countOfFactor_32 : decode cX5_countOfFactor 32 = .ok (.ireturn, 1) := by decide +kernel
set_option maxRecDepth 20000 in
theorem ggX5_restOf_X5_countOfFactor : GoodIn wsX5_restOf wsX5_countOfFactor := goodIn_r _ [6] (by decide +kernel) (by decide +kernel)
set_option maxRecDepth 20000 in
theorem gX5_restOf_X5_countOfFactor : GoodIn wsX5_restOf (va_wsS RX5 236 yX5_countOfFactor wsX5_countOfFactor) := goodIn_app (goodIn_of _ (by decide +kernel)) ggX5_restOf_X5_countOfFactor
set_option maxRecDepth 20000 in
theorem ggX5_restOf_X5_power : GoodIn wsX5_restOf wsX5_power := goodIn_r _ [9] (by decide +kernel) (by decide +kernel)
set_option maxRecDepth 20000 in
theorem gX5_restOf_X5_power : GoodIn wsX5_restOf (va_wsS RX5 251 yX5_power wsX5_power) := goodIn_app (goodIn_of _ (by decide +kernel)) ggX5_restOf_X5_power
theorem dX5_restOf_0 : decode cX5_restOf 0 = .ok (.ldc2_w 249, 3) := by decide +kernel
theorem dX5_restOf_3 : decode cX5_restOf 3 = .ok (.iload_n 0, 1) := by decide +kernel
theorem dX5_restOf_4 : decode cX5_restOf 4 = .ok (.iconst 2, 1) := by decide +kernel
theorem dX5_restOf_5 : decode cX5_restOf 5 = .ok (.invokestatic 236, 3) := by decide +kernel
theorem dX5_restOf_8 : decode cX5_restOf 8 = .ok (.invokestatic 251, 3) := by decide +kernel
theorem dX5_restOf_11 : decode cX5_restOf 11 = .ok (.ldc2_w 255, 3) := by decide +kernel
theorem dX5_restOf_14 : decode cX5_restOf 14 = .ok (.iload_n 0, 1) := by decide +kernel
theorem dX5_restOf_15 : decode cX5_restOf 15 = .ok (.iconst 3, 1) := by decide +kernel
theorem dX5_restOf_16 : decode cX5_restOf 16 = .ok (.invokestatic 236, 3) := by decide +kernel
theorem dX5_restOf_19 : decode cX5_restOf 19 = .ok (.invokestatic 251, 3) := by decide +kernel
theorem dX5_restOf_22 : decode cX5_restOf 22 = .ok (.lmul, 1) := by decide +kernel
theorem dX5_restOf_23 : decode cX5_restOf 23 = .ok (.lstore_n 1, 1) := by decide +kernel
theorem dX5_restOf_24 : decode cX5_restOf 24 = .ok (.lload_n 1, 1) := by decide +kernel
theorem dX5_restOf_25 : decode cX5_restOf 25 = .ok (.lconst 0, 1) := by decide +kernel
theorem dX5_restOf_26 : decode cX5_restOf 26 = .ok (.lcmp, 1) := by decide +kernel
theorem dX5_restOf_27 : decode cX5_restOf 27 = .ok (.ifCond .le 10, 3) := by decide +kernel
theorem dX5_restOf_30 : decode cX5_restOf 30 = .ok (.iload_n 0, 1) := by decide +kernel
theorem dX5_restOf_31 : decode cX5_restOf 31 = .ok (.i2l, 1) := by decide +kernel
theorem dX5_restOf_32 : decode cX5_restOf 32 = .ok (.lload_n 1, 1) := by decide +kernel
theorem dX5_restOf_33 : decode cX5_restOf 33 = .ok (.ldiv, 1) := by decide +kernel
theorem dX5_restOf_34 : decode cX5_restOf 34 = .ok (.goto 5, 3) := by decide +kernel
theorem dX5_restOf_37 : decode cX5_restOf 37 = .ok (.iload_n 0, 1) := by decide +kernel
theorem dX5_restOf_38 : decode cX5_restOf 38 = .ok (.i2l, 1) := by decide +kernel
theorem dX5_restOf_39 : decode cX5_restOf 39 = .ok (.lreturn, 1) := by decide +kernel
