theorem dX6_hangs_0 : decode cX6_hangs 0 = .ok (.aload_n 0, 1) := by decide +kernel
theorem dX6_hangs_1 : decode cX6_hangs 1 = .ok (.getfield 20, 3) := by decide +kernel
theorem dX6_hangs_4 : decode cX6_hangs 4 = .ok (.iconst 5, 1) := by decide +kernel
theorem dX6_hangs_5 : decode cX6_hangs 5 = .ok (.iload_n 2, 1) := by decide +kernel
theorem dX6_hangs_6 : decode cX6_hangs 6 = .ok (.imul, 1) := by decide +kernel
theorem dX6_hangs_7 : decode cX6_hangs 7 = .ok (.iconst 2, 1) := by decide +kernel
theorem dX6_hangs_8 : decode cX6_hangs 8 = .ok (.iadd, 1) := by decide +kernel
theorem dX6_hangs_9 : decode cX6_hangs 9 = .ok (.iaload, 1) := by decide +kernel
theorem dX6_hangs_10 : decode cX6_hangs 10 = .ok (.iload_n 1, 1) := by decide +kernel
theorem dX6_hangs_11 : decode cX6_hangs 11 = .ok (.if_icmp .ne 7, 3) := by decide +kernel
theorem dX6_hangs_14 : decode cX6_hangs 14 = .ok (.iconst 1, 1) := by decide +kernel
theorem dX6_hangs_15 : decode cX6_hangs 15 = .ok (.goto 4, 3) := by decide +kernel
theorem dX6_hangs_18 : decode cX6_hangs 18 = .ok (.iconst 0, 1) := by decide +kernel
theorem dX6_hangs_19 : decode cX6_hangs 19 = .ok (.istore_n 3, 1) := by decide +kernel
theorem dX6_hangs_20 : decode cX6_hangs 20 = .ok (.iload_n 3, 1) := by decide +kernel
theorem dX6_hangs_21 : decode cX6_hangs 21 = .ok (.ifCond .eq 14, 3) := by decide +kernel
theorem dX6_hangs_24 : decode cX6_hangs 24 = .ok (.aload_n 0, 1) := by decide +kernel
theorem dX6_hangs_25 : decode cX6_hangs 25 = .ok (.getfield 20, 3) := by decide +kernel
theorem dX6_hangs_28 : decode cX6_hangs 28 = .ok (.iconst 5, 1) := by decide +kernel
theorem dX6_hangs_29 : decode cX6_hangs 29 = .ok (.iload_n 2, 1) := by decide +kernel
theorem dX6_hangs_30 : decode cX6_hangs 30 = .ok (.imul, 1) := by decide +kernel
theorem dX6_hangs_31 : decode cX6_hangs 31 = .ok (.iaload, 1) := by decide +kernel
theorem dX6_hangs_32 : decode cX6_hangs 32 = .ok (.goto 13, 3) := by decide +kernel
theorem dX6_hangs_35 : decode cX6_hangs 35 = .ok (.aload_n 0, 1) := by decide +kernel
theorem dX6_hangs_36 : decode cX6_hangs 36 = .ok (.getfield 20, 3) := by decide +kernel
theorem dX6_hangs_39 : decode cX6_hangs 39 = .ok (.iconst 5, 1) := by decide +kernel
theorem dX6_hangs_40 : decode cX6_hangs 40 = .ok (.iload_n 2, 1) := by decide +kernel
theorem dX6_hangs_41 : decode cX6_hangs 41 = .ok (.imul, 1) := by decide +kernel
theorem dX6_hangs_42 : decode cX6_hangs 42 = .ok (.iconst 2, 1) := by decide +kernel
theorem dX6_hangs_43 : decode cX6_hangs 43 = .ok (.iadd, 1) := by decide +kernel
theorem dX6_hangs_44 : decode cX6_hangs 44 = .ok (.iaload, 1) := by decide +kernel
theorem dX6_hangs_45 : decode cX6_hangs 45 = .ok (.istore 4, 2) := by decide +kernel
theorem dX6_hangs_47 : decode cX6_hangs 47 = .ok (.iconst 0, 1) := by decide +kernel
theorem dX6_hangs_48 : decode cX6_hangs 48 = .ok (.istore 5, 2) := by decide +kernel
theorem dX6_hangs_50 : decode cX6_hangs 50 = .ok (.iload 5, 2) := by decide +kernel
theorem dX6_hangs_52 : decode cX6_hangs 52 = .ok (.aload_n 0, 1) := by decide +kernel
theorem dX6_hangs_53 : decode cX6_hangs 53 = .ok (.getfield 42, 3) := by decide +kernel
theorem dX6_hangs_56 : decode cX6_hangs 56 = .ok (.if_icmp .ge 167, 3) := by decide +kernel
theorem dX6_hangs_59 : decode cX6_hangs 59 = .ok (.ldc 138, 2) := by decide +kernel
theorem dX6_hangs_61 : decode cX6_hangs 61 = .ok (.istore 6, 2) := by decide +kernel
theorem dX6_hangs_63 : decode cX6_hangs 63 = .ok (.iconst 0, 1) := by decide +kernel
theorem dX6_hangs_64 : decode cX6_hangs 64 = .ok (.istore 7, 2) := by decide +kernel
theorem dX6_hangs_66 : decode cX6_hangs 66 = .ok (.iload 7, 2) := by decide +kernel
theorem dX6_hangs_68 : decode cX6_hangs 68 = .ok (.aload_n 0, 1) := by decide +kernel
theorem dX6_hangs_69 : decode cX6_hangs 69 = .ok (.getfield 42, 3) := by decide +kernel
theorem dX6_hangs_72 : decode cX6_hangs 72 = .ok (.if_icmp .ge 100, 3) := by decide +kernel
theorem dX6_hangs_75 : decode cX6_hangs 75 = .ok (.iload_n 3, 1) := by decide +kernel
theorem dX6_hangs_76 : decode cX6_hangs 76 = .ok (.ifCond .eq 25, 3) := by decide +kernel
theorem dX6_hangs_79 : decode cX6_hangs 79 = .ok (.aload_n 0, 1) := by decide +kernel
theorem dX6_hangs_80 : decode cX6_hangs 80 = .ok (.iload_n 2, 1) := by decide +kernel
theorem dX6_hangs_81 : decode cX6_hangs 81 = .ok (.aload_n 0, 1) := by decide +kernel
theorem dX6_hangs_82 : decode cX6_hangs 82 = .ok (.getfield 45, 3) := by decide +kernel
theorem dX6_hangs_85 : decode cX6_hangs 85 = .ok (.iload 5, 2) := by decide +kernel
theorem dX6_hangs_87 : decode cX6_hangs 87 = .ok (.iaload, 1) := by decide +kernel
theorem dX6_hangs_88 : decode cX6_hangs 88 = .ok (.aload_n 0, 1) := by decide +kernel
theorem dX6_hangs_89 : decode cX6_hangs 89 = .ok (.getfield 45, 3) := by decide +kernel
theorem dX6_hangs_92 : decode cX6_hangs 92 = .ok (.iload 7, 2) := by decide +kernel
theorem dX6_hangs_94 : decode cX6_hangs 94 = .ok (.iaload, 1) := by decide +kernel
theorem dX6_hangs_95 : decode cX6_hangs 95 = .ok (.invokevirtual 139, 3) := by decide +kernel
theorem dX6_hangs_98 : decode cX6_hangs 98 = .ok (.goto 22, 3) := by decide +kernel
theorem dX6_hangs_101 : decode cX6_hangs 101 = .ok (.aload_n 0, 1) := by decide +kernel
theorem dX6_hangs_102 : decode cX6_hangs 102 = .ok (.iload_n 2, 1) := by decide +kernel
theorem dX6_hangs_103 : decode cX6_hangs 103 = .ok (.aload_n 0, 1) := by decide +kernel
theorem dX6_hangs_104 : decode cX6_hangs 104 = .ok (.getfield 45, 3) := by decide +kernel
theorem dX6_hangs_107 : decode cX6_hangs 107 = .ok (.iload 7, 2) := by decide +kernel
theorem dX6_hangs_109 : decode cX6_hangs 109 = .ok (.iaload, 1) := by decide +kernel
theorem dX6_hangs_110 : decode cX6_hangs 110 = .ok (.aload_n 0, 1) := by decide +kernel
theorem dX6_hangs_111 : decode cX6_hangs 111 = .ok (.getfield 45, 3) := by decide +kernel
theorem dX6_hangs_114 : decode cX6_hangs 114 = .ok (.iload 5, 2) := by decide +kernel
theorem dX6_hangs_116 : decode cX6_hangs 116 = .ok (.iaload, 1) := by decide +kernel
theorem dX6_hangs_117 : decode cX6_hangs 117 = .ok (.invokevirtual 139, 3) := by decide +kernel
theorem dX6_hangs_120 : decode cX6_hangs 120 = .ok (.istore 8, 2) := by decide +kernel
theorem dX6_hangs_122 : decode cX6_hangs 122 = .ok (.aload_n 0, 1) := by decide +kernel
theorem dX6_hangs_123 : decode cX6_hangs 123 = .ok (.getfield 51, 3) := by decide +kernel
theorem dX6_hangs_126 : decode cX6_hangs 126 = .ok (.bipush 16, 2) := by decide +kernel
theorem dX6_hangs_128 : decode cX6_hangs 128 = .ok (.iload_n 1, 1) := by decide +kernel
theorem dX6_hangs_129 : decode cX6_hangs 129 = .ok (.imul, 1) := by decide +kernel
theorem dX6_hangs_130 : decode cX6_hangs 130 = .ok (.iload 7, 2) := by decide +kernel
theorem dX6_hangs_132 : decode cX6_hangs 132 = .ok (.iadd, 1) := by decide +kernel
theorem dX6_hangs_133 : decode cX6_hangs 133 = .ok (.iaload, 1) := by decide +kernel
theorem dX6_hangs_134 : decode cX6_hangs 134 = .ok (.aload_n 0, 1) := by decide +kernel
theorem dX6_hangs_135 : decode cX6_hangs 135 = .ok (.getfield 20, 3) := by decide +kernel
theorem dX6_hangs_138 : decode cX6_hangs 138 = .ok (.iconst 5, 1) := by decide +kernel
theorem dX6_hangs_139 : decode cX6_hangs 139 = .ok (.iload_n 2, 1) := by decide +kernel
theorem dX6_hangs_140 : decode cX6_hangs 140 = .ok (.imul, 1) := by decide +kernel
theorem dX6_hangs_141 : decode cX6_hangs 141 = .ok (.iconst 4, 1) := by decide +kernel
theorem dX6_hangs_142 : decode cX6_hangs 142 = .ok (.iadd, 1) := by decide +kernel
theorem dX6_hangs_143 : decode cX6_hangs 143 = .ok (.iaload, 1) := by decide +kernel
theorem dX6_hangs_144 : decode cX6_hangs 144 = .ok (.iload 8, 2) := by decide +kernel
theorem dX6_hangs_146 : decode cX6_hangs 146 = .ok (.imul, 1) := by decide +kernel
theorem dX6_hangs_147 : decode cX6_hangs 147 = .ok (.iadd, 1) := by decide +kernel
theorem dX6_hangs_148 : decode cX6_hangs 148 = .ok (.istore 9, 2) := by decide +kernel
theorem dX6_hangs_150 : decode cX6_hangs 150 = .ok (.iload 9, 2) := by decide +kernel
theorem dX6_hangs_152 : decode cX6_hangs 152 = .ok (.iload 6, 2) := by decide +kernel
theorem dX6_hangs_154 : decode cX6_hangs 154 = .ok (.if_icmp .ge 8, 3) := by decide +kernel
theorem dX6_hangs_157 : decode cX6_hangs 157 = .ok (.iload 9, 2) := by decide +kernel
theorem dX6_hangs_159 : decode cX6_hangs 159 = .ok (.goto 5, 3) := by decide +kernel
theorem dX6_hangs_162 : decode cX6_hangs 162 = .ok (.iload 6, 2) := by decide +kernel
theorem dX6_hangs_164 : decode cX6_hangs 164 = .ok (.istore 6, 2) := by decide +kernel
theorem dX6_hangs_166 : decode cX6_hangs 166 = .ok (.iinc 7 1, 3) := by decide +kernel
theorem dX6_hangs_169 : decode cX6_hangs 169 = .ok (.goto (-103), 3) := by decide +kernel
theorem dX6_hangs_172 : decode cX6_hangs 172 = .ok (.aload_n 0, 1) := by decide +kernel
theorem dX6_hangs_173 : decode cX6_hangs 173 = .ok (.getfield 51, 3) := by decide +kernel
theorem dX6_hangs_176 : decode cX6_hangs 176 = .ok (.bipush 16, 2) := by decide +kernel
theorem dX6_hangs_178 : decode cX6_hangs 178 = .ok (.iload 4, 2) := by decide +kernel
theorem dX6_hangs_180 : decode cX6_hangs 180 = .ok (.imul, 1) := by decide +kernel
theorem dX6_hangs_181 : decode cX6_hangs 181 = .ok (.iload 5, 2) := by decide +kernel
theorem dX6_hangs_183 : decode cX6_hangs 183 = .ok (.iadd, 1) := by decide +kernel
theorem dX6_hangs_184 : decode cX6_hangs 184 = .ok (.iaload, 1) := by decide +kernel
theorem dX6_hangs_185 : decode cX6_hangs 185 = .ok (.iload 6, 2) := by decide +kernel
theorem dX6_hangs_187 : decode cX6_hangs 187 = .ok (.iadd, 1) := by decide +kernel
theorem dX6_hangs_188 : decode cX6_hangs 188 = .ok (.istore 7, 2) := by decide +kernel
theorem dX6_hangs_190 : decode cX6_hangs 190 = .ok (.aload_n 0, 1) := by decide +kernel
theorem dX6_hangs_191 : decode cX6_hangs 191 = .ok (.getfield 51, 3) := by decide +kernel
theorem dX6_hangs_194 : decode cX6_hangs 194 = .ok (.bipush 16, 2) := by decide +kernel
theorem dX6_hangs_196 : decode cX6_hangs 196 = .ok (.iload 4, 2) := by decide +kernel
theorem dX6_hangs_198 : decode cX6_hangs 198 = .ok (.imul, 1) := by decide +kernel
theorem dX6_hangs_199 : decode cX6_hangs 199 = .ok (.iload 5, 2) := by decide +kernel
theorem dX6_hangs_201 : decode cX6_hangs 201 = .ok (.iadd, 1) := by decide +kernel
theorem dX6_hangs_202 : decode cX6_hangs 202 = .ok (.iload 7, 2) := by decide +kernel
theorem dX6_hangs_204 : decode cX6_hangs 204 = .ok (.ldc 138, 2) := by decide +kernel
theorem dX6_hangs_206 : decode cX6_hangs 206 = .ok (.if_icmp .ge 8, 3) := by decide +kernel
theorem dX6_hangs_209 : decode cX6_hangs 209 = .ok (.iload 7, 2) := by decide +kernel
theorem dX6_hangs_211 : decode cX6_hangs 211 = .ok (.goto 5, 3) := by decide +kernel
theorem dX6_hangs_214 : decode cX6_hangs 214 = .ok (.ldc 138, 2) := by decide +kernel
theorem dX6_hangs_216 : decode cX6_hangs 216 = .ok (.iastore, 1) := by decide +kernel
theorem dX6_hangs_217 : decode cX6_hangs 217 = .ok (.iinc 5 1, 3) := by decide +kernel
theorem dX6_hangs_220 : decode cX6_hangs 220 = .ok (.goto (-170), 3) := by decide +kernel
theorem dX6_hangs_223 : decode cX6_hangs 223 = .ok (.return_, 1) := by decide +kernel
set_option maxRecDepth 20000 in
theorem ggX6_leastHarm_X6_hangs : GoodIn wsX6_leastHarm wsX6_hangs := goodIn_r _ [13, 14, 2, 5, 15, 3, 16, 17, 18, 12, 19, 20, 21, 22, 23, 24, 25, 26, 27, 28, 29, 30, 31, 32, 33, 34, 35, 36, 37, 38, 39, 40, 41] (by decide +kernel) (by decide +kernel)
set_option maxRecDepth 20000 in
theorem gX6_leastHarm_X6_hangs : GoodIn wsX6_leastHarm (wsV RX6 143 RX6 yX6_hangs wsX6_hangs) := goodIn_app (goodIn_of _ (by decide +kernel)) ggX6_leastHarm_X6_hangs
theorem dX6_leastHarm_0 : decode cX6_leastHarm 0 = .ok (.iconst 0, 1) := by decide +kernel
theorem dX6_leastHarm_1 : decode cX6_leastHarm 1 = .ok (.istore_n 1, 1) := by decide +kernel
theorem dX6_leastHarm_2 : decode cX6_leastHarm 2 = .ok (.iload_n 1, 1) := by decide +kernel
theorem dX6_leastHarm_3 : decode cX6_leastHarm 3 = .ok (.aload_n 0, 1) := by decide +kernel
theorem dX6_leastHarm_4 : decode cX6_leastHarm 4 = .ok (.getfield 57, 3) := by decide +kernel
theorem dX6_leastHarm_7 : decode cX6_leastHarm 7 = .ok (.if_icmp .ge 63, 3) := by decide +kernel
theorem dX6_leastHarm_10 : decode cX6_leastHarm 10 = .ok (.iconst 0, 1) := by decide +kernel
theorem dX6_leastHarm_11 : decode cX6_leastHarm 11 = .ok (.istore_n 2, 1) := by decide +kernel
theorem dX6_leastHarm_12 : decode cX6_leastHarm 12 = .ok (.iload_n 2, 1) := by decide +kernel
theorem dX6_leastHarm_13 : decode cX6_leastHarm 13 = .ok (.aload_n 0, 1) := by decide +kernel
theorem dX6_leastHarm_14 : decode cX6_leastHarm 14 = .ok (.getfield 42, 3) := by decide +kernel
theorem dX6_leastHarm_17 : decode cX6_leastHarm 17 = .ok (.if_icmp .ge 47, 3) := by decide +kernel
theorem dX6_leastHarm_20 : decode cX6_leastHarm 20 = .ok (.aload_n 0, 1) := by decide +kernel
theorem dX6_leastHarm_21 : decode cX6_leastHarm 21 = .ok (.getfield 51, 3) := by decide +kernel
theorem dX6_leastHarm_24 : decode cX6_leastHarm 24 = .ok (.bipush 16, 2) := by decide +kernel
theorem dX6_leastHarm_26 : decode cX6_leastHarm 26 = .ok (.iload_n 1, 1) := by decide +kernel
theorem dX6_leastHarm_27 : decode cX6_leastHarm 27 = .ok (.imul, 1) := by decide +kernel
theorem dX6_leastHarm_28 : decode cX6_leastHarm 28 = .ok (.iload_n 2, 1) := by decide +kernel
theorem dX6_leastHarm_29 : decode cX6_leastHarm 29 = .ok (.iadd, 1) := by decide +kernel
theorem dX6_leastHarm_30 : decode cX6_leastHarm 30 = .ok (.aload_n 0, 1) := by decide +kernel
theorem dX6_leastHarm_31 : decode cX6_leastHarm 31 = .ok (.getfield 48, 3) := by decide +kernel
theorem dX6_leastHarm_34 : decode cX6_leastHarm 34 = .ok (.iload_n 1, 1) := by decide +kernel
theorem dX6_leastHarm_35 : decode cX6_leastHarm 35 = .ok (.iaload, 1) := by decide +kernel
theorem dX6_leastHarm_36 : decode cX6_leastHarm 36 = .ok (.bipush (-9), 2) := by decide +kernel
theorem dX6_leastHarm_38 : decode cX6_leastHarm 38 = .ok (.if_icmp .eq 13, 3) := by decide +kernel
theorem dX6_leastHarm_41 : decode cX6_leastHarm 41 = .ok (.aload_n 0, 1) := by decide +kernel
theorem dX6_leastHarm_42 : decode cX6_leastHarm 42 = .ok (.getfield 48, 3) := by decide +kernel
theorem dX6_leastHarm_45 : decode cX6_leastHarm 45 = .ok (.iload_n 1, 1) := by decide +kernel
theorem dX6_leastHarm_46 : decode cX6_leastHarm 46 = .ok (.iaload, 1) := by decide +kernel
theorem dX6_leastHarm_47 : decode cX6_leastHarm 47 = .ok (.iload_n 2, 1) := by decide +kernel
theorem dX6_leastHarm_48 : decode cX6_leastHarm 48 = .ok (.if_icmp .ne 7, 3) := by decide +kernel
theorem dX6_leastHarm_51 : decode cX6_leastHarm 51 = .ok (.iconst 0, 1) := by decide +kernel
theorem dX6_leastHarm_52 : decode cX6_leastHarm 52 = .ok (.goto 5, 3) := by decide +kernel
theorem dX6_leastHarm_55 : decode cX6_leastHarm 55 = .ok (.ldc 138, 2) := by decide +kernel
theorem dX6_leastHarm_57 : decode cX6_leastHarm 57 = .ok (.iastore, 1) := by decide +kernel
theorem dX6_leastHarm_58 : decode cX6_leastHarm 58 = .ok (.iinc 2 1, 3) := by decide +kernel
theorem dX6_leastHarm_61 : decode cX6_leastHarm 61 = .ok (.goto (-49), 3) := by decide +kernel
theorem dX6_leastHarm_64 : decode cX6_leastHarm 64 = .ok (.iinc 1 1, 3) := by decide +kernel
theorem dX6_leastHarm_67 : decode cX6_leastHarm 67 = .ok (.goto (-65), 3) := by decide +kernel
theorem dX6_leastHarm_70 : decode cX6_leastHarm 70 = .ok (.aload_n 0, 1) := by decide +kernel
theorem dX6_leastHarm_71 : decode cX6_leastHarm 71 = .ok (.getfield 85, 3) := by decide +kernel
theorem dX6_leastHarm_74 : decode cX6_leastHarm 74 = .ok (.iconst 1, 1) := by decide +kernel
theorem dX6_leastHarm_75 : decode cX6_leastHarm 75 = .ok (.isub, 1) := by decide +kernel
theorem dX6_leastHarm_76 : decode cX6_leastHarm 76 = .ok (.istore_n 1, 1) := by decide +kernel
theorem dX6_leastHarm_77 : decode cX6_leastHarm 77 = .ok (.iload_n 1, 1) := by decide +kernel
theorem dX6_leastHarm_78 : decode cX6_leastHarm 78 = .ok (.ifCond .le 25, 3) := by decide +kernel
theorem dX6_leastHarm_81 : decode cX6_leastHarm 81 = .ok (.aload_n 0, 1) := by decide +kernel
theorem dX6_leastHarm_82 : decode cX6_leastHarm 82 = .ok (.aload_n 0, 1) := by decide +kernel
theorem dX6_leastHarm_83 : decode cX6_leastHarm 83 = .ok (.getfield 36, 3) := by decide +kernel
theorem dX6_leastHarm_86 : decode cX6_leastHarm 86 = .ok (.iload_n 1, 1) := by decide +kernel
theorem dX6_leastHarm_87 : decode cX6_leastHarm 87 = .ok (.iaload, 1) := by decide +kernel
theorem dX6_leastHarm_88 : decode cX6_leastHarm 88 = .ok (.aload_n 0, 1) := by decide +kernel
theorem dX6_leastHarm_89 : decode cX6_leastHarm 89 = .ok (.getfield 39, 3) := by decide +kernel
theorem dX6_leastHarm_92 : decode cX6_leastHarm 92 = .ok (.iload_n 1, 1) := by decide +kernel
theorem dX6_leastHarm_93 : decode cX6_leastHarm 93 = .ok (.iaload, 1) := by decide +kernel
theorem dX6_leastHarm_94 : decode cX6_leastHarm 94 = .ok (.invokevirtual 143, 3) := by decide +kernel
theorem dX6_leastHarm_97 : decode cX6_leastHarm 97 = .ok (.iinc 1 (-1), 3) := by decide +kernel
theorem dX6_leastHarm_100 : decode cX6_leastHarm 100 = .ok (.goto (-23), 3) := by decide +kernel
theorem dX6_leastHarm_103 : decode cX6_leastHarm 103 = .ok (.ldc 138, 2) := by decide +kernel
theorem dX6_leastHarm_105 : decode cX6_leastHarm 105 = .ok (.istore_n 1, 1) := by decide +kernel
theorem dX6_leastHarm_106 : decode cX6_leastHarm 106 = .ok (.iconst 0, 1) := by decide +kernel
theorem dX6_leastHarm_107 : decode cX6_leastHarm 107 = .ok (.istore_n 2, 1) := by decide +kernel
theorem dX6_leastHarm_108 : decode cX6_leastHarm 108 = .ok (.iload_n 2, 1) := by decide +kernel
theorem dX6_leastHarm_109 : decode cX6_leastHarm 109 = .ok (.aload_n 0, 1) := by decide +kernel
theorem dX6_leastHarm_110 : decode cX6_leastHarm 110 = .ok (.getfield 42, 3) := by decide +kernel
theorem dX6_leastHarm_113 : decode cX6_leastHarm 113 = .ok (.if_icmp .ge 30, 3) := by decide +kernel
theorem dX6_leastHarm_116 : decode cX6_leastHarm 116 = .ok (.aload_n 0, 1) := by decide +kernel
theorem dX6_leastHarm_117 : decode cX6_leastHarm 117 = .ok (.getfield 51, 3) := by decide +kernel
theorem dX6_leastHarm_120 : decode cX6_leastHarm 120 = .ok (.iload_n 2, 1) := by decide +kernel
theorem dX6_leastHarm_121 : decode cX6_leastHarm 121 = .ok (.iaload, 1) := by decide +kernel
theorem dX6_leastHarm_122 : decode cX6_leastHarm 122 = .ok (.iload_n 1, 1) := by decide +kernel
theorem dX6_leastHarm_123 : decode cX6_leastHarm 123 = .ok (.if_icmp .ge 12, 3) := by decide +kernel
theorem dX6_leastHarm_126 : decode cX6_leastHarm 126 = .ok (.aload_n 0, 1) := by decide +kernel
theorem dX6_leastHarm_127 : decode cX6_leastHarm 127 = .ok (.getfield 51, 3) := by decide +kernel
theorem dX6_leastHarm_130 : decode cX6_leastHarm 130 = .ok (.iload_n 2, 1) := by decide +kernel
theorem dX6_leastHarm_131 : decode cX6_leastHarm 131 = .ok (.iaload, 1) := by decide +kernel
theorem dX6_leastHarm_132 : decode cX6_leastHarm 132 = .ok (.goto 4, 3) := by decide +kernel
theorem dX6_leastHarm_135 : decode cX6_leastHarm 135 = .ok (.iload_n 1, 1) := by decide +kernel
theorem dX6_leastHarm_136 : decode cX6_leastHarm 136 = .ok (.istore_n 1, 1) := by decide +kernel
theorem dX6_leastHarm_137 : decode cX6_leastHarm 137 = .ok (.iinc 2 1, 3) := by decide +kernel
theorem dX6_leastHarm_140 : decode cX6_leastHarm 140 = .ok (.goto (-32), 3) := by decide +kernel
theorem dX6_leastHarm_143 : decode cX6_leastHarm 143 = .ok (.iload_n 1, 1) := by decide +kernel
theorem dX6_leastHarm_144 : decode cX6_leastHarm 144 = .ok (.ireturn, 1) := by decide +kernel
set_option maxRecDepth 20000 in
theorem ggX6_findPlay_X6_spreadAll : GoodIn wsX6_findPlay wsX6_spreadAll := goodIn_r _ [10, 11, 12, 13, 14, 9, 15, 16, 17, 5, 18, 19, 20, 21, 22, 23, 24, 25, 26, 27, 28, 29, 30, 31, 32, 33, 34, 35, 36, 60, 61, 62, 63, 64, 65, 66, 67, 68, 69, 70, 71, 72, 73, 74, 75, 76, 77, 78] (by decide +kernel) (by decide +kernel)
set_option maxRecDepth 20000 in
theorem gX6_findPlay_X6_spreadAll : GoodIn wsX6_findPlay (wsV RX6 102 RX6 yX6_spreadAll wsX6_spreadAll) := goodIn_app (goodIn_of _ (by decide +kernel)) ggX6_findPlay_X6_spreadAll
set_option maxRecDepth 20000 in
theorem ggX6_findPlay_X6_isPinHeld : GoodIn wsX6_findPlay wsX6_isPinHeld := goodIn_r _ [40, 4, 41, 42, 43, 9, 44, 2, 45, 60, 61, 62, 63, 64, 65, 66, 67, 68, 69, 70, 71, 72, 73, 74, 75, 76, 77, 78] (by decide +kernel) (by decide +kernel)
set_option maxRecDepth 20000 in
theorem gX6_findPlay_X6_isPinHeld : GoodIn wsX6_findPlay (wsV RX6 113 RX6 yX6_isPinHeld wsX6_isPinHeld) := goodIn_app (goodIn_of _ (by decide +kernel)) ggX6_findPlay_X6_isPinHeld
set_option maxRecDepth 20000 in
theorem ggX6_findPlay_X6_placeOf : GoodIn wsX6_findPlay wsX6_placeOf := goodIn_r _ [44, 2, 45, 60, 61, 62, 63, 64, 65, 66, 67, 68, 69, 70, 71, 72, 73, 74, 75, 76, 77, 78] (by decide +kernel) (by decide +kernel)
set_option maxRecDepth 20000 in
theorem gX6_findPlay_X6_placeOf : GoodIn wsX6_findPlay (wsV RX6 99 RX6 yX6_placeOf wsX6_placeOf) := goodIn_app (goodIn_of _ (by decide +kernel)) ggX6_findPlay_X6_placeOf
set_option maxRecDepth 20000 in
theorem ggX6_findPlay_X6_leastHarm : GoodIn wsX6_findPlay wsX6_leastHarm := goodIn_r _ [49, 1, 2, 50, 3, 51, 29, 27, 28, 52, 53, 54, 9, 55, 16, 45, 56, 57, 58, 59, 19, 20, 21, 60, 61, 62, 63, 64, 65, 66, 67, 68, 69, 70, 71, 72, 73, 74, 75, 76, 77, 78] (by decide +kernel) (by decide +kernel)
set_option maxRecDepth 20000 in
theorem gX6_findPlay_X6_leastHarm : GoodIn wsX6_findPlay (wsV RX6 146 RX6 yX6_leastHarm wsX6_leastHarm) := goodIn_app (goodIn_of _ (by decide +kernel)) ggX6_findPlay_X6_leastHarm
theorem dX6_findPlay_0 : decode cX6_findPlay 0 = .ok (.aload_n 0, 1) := by decide +kernel
theorem dX6_findPlay_1 : decode cX6_findPlay 1 = .ok (.getfield 57, 3) := by decide +kernel
theorem dX6_findPlay_4 : decode cX6_findPlay 4 = .ok (.ifCond .eq 10, 3) := by decide +kernel
theorem dX6_findPlay_7 : decode cX6_findPlay 7 = .ok (.aload_n 0, 1) := by decide +kernel
theorem dX6_findPlay_8 : decode cX6_findPlay 8 = .ok (.getfield 42, 3) := by decide +kernel
theorem dX6_findPlay_11 : decode cX6_findPlay 11 = .ok (.ifCond .ne 5, 3) := by decide +kernel
theorem dX6_findPlay_14 : decode cX6_findPlay 14 = .ok (.iconst 0, 1) := by decide +kernel
theorem dX6_findPlay_15 : decode cX6_findPlay 15 = .ok (.ireturn, 1) := by decide +kernel
theorem dX6_findPlay_16 : decode cX6_findPlay 16 = .ok (.aload_n 0, 1) := by decide +kernel
theorem dX6_findPlay_17 : decode cX6_findPlay 17 = .ok (.iconst 0, 1) := by decide +kernel
theorem dX6_findPlay_18 : decode cX6_findPlay 18 = .ok (.invokevirtual 102, 3) := by decide +kernel
theorem dX6_findPlay_21 : decode cX6_findPlay 21 = .ok (.iconst 0, 1) := by decide +kernel
theorem dX6_findPlay_22 : decode cX6_findPlay 22 = .ok (.istore_n 1, 1) := by decide +kernel
theorem dX6_findPlay_23 : decode cX6_findPlay 23 = .ok (.iload_n 1, 1) := by decide +kernel
theorem dX6_findPlay_24 : decode cX6_findPlay 24 = .ok (.aload_n 0, 1) := by decide +kernel
theorem dX6_findPlay_25 : decode cX6_findPlay 25 = .ok (.getfield 57, 3) := by decide +kernel
theorem dX6_findPlay_28 : decode cX6_findPlay 28 = .ok (.if_icmp .ge 38, 3) := by decide +kernel
theorem dX6_findPlay_31 : decode cX6_findPlay 31 = .ok (.aload_n 0, 1) := by decide +kernel
theorem dX6_findPlay_32 : decode cX6_findPlay 32 = .ok (.getfield 48, 3) := by decide +kernel
theorem dX6_findPlay_35 : decode cX6_findPlay 35 = .ok (.iload_n 1, 1) := by decide +kernel
theorem dX6_findPlay_36 : decode cX6_findPlay 36 = .ok (.aload_n 0, 1) := by decide +kernel
theorem dX6_findPlay_37 : decode cX6_findPlay 37 = .ok (.iload_n 1, 1) := by decide +kernel
theorem dX6_findPlay_38 : decode cX6_findPlay 38 = .ok (.invokevirtual 113, 3) := by decide +kernel
theorem dX6_findPlay_41 : decode cX6_findPlay 41 = .ok (.ifCond .eq 16, 3) := by decide +kernel
theorem dX6_findPlay_44 : decode cX6_findPlay 44 = .ok (.aload_n 0, 1) := by decide +kernel
theorem dX6_findPlay_45 : decode cX6_findPlay 45 = .ok (.aload_n 0, 1) := by decide +kernel
theorem dX6_findPlay_46 : decode cX6_findPlay 46 = .ok (.getfield 13, 3) := by decide +kernel
theorem dX6_findPlay_49 : decode cX6_findPlay 49 = .ok (.iload_n 1, 1) := by decide +kernel
theorem dX6_findPlay_50 : decode cX6_findPlay 50 = .ok (.iaload, 1) := by decide +kernel
theorem dX6_findPlay_51 : decode cX6_findPlay 51 = .ok (.invokevirtual 99, 3) := by decide +kernel
theorem dX6_findPlay_54 : decode cX6_findPlay 54 = .ok (.goto 5, 3) := by decide +kernel
theorem dX6_findPlay_57 : decode cX6_findPlay 57 = .ok (.bipush (-9), 2) := by decide +kernel
theorem dX6_findPlay_59 : decode cX6_findPlay 59 = .ok (.iastore, 1) := by decide +kernel
theorem dX6_findPlay_60 : decode cX6_findPlay 60 = .ok (.iinc 1 1, 3) := by decide +kernel
theorem dX6_findPlay_63 : decode cX6_findPlay 63 = .ok (.goto (-40), 3) := by decide +kernel
theorem dX6_findPlay_66 : decode cX6_findPlay 66 = .ok (.aload_n 0, 1) := by decide +kernel
theorem dX6_findPlay_67 : decode cX6_findPlay 67 = .ok (.invokevirtual 146, 3) := by decide +kernel
theorem dX6_findPlay_70 : decode cX6_findPlay 70 = .ok (.istore_n 1, 1) := by decide +kernel
theorem dX6_findPlay_71 : decode cX6_findPlay 71 = .ok (.iconst 0, 1) := by decide +kernel
theorem dX6_findPlay_72 : decode cX6_findPlay 72 = .ok (.istore_n 2, 1) := by decide +kernel
theorem dX6_findPlay_73 : decode cX6_findPlay 73 = .ok (.iload_n 2, 1) := by decide +kernel
theorem dX6_findPlay_74 : decode cX6_findPlay 74 = .ok (.aload_n 0, 1) := by decide +kernel
theorem dX6_findPlay_75 : decode cX6_findPlay 75 = .ok (.getfield 57, 3) := by decide +kernel
theorem dX6_findPlay_78 : decode cX6_findPlay 78 = .ok (.if_icmp .ge 59, 3) := by decide +kernel
theorem dX6_findPlay_81 : decode cX6_findPlay 81 = .ok (.aload_n 0, 1) := by decide +kernel
theorem dX6_findPlay_82 : decode cX6_findPlay 82 = .ok (.getfield 48, 3) := by decide +kernel
theorem dX6_findPlay_85 : decode cX6_findPlay 85 = .ok (.iload_n 2, 1) := by decide +kernel
theorem dX6_findPlay_86 : decode cX6_findPlay 86 = .ok (.iaload, 1) := by decide +kernel
theorem dX6_findPlay_87 : decode cX6_findPlay 87 = .ok (.bipush (-9), 2) := by decide +kernel
theorem dX6_findPlay_89 : decode cX6_findPlay 89 = .ok (.if_icmp .ne 42, 3) := by decide +kernel
theorem dX6_findPlay_92 : decode cX6_findPlay 92 = .ok (.aload_n 0, 1) := by decide +kernel
theorem dX6_findPlay_93 : decode cX6_findPlay 93 = .ok (.getfield 26, 3) := by decide +kernel
theorem dX6_findPlay_96 : decode cX6_findPlay 96 = .ok (.iload_n 2, 1) := by decide +kernel
theorem dX6_findPlay_97 : decode cX6_findPlay 97 = .ok (.laload, 1) := by decide +kernel
theorem dX6_findPlay_98 : decode cX6_findPlay 98 = .ok (.lconst 0, 1) := by decide +kernel
theorem dX6_findPlay_99 : decode cX6_findPlay 99 = .ok (.lcmp, 1) := by decide +kernel
theorem dX6_findPlay_100 : decode cX6_findPlay 100 = .ok (.ifCond .le 31, 3) := by decide +kernel
theorem dX6_findPlay_103 : decode cX6_findPlay 103 = .ok (.aload_n 0, 1) := by decide +kernel
theorem dX6_findPlay_104 : decode cX6_findPlay 104 = .ok (.getfield 48, 3) := by decide +kernel
theorem dX6_findPlay_107 : decode cX6_findPlay 107 = .ok (.iload_n 2, 1) := by decide +kernel
theorem dX6_findPlay_108 : decode cX6_findPlay 108 = .ok (.iconst 0, 1) := by decide +kernel
theorem dX6_findPlay_109 : decode cX6_findPlay 109 = .ok (.iastore, 1) := by decide +kernel
theorem dX6_findPlay_110 : decode cX6_findPlay 110 = .ok (.aload_n 0, 1) := by decide +kernel
theorem dX6_findPlay_111 : decode cX6_findPlay 111 = .ok (.invokevirtual 146, 3) := by decide +kernel
theorem dX6_findPlay_114 : decode cX6_findPlay 114 = .ok (.iload_n 1, 1) := by decide +kernel
theorem dX6_findPlay_115 : decode cX6_findPlay 115 = .ok (.if_icmp .eq 16, 3) := by decide +kernel
theorem dX6_findPlay_118 : decode cX6_findPlay 118 = .ok (.aload_n 0, 1) := by decide +kernel
theorem dX6_findPlay_119 : decode cX6_findPlay 119 = .ok (.getfield 48, 3) := by decide +kernel
theorem dX6_findPlay_122 : decode cX6_findPlay 122 = .ok (.iload_n 2, 1) := by decide +kernel
theorem dX6_findPlay_123 : decode cX6_findPlay 123 = .ok (.dup2, 1) := by decide +kernel
theorem dX6_findPlay_124 : decode cX6_findPlay 124 = .ok (.iaload, 1) := by decide +kernel
theorem dX6_findPlay_125 : decode cX6_findPlay 125 = .ok (.iconst 1, 1) := by decide +kernel
theorem dX6_findPlay_126 : decode cX6_findPlay 126 = .ok (.iadd, 1) := by decide +kernel
theorem dX6_findPlay_127 : decode cX6_findPlay 127 = .ok (.iastore, 1) := by decide +kernel
theorem dX6_findPlay_128 : decode cX6_findPlay 128 = .ok (.goto (-18), 3) := by decide +kernel
theorem dX6_findPlay_131 : decode cX6_findPlay 131 = .ok (.iinc 2 1, 3) := by decide +kernel
theorem dX6_findPlay_134 : decode cX6_findPlay 134 = .ok (.goto (-61), 3) := by decide +kernel
theorem dX6_findPlay_137 : decode cX6_findPlay 137 = .ok (.iconst 1, 1) := by decide +kernel
theorem dX6_findPlay_138 : decode cX6_findPlay 138 = .ok (.ireturn, 1) := by decide +kernel
set_option maxRecDepth 20000 in
theorem ggX6_harm_X6_findPlay : GoodIn wsX6_harm wsX6_findPlay := goodIn_r _ [5, 6, 7, 8, 9, 10, 11, 12, 13, 4, 14, 15, 16, 17, 18, 19, 20, 21, 22, 23, 24, 25, 26, 27, 28, 29, 30, 31, 32, 33, 34, 35, 36, 37, 38, 39, 40, 41, 42, 43, 44, 45, 46, 47, 48, 49, 50, 51, 52, 53, 54, 55, 56, 57, 58, 59, 60, 61, 62, 63, 64, 65, 66, 67, 68, 69, 70, 71, 72, 73, 74, 75, 76, 77, 78, 79, 80, 81, 82] (by decide +kernel) (by decide +kernel)
set_option maxRecDepth 20000 in
theorem gX6_harm_X6_findPlay : GoodIn wsX6_harm (wsV RX6 149 RX6 yX6_findPlay wsX6_findPlay) := goodIn_app (goodIn_of _ (by decide +kernel)) ggX6_harm_X6_findPlay
set_option maxRecDepth 20000 in
theorem ggX6_harm_X6_leastHarm : GoodIn wsX6_harm wsX6_leastHarm := goodIn_r _ [53, 6, 7, 54, 8, 55, 33, 31, 32, 56, 57, 58, 4, 59, 20, 49, 60, 61, 62, 63, 23, 24, 25, 64, 65, 66, 67, 68, 69, 70, 71, 72, 73, 74, 75, 76, 77, 78, 79, 80, 81, 82] (by decide +kernel) (by decide +kernel)
set_option maxRecDepth 20000 in
theorem gX6_harm_X6_leastHarm : GoodIn wsX6_harm (wsV RX6 146 RX6 yX6_leastHarm wsX6_leastHarm) := goodIn_app (goodIn_of _ (by decide +kernel)) ggX6_harm_X6_leastHarm
theorem dX6_harm_0 : decode cX6_harm 0 = .ok (.aload_n 0, 1) := by decide +kernel
theorem dX6_harm_1 : decode cX6_harm 1 = .ok (.invokevirtual 149, 3) := by decide +kernel
theorem dX6_harm_4 : decode cX6_harm 4 = .ok (.ifCond .eq 10, 3) := by decide +kernel
theorem dX6_harm_7 : decode cX6_harm 7 = .ok (.aload_n 0, 1) := by decide +kernel
theorem dX6_harm_8 : decode cX6_harm 8 = .ok (.invokevirtual 146, 3) := by decide +kernel
theorem dX6_harm_11 : decode cX6_harm 11 = .ok (.goto 5, 3) := by decide +kernel
theorem dX6_harm_14 : decode cX6_harm 14 = .ok (.bipush (-9), 2) := by decide +kernel
theorem dX6_harm_16 : decode cX6_harm 16 = .ok (.ireturn, 1) := by decide +kernel
theorem dX6_markBy_0 : decode cX6_markBy 0 = .ok (.aload_n 0, 1) := by decide +kernel
theorem dX6_markBy_1 : decode cX6_markBy 1 = .ok (.getfield 26, 3) := by decide +kernel
theorem dX6_markBy_4 : decode cX6_markBy 4 = .ok (.iload_n 1, 1) := by decide +kernel
theorem dX6_markBy_5 : decode cX6_markBy 5 = .ok (.laload, 1) := by decide +kernel
theorem dX6_markBy_6 : decode cX6_markBy 6 = .ok (.lconst 0, 1) := by decide +kernel
theorem dX6_markBy_7 : decode cX6_markBy 7 = .ok (.lcmp, 1) := by decide +kernel
theorem dX6_markBy_8 : decode cX6_markBy 8 = .ok (.ifCond .ne 8, 3) := by decide +kernel
theorem dX6_markBy_11 : decode cX6_markBy 11 = .ok (.bipush (-9), 2) := by decide +kernel
theorem dX6_markBy_13 : decode cX6_markBy 13 = .ok (.goto 14, 3) := by decide +kernel
theorem dX6_markBy_16 : decode cX6_markBy 16 = .ok (.aload_n 0, 1) := by decide +kernel
theorem dX6_markBy_17 : decode cX6_markBy 17 = .ok (.getfield 45, 3) := by decide +kernel
theorem dX6_markBy_20 : decode cX6_markBy 20 = .ok (.aload_n 0, 1) := by decide +kernel
theorem dX6_markBy_21 : decode cX6_markBy 21 = .ok (.getfield 48, 3) := by decide +kernel
theorem dX6_markBy_24 : decode cX6_markBy 24 = .ok (.iload_n 1, 1) := by decide +kernel
theorem dX6_markBy_25 : decode cX6_markBy 25 = .ok (.iaload, 1) := by decide +kernel
theorem dX6_markBy_26 : decode cX6_markBy 26 = .ok (.iaload, 1) := by decide +kernel
theorem dX6_markBy_27 : decode cX6_markBy 27 = .ok (.ireturn, 1) := by decide +kernel
set_option maxRecDepth 20000 in
theorem ggX6_play_X6_isSection : GoodIn wsX6_play wsX6_isSection := goodIn_r _ [5, 6, 7, 8, 4, 9, 75, 76, 77, 78, 79, 80, 81, 82, 83, 84, 85, 86, 87, 88, 89, 90, 91, 92, 93] (by decide +kernel) (by decide +kernel)
set_option maxRecDepth 20000 in
theorem gX6_play_X6_isSection : GoodIn wsX6_play (wsV RX6 67 RX6 yX6_isSection wsX6_isSection) := goodIn_app (goodIn_of _ (by decide +kernel)) ggX6_play_X6_isSection
set_option maxRecDepth 20000 in
theorem ggX6_play_X6_findPlay : GoodIn wsX6_play wsX6_findPlay := goodIn_r _ [13, 6, 14, 15, 16, 17, 18, 19, 20, 4, 21, 22, 23, 24, 25, 26, 27, 28, 29, 30, 31, 32, 33, 34, 35, 36, 37, 38, 39, 40, 41, 42, 43, 44, 45, 46, 47, 48, 49, 50, 51, 52, 53, 54, 55, 56, 57, 58, 59, 60, 61, 62, 63, 64, 65, 66, 67, 68, 69, 70, 75, 76, 77, 78, 79, 80, 81, 82, 83, 84, 85, 86, 87, 88, 89, 90, 91, 92, 93] (by decide +kernel) (by decide +kernel)
set_option maxRecDepth 20000 in
theorem gX6_play_X6_findPlay : GoodIn wsX6_play (wsV RX6 149 RX6 yX6_findPlay wsX6_findPlay) := goodIn_app (goodIn_of _ (by decide +kernel)) ggX6_play_X6_findPlay
set_option maxRecDepth 20000 in
theorem ggX6_play_X6_markBy : GoodIn wsX6_play wsX6_markBy := goodIn_r _ [74, 17, 56, 15, 75, 76, 77, 78, 79, 80, 81, 82, 83, 84, 85, 86, 87, 88, 89, 90, 91, 92, 93] (by decide +kernel) (by decide +kernel)
set_option maxRecDepth 20000 in
theorem gX6_play_X6_markBy : GoodIn wsX6_play (wsV RX6 153 RX6 yX6_markBy wsX6_markBy) := goodIn_app (goodIn_of _ (by decide +kernel)) ggX6_play_X6_markBy
theorem dX6_play_0 : decode cX6_play 0 = .ok (.aload_n 0, 1) := by decide +kernel
theorem dX6_play_1 : decode cX6_play 1 = .ok (.iload_n 1, 1) := by decide +kernel
theorem dX6_play_2 : decode cX6_play 2 = .ok (.invokevirtual 67, 3) := by decide +kernel
theorem dX6_play_5 : decode cX6_play 5 = .ok (.ifCond .ne 5, 3) := by decide +kernel
theorem dX6_play_8 : decode cX6_play 8 = .ok (.iconst (-1), 1) := by decide +kernel
theorem dX6_play_9 : decode cX6_play 9 = .ok (.ireturn, 1) := by decide +kernel
theorem dX6_play_10 : decode cX6_play 10 = .ok (.aload_n 0, 1) := by decide +kernel
theorem dX6_play_11 : decode cX6_play 11 = .ok (.invokevirtual 149, 3) := by decide +kernel
theorem dX6_play_14 : decode cX6_play 14 = .ok (.ifCond .eq 11, 3) := by decide +kernel
theorem dX6_play_17 : decode cX6_play 17 = .ok (.aload_n 0, 1) := by decide +kernel
theorem dX6_play_18 : decode cX6_play 18 = .ok (.iload_n 1, 1) := by decide +kernel
theorem dX6_play_19 : decode cX6_play 19 = .ok (.invokevirtual 153, 3) := by decide +kernel
theorem dX6_play_22 : decode cX6_play 22 = .ok (.goto 5, 3) := by decide +kernel
theorem dX6_play_25 : decode cX6_play 25 = .ok (.bipush (-9), 2) := by decide +kernel
theorem dX6_play_27 : decode cX6_play 27 = .ok (.ireturn, 1) := by decide +kernel
set_option maxRecDepth 20000 in
theorem ggX6_drift_X6_isTie : GoodIn wsX6_drift wsX6_isTie := goodIn_r _ [6, 7, 8, 9, 5, 10, 75, 76, 77, 78, 79, 80, 81, 82, 83, 84, 85, 86, 87, 88, 89, 90, 91, 92, 93] (by decide +kernel) (by decide +kernel)
set_option maxRecDepth 20000 in
theorem gX6_drift_X6_isTie : GoodIn wsX6_drift (wsV RX6 74 RX6 yX6_isTie wsX6_isTie) := goodIn_app (goodIn_of _ (by decide +kernel)) ggX6_drift_X6_isTie
set_option maxRecDepth 20000 in
theorem ggX6_drift_X6_findPlay : GoodIn wsX6_drift wsX6_findPlay := goodIn_r _ [14, 15, 16, 17, 18, 19, 20, 21, 22, 5, 23, 7, 24, 25, 26, 27, 1, 28, 29, 30, 31, 32, 33, 34, 35, 36, 37, 38, 39, 40, 41, 42, 43, 44, 45, 46, 47, 48, 49, 50, 51, 52, 53, 54, 55, 56, 57, 58, 59, 60, 61, 62, 63, 64, 65, 66, 67, 68, 69, 70, 75, 76, 77, 78, 79, 80, 81, 82, 83, 84, 85, 86, 87, 88, 89, 90, 91, 92, 93] (by decide +kernel) (by decide +kernel)
set_option maxRecDepth 20000 in
theorem gX6_drift_X6_findPlay : GoodIn wsX6_drift (wsV RX6 149 RX6 yX6_findPlay wsX6_findPlay) := goodIn_app (goodIn_of _ (by decide +kernel)) ggX6_drift_X6_findPlay
set_option maxRecDepth 20000 in
theorem ggX6_drift_X6_markBy : GoodIn wsX6_drift wsX6_markBy := goodIn_r _ [74, 19, 56, 17, 75, 76, 77, 78, 79, 80, 81, 82, 83, 84, 85, 86, 87, 88, 89, 90, 91, 92, 93] (by decide +kernel) (by decide +kernel)
set_option maxRecDepth 20000 in
theorem gX6_drift_X6_markBy : GoodIn wsX6_drift (wsV RX6 153 RX6 yX6_markBy wsX6_markBy) := goodIn_app (goodIn_of _ (by decide +kernel)) ggX6_drift_X6_markBy
set_option maxRecDepth 20000 in
theorem ggX6_drift_X6_driftBy : GoodIn wsX6_drift wsX6_driftBy := goodIn_r _ [70, 1, 30, 31, 5, 32, 75, 76, 77, 78, 79, 80, 81, 82, 83, 84, 85, 86, 87, 88, 89, 90, 91, 92, 93] (by decide +kernel) (by decide +kernel)
set_option maxRecDepth 20000 in
theorem gX6_drift_X6_driftBy : GoodIn wsX6_drift (wsV RX6 139 RX6 yX6_driftBy wsX6_driftBy) := goodIn_app (goodIn_of _ (by decide +kernel)) ggX6_drift_X6_driftBy
theorem dX6_drift_0 : decode cX6_drift 0 = .ok (.aload_n 0, 1) := by decide +kernel
theorem dX6_drift_1 : decode cX6_drift 1 = .ok (.iload_n 1, 1) := by decide +kernel
theorem dX6_drift_2 : decode cX6_drift 2 = .ok (.invokevirtual 74, 3) := by decide +kernel
theorem dX6_drift_5 : decode cX6_drift 5 = .ok (.ifCond .ne 5, 3) := by decide +kernel
theorem dX6_drift_8 : decode cX6_drift 8 = .ok (.iconst (-1), 1) := by decide +kernel
theorem dX6_drift_9 : decode cX6_drift 9 = .ok (.ireturn, 1) := by decide +kernel
theorem dX6_drift_10 : decode cX6_drift 10 = .ok (.aload_n 0, 1) := by decide +kernel
theorem dX6_drift_11 : decode cX6_drift 11 = .ok (.invokevirtual 149, 3) := by decide +kernel
theorem dX6_drift_14 : decode cX6_drift 14 = .ok (.ifCond .ne 6, 3) := by decide +kernel
theorem dX6_drift_17 : decode cX6_drift 17 = .ok (.bipush (-9), 2) := by decide +kernel
theorem dX6_drift_19 : decode cX6_drift 19 = .ok (.ireturn, 1) := by decide +kernel
theorem dX6_drift_20 : decode cX6_drift 20 = .ok (.aload_n 0, 1) := by decide +kernel
theorem dX6_drift_21 : decode cX6_drift 21 = .ok (.aload_n 0, 1) := by decide +kernel
theorem dX6_drift_22 : decode cX6_drift 22 = .ok (.getfield 20, 3) := by decide +kernel
theorem dX6_drift_25 : decode cX6_drift 25 = .ok (.iconst 5, 1) := by decide +kernel
theorem dX6_drift_26 : decode cX6_drift 26 = .ok (.iload_n 1, 1) := by decide +kernel
theorem dX6_drift_27 : decode cX6_drift 27 = .ok (.imul, 1) := by decide +kernel
theorem dX6_drift_28 : decode cX6_drift 28 = .ok (.iaload, 1) := by decide +kernel
theorem dX6_drift_29 : decode cX6_drift 29 = .ok (.invokevirtual 153, 3) := by decide +kernel
theorem dX6_drift_32 : decode cX6_drift 32 = .ok (.istore_n 2, 1) := by decide +kernel
theorem dX6_drift_33 : decode cX6_drift 33 = .ok (.aload_n 0, 1) := by decide +kernel
theorem dX6_drift_34 : decode cX6_drift 34 = .ok (.aload_n 0, 1) := by decide +kernel
theorem dX6_drift_35 : decode cX6_drift 35 = .ok (.getfield 20, 3) := by decide +kernel
theorem dX6_drift_38 : decode cX6_drift 38 = .ok (.iconst 5, 1) := by decide +kernel
theorem dX6_drift_39 : decode cX6_drift 39 = .ok (.iload_n 1, 1) := by decide +kernel
theorem dX6_drift_40 : decode cX6_drift 40 = .ok (.imul, 1) := by decide +kernel
theorem dX6_drift_41 : decode cX6_drift 41 = .ok (.iconst 2, 1) := by decide +kernel
theorem dX6_drift_42 : decode cX6_drift 42 = .ok (.iadd, 1) := by decide +kernel
theorem dX6_drift_43 : decode cX6_drift 43 = .ok (.iaload, 1) := by decide +kernel
theorem dX6_drift_44 : decode cX6_drift 44 = .ok (.invokevirtual 153, 3) := by decide +kernel
theorem dX6_drift_47 : decode cX6_drift 47 = .ok (.istore_n 3, 1) := by decide +kernel
theorem dX6_drift_48 : decode cX6_drift 48 = .ok (.iload_n 2, 1) := by decide +kernel
theorem dX6_drift_49 : decode cX6_drift 49 = .ok (.bipush (-9), 2) := by decide +kernel
theorem dX6_drift_51 : decode cX6_drift 51 = .ok (.if_icmp .eq 9, 3) := by decide +kernel
theorem dX6_drift_54 : decode cX6_drift 54 = .ok (.iload_n 3, 1) := by decide +kernel
theorem dX6_drift_55 : decode cX6_drift 55 = .ok (.bipush (-9), 2) := by decide +kernel
theorem dX6_drift_57 : decode cX6_drift 57 = .ok (.if_icmp .ne 8, 3) := by decide +kernel
theorem dX6_drift_60 : decode cX6_drift 60 = .ok (.bipush (-9), 2) := by decide +kernel
theorem dX6_drift_62 : decode cX6_drift 62 = .ok (.goto 10, 3) := by decide +kernel
theorem dX6_drift_65 : decode cX6_drift 65 = .ok (.aload_n 0, 1) := by decide +kernel
theorem dX6_drift_66 : decode cX6_drift 66 = .ok (.iload_n 1, 1) := by decide +kernel
theorem dX6_drift_67 : decode cX6_drift 67 = .ok (.iload_n 2, 1) := by decide +kernel
theorem dX6_drift_68 : decode cX6_drift 68 = .ok (.iload_n 3, 1) := by decide +kernel
theorem dX6_drift_69 : decode cX6_drift 69 = .ok (.invokevirtual 139, 3) := by decide +kernel
theorem dX6_drift_72 : decode cX6_drift 72 = .ok (.ireturn, 1) := by decide +kernel
set_option maxRecDepth 20000 in
theorem ggX6_lastsBy_X6_common : GoodIn wsX6_lastsBy wsX6_common := goodIn_r _ [8] (by decide +kernel) (by decide +kernel)
set_option maxRecDepth 20000 in
theorem gX6_lastsBy_X6_common : GoodIn wsX6_lastsBy (va_wsS RX6 81 yX6_common wsX6_common) := goodIn_app (goodIn_of _ (by decide +kernel)) ggX6_lastsBy_X6_common
theorem dX6_lastsBy_0 : decode cX6_lastsBy 0 = .ok (.iload_n 2, 1) := by decide +kernel
theorem dX6_lastsBy_1 : decode cX6_lastsBy 1 = .ok (.i2l, 1) := by decide +kernel
theorem dX6_lastsBy_2 : decode cX6_lastsBy 2 = .ok (.aload_n 0, 1) := by decide +kernel
theorem dX6_lastsBy_3 : decode cX6_lastsBy 3 = .ok (.getfield 26, 3) := by decide +kernel
theorem dX6_lastsBy_6 : decode cX6_lastsBy 6 = .ok (.iload_n 1, 1) := by decide +kernel
theorem dX6_lastsBy_7 : decode cX6_lastsBy 7 = .ok (.laload, 1) := by decide +kernel
theorem dX6_lastsBy_8 : decode cX6_lastsBy 8 = .ok (.lmul, 1) := by decide +kernel
theorem dX6_lastsBy_9 : decode cX6_lastsBy 9 = .ok (.lstore_n 3, 1) := by decide +kernel
theorem dX6_lastsBy_10 : decode cX6_lastsBy 10 = .ok (.lload_n 3, 1) := by decide +kernel
theorem dX6_lastsBy_11 : decode cX6_lastsBy 11 = .ok (.aload_n 0, 1) := by decide +kernel
theorem dX6_lastsBy_12 : decode cX6_lastsBy 12 = .ok (.getfield 30, 3) := by decide +kernel
theorem dX6_lastsBy_15 : decode cX6_lastsBy 15 = .ok (.iload_n 1, 1) := by decide +kernel
theorem dX6_lastsBy_16 : decode cX6_lastsBy 16 = .ok (.laload, 1) := by decide +kernel
theorem dX6_lastsBy_17 : decode cX6_lastsBy 17 = .ok (.invokestatic 81, 3) := by decide +kernel
theorem dX6_lastsBy_20 : decode cX6_lastsBy 20 = .ok (.lstore 5, 2) := by decide +kernel
theorem dX6_lastsBy_22 : decode cX6_lastsBy 22 = .ok (.aload_n 0, 1) := by decide +kernel
theorem dX6_lastsBy_23 : decode cX6_lastsBy 23 = .ok (.getfield 7, 3) := by decide +kernel
theorem dX6_lastsBy_26 : decode cX6_lastsBy 26 = .ok (.iload_n 1, 1) := by decide +kernel
theorem dX6_lastsBy_27 : decode cX6_lastsBy 27 = .ok (.iaload, 1) := by decide +kernel
theorem dX6_lastsBy_28 : decode cX6_lastsBy 28 = .ok (.i2l, 1) := by decide +kernel
theorem dX6_lastsBy_29 : decode cX6_lastsBy 29 = .ok (.ldc2_w 156, 3) := by decide +kernel
theorem dX6_lastsBy_32 : decode cX6_lastsBy 32 = .ok (.lmul, 1) := by decide +kernel
theorem dX6_lastsBy_33 : decode cX6_lastsBy 33 = .ok (.aload_n 0, 1) := by decide +kernel
theorem dX6_lastsBy_34 : decode cX6_lastsBy 34 = .ok (.getfield 30, 3) := by decide +kernel
theorem dX6_lastsBy_37 : decode cX6_lastsBy 37 = .ok (.iload_n 1, 1) := by decide +kernel
theorem dX6_lastsBy_38 : decode cX6_lastsBy 38 = .ok (.laload, 1) := by decide +kernel
theorem dX6_lastsBy_39 : decode cX6_lastsBy 39 = .ok (.lload 5, 2) := by decide +kernel
theorem dX6_lastsBy_41 : decode cX6_lastsBy 41 = .ok (.ldiv, 1) := by decide +kernel
theorem dX6_lastsBy_42 : decode cX6_lastsBy 42 = .ok (.lmul, 1) := by decide +kernel
theorem dX6_lastsBy_43 : decode cX6_lastsBy 43 = .ok (.lload_n 3, 1) := by decide +kernel
theorem dX6_lastsBy_44 : decode cX6_lastsBy 44 = .ok (.lload 5, 2) := by decide +kernel
theorem dX6_lastsBy_46 : decode cX6_lastsBy 46 = .ok (.ldiv, 1) := by decide +kernel
theorem dX6_lastsBy_47 : decode cX6_lastsBy 47 = .ok (.ldiv, 1) := by decide +kernel
theorem dX6_lastsBy_48 : decode cX6_lastsBy 48 = .ok (.lreturn, 1) := by decide +kernel
set_option maxRecDepth 20000 in
theorem ggX6_beginsAt_X6_lastsBy : GoodIn wsX6_beginsAt wsX6_lastsBy := goodIn_r _ [7, 1, 8, 9, 10, 11, 12, 6, 13, 14, 15, 16, 17, 18, 19, 20, 21, 22, 23, 24, 25, 26, 27, 28, 29, 30, 31, 32] (by decide +kernel) (by decide +kernel)
set_option maxRecDepth 20000 in
theorem gX6_beginsAt_X6_lastsBy : GoodIn wsX6_beginsAt (wsV RX6 158 RX6 yX6_lastsBy wsX6_lastsBy) := goodIn_app (goodIn_of _ (by decide +kernel)) ggX6_beginsAt_X6_lastsBy
theorem dX6_beginsAt_0 : decode cX6_beginsAt 0 = .ok (.lconst 0, 1) := by decide +kernel
theorem dX6_beginsAt_1 : decode cX6_beginsAt 1 = .ok (.lstore_n 2, 1) := by decide +kernel
theorem dX6_beginsAt_2 : decode cX6_beginsAt 2 = .ok (.iconst 0, 1) := by decide +kernel
theorem dX6_beginsAt_3 : decode cX6_beginsAt 3 = .ok (.istore 4, 2) := by decide +kernel
theorem dX6_beginsAt_5 : decode cX6_beginsAt 5 = .ok (.iload 4, 2) := by decide +kernel
theorem dX6_beginsAt_7 : decode cX6_beginsAt 7 = .ok (.iload_n 1, 1) := by decide +kernel
theorem dX6_beginsAt_8 : decode cX6_beginsAt 8 = .ok (.if_icmp .ge 38, 3) := by decide +kernel
theorem dX6_beginsAt_11 : decode cX6_beginsAt 11 = .ok (.lload_n 2, 1) := by decide +kernel
theorem dX6_beginsAt_12 : decode cX6_beginsAt 12 = .ok (.aload_n 0, 1) := by decide +kernel
theorem dX6_beginsAt_13 : decode cX6_beginsAt 13 = .ok (.getfield 26, 3) := by decide +kernel
theorem dX6_beginsAt_16 : decode cX6_beginsAt 16 = .ok (.iload 4, 2) := by decide +kernel
theorem dX6_beginsAt_18 : decode cX6_beginsAt 18 = .ok (.laload, 1) := by decide +kernel
theorem dX6_beginsAt_19 : decode cX6_beginsAt 19 = .ok (.lconst 0, 1) := by decide +kernel
theorem dX6_beginsAt_20 : decode cX6_beginsAt 20 = .ok (.lcmp, 1) := by decide +kernel
theorem dX6_beginsAt_21 : decode cX6_beginsAt 21 = .ok (.ifCond .le 16, 3) := by decide +kernel
theorem dX6_beginsAt_24 : decode cX6_beginsAt 24 = .ok (.aload_n 0, 1) := by decide +kernel
theorem dX6_beginsAt_25 : decode cX6_beginsAt 25 = .ok (.iload 4, 2) := by decide +kernel
theorem dX6_beginsAt_27 : decode cX6_beginsAt 27 = .ok (.aload_n 0, 1) := by decide +kernel
theorem dX6_beginsAt_28 : decode cX6_beginsAt 28 = .ok (.getfield 16, 3) := by decide +kernel
theorem dX6_beginsAt_31 : decode cX6_beginsAt 31 = .ok (.invokevirtual 158, 3) := by decide +kernel
theorem dX6_beginsAt_34 : decode cX6_beginsAt 34 = .ok (.goto 4, 3) := by decide +kernel
theorem dX6_beginsAt_37 : decode cX6_beginsAt 37 = .ok (.lconst 0, 1) := by decide +kernel
theorem dX6_beginsAt_38 : decode cX6_beginsAt 38 = .ok (.ladd, 1) := by decide +kernel
theorem dX6_beginsAt_39 : decode cX6_beginsAt 39 = .ok (.lstore_n 2, 1) := by decide +kernel
theorem dX6_beginsAt_40 : decode cX6_beginsAt 40 = .ok (.iinc 4 1, 3) := by decide +kernel
theorem dX6_beginsAt_43 : decode cX6_beginsAt 43 = .ok (.goto (-38), 3) := by decide +kernel
theorem dX6_beginsAt_46 : decode cX6_beginsAt 46 = .ok (.lload_n 2, 1) := by decide +kernel
theorem dX6_beginsAt_47 : decode cX6_beginsAt 47 = .ok (.lreturn, 1) := by decide +kernel
set_option maxRecDepth 20000 in
theorem ggX6_clock_X6_isSection : GoodIn wsX6_clock wsX6_isSection := goodIn_r _ [10, 11, 12, 13, 9, 14, 55, 56, 57, 58, 59, 60, 61, 62, 63, 64, 65, 66, 67, 68, 69, 70, 71, 72, 73] (by decide +kernel) (by decide +kernel)
set_option maxRecDepth 20000 in
theorem gX6_clock_X6_isSection : GoodIn wsX6_clock (wsV RX6 67 RX6 yX6_isSection wsX6_isSection) := goodIn_app (goodIn_of _ (by decide +kernel)) ggX6_clock_X6_isSection
set_option maxRecDepth 20000 in
theorem ggX6_clock_X6_isIn : GoodIn wsX6_clock wsX6_isIn := goodIn_r _ [14] (by decide +kernel) (by decide +kernel)
set_option maxRecDepth 20000 in
theorem gX6_clock_X6_isIn : GoodIn wsX6_clock (va_wsS RX6 60 yX6_isIn wsX6_isIn) := goodIn_app (goodIn_of _ (by decide +kernel)) ggX6_clock_X6_isIn
set_option maxRecDepth 20000 in
theorem ggX6_clock_X6_spreadAll : GoodIn wsX6_clock wsX6_spreadAll := goodIn_r _ [18, 19, 20, 21, 22, 9, 23, 24, 25, 3, 26, 27, 28, 29, 30, 31, 32, 33, 34, 35, 36, 37, 38, 39, 40, 41, 42, 43, 44, 55, 56, 57, 58, 59, 60, 61, 62, 63, 64, 65, 66, 67, 68, 69, 70, 71, 72, 73] (by decide +kernel) (by decide +kernel)
set_option maxRecDepth 20000 in
theorem gX6_clock_X6_spreadAll : GoodIn wsX6_clock (wsV RX6 102 RX6 yX6_spreadAll wsX6_spreadAll) := goodIn_app (goodIn_of _ (by decide +kernel)) ggX6_clock_X6_spreadAll
set_option maxRecDepth 20000 in
theorem ggX6_clock_X6_beginsAt : GoodIn wsX6_clock wsX6_beginsAt := goodIn_r _ [48, 3, 5, 49, 50, 51, 9, 52, 26, 53, 54, 42, 43, 44, 55, 56, 57, 58, 59, 60, 61, 62, 63, 64, 65, 66, 67, 68, 69, 70, 71, 72, 73] (by decide +kernel) (by decide +kernel)
set_option maxRecDepth 20000 in
theorem gX6_clock_X6_beginsAt : GoodIn wsX6_clock (wsV RX6 162 RX6 yX6_beginsAt wsX6_beginsAt) := goodIn_app (goodIn_of _ (by decide +kernel)) ggX6_clock_X6_beginsAt
set_option maxRecDepth 20000 in
theorem ggX6_clock_X6_lastsBy : GoodIn wsX6_clock wsX6_lastsBy := goodIn_r _ [52, 3, 26, 53, 54, 42, 43, 9, 44, 55, 56, 57, 58, 59, 60, 61, 62, 63, 64, 65, 66, 67, 68, 69, 70, 71, 72, 73] (by decide +kernel) (by decide +kernel)
set_option maxRecDepth 20000 in
theorem gX6_clock_X6_lastsBy : GoodIn wsX6_clock (wsV RX6 158 RX6 yX6_lastsBy wsX6_lastsBy) := goodIn_app (goodIn_of _ (by decide +kernel)) ggX6_clock_X6_lastsBy
theorem dX6_clock_0 : decode cX6_clock 0 = .ok (.aload_n 0, 1) := by decide +kernel
theorem dX6_clock_1 : decode cX6_clock 1 = .ok (.iload_n 1, 1) := by decide +kernel
theorem dX6_clock_2 : decode cX6_clock 2 = .ok (.invokevirtual 67, 3) := by decide +kernel
theorem dX6_clock_5 : decode cX6_clock 5 = .ok (.ifCond .ne 7, 3) := by decide +kernel
theorem dX6_clock_8 : decode cX6_clock 8 = .ok (.ldc2_w 116, 3) := by decide +kernel
theorem dX6_clock_11 : decode cX6_clock 11 = .ok (.lreturn, 1) := by decide +kernel
theorem dX6_clock_12 : decode cX6_clock 12 = .ok (.iload_n 2, 1) := by decide +kernel
theorem dX6_clock_13 : decode cX6_clock 13 = .ok (.iconst 0, 1) := by decide +kernel
theorem dX6_clock_14 : decode cX6_clock 14 = .ok (.iconst 1, 1) := by decide +kernel
theorem dX6_clock_15 : decode cX6_clock 15 = .ok (.invokestatic 60, 3) := by decide +kernel
theorem dX6_clock_18 : decode cX6_clock 18 = .ok (.ifCond .ne 7, 3) := by decide +kernel
theorem dX6_clock_21 : decode cX6_clock 21 = .ok (.ldc2_w 118, 3) := by decide +kernel
theorem dX6_clock_24 : decode cX6_clock 24 = .ok (.lreturn, 1) := by decide +kernel
theorem dX6_clock_25 : decode cX6_clock 25 = .ok (.aload_n 0, 1) := by decide +kernel
theorem dX6_clock_26 : decode cX6_clock 26 = .ok (.iconst 0, 1) := by decide +kernel
theorem dX6_clock_27 : decode cX6_clock 27 = .ok (.invokevirtual 102, 3) := by decide +kernel
theorem dX6_clock_30 : decode cX6_clock 30 = .ok (.aload_n 0, 1) := by decide +kernel
theorem dX6_clock_31 : decode cX6_clock 31 = .ok (.getfield 26, 3) := by decide +kernel
theorem dX6_clock_34 : decode cX6_clock 34 = .ok (.iload_n 1, 1) := by decide +kernel
theorem dX6_clock_35 : decode cX6_clock 35 = .ok (.laload, 1) := by decide +kernel
theorem dX6_clock_36 : decode cX6_clock 36 = .ok (.lconst 0, 1) := by decide +kernel
theorem dX6_clock_37 : decode cX6_clock 37 = .ok (.lcmp, 1) := by decide +kernel
theorem dX6_clock_38 : decode cX6_clock 38 = .ok (.ifCond .ne 9, 3) := by decide +kernel
theorem dX6_clock_41 : decode cX6_clock 41 = .ok (.ldc2_w 120, 3) := by decide +kernel
theorem dX6_clock_44 : decode cX6_clock 44 = .ok (.goto 24, 3) := by decide +kernel
theorem dX6_clock_47 : decode cX6_clock 47 = .ok (.iload_n 2, 1) := by decide +kernel
theorem dX6_clock_48 : decode cX6_clock 48 = .ok (.ifCond .ne 11, 3) := by decide +kernel
theorem dX6_clock_51 : decode cX6_clock 51 = .ok (.aload_n 0, 1) := by decide +kernel
theorem dX6_clock_52 : decode cX6_clock 52 = .ok (.iload_n 1, 1) := by decide +kernel
theorem dX6_clock_53 : decode cX6_clock 53 = .ok (.invokevirtual 162, 3) := by decide +kernel
theorem dX6_clock_56 : decode cX6_clock 56 = .ok (.goto 12, 3) := by decide +kernel
theorem dX6_clock_59 : decode cX6_clock 59 = .ok (.aload_n 0, 1) := by decide +kernel
theorem dX6_clock_60 : decode cX6_clock 60 = .ok (.iload_n 1, 1) := by decide +kernel
theorem dX6_clock_61 : decode cX6_clock 61 = .ok (.aload_n 0, 1) := by decide +kernel
theorem dX6_clock_62 : decode cX6_clock 62 = .ok (.getfield 16, 3) := by decide +kernel
theorem dX6_clock_65 : decode cX6_clock 65 = .ok (.invokevirtual 158, 3) := by decide +kernel
theorem dX6_clock_68 : decode cX6_clock 68 = .ok (.lreturn, 1) := by decide +kernel
set_option maxRecDepth 20000 in
theorem ggX6_whole_X6_spreadAll : GoodIn wsX6_whole wsX6_spreadAll := goodIn_r _ [6, 7, 8, 9, 10, 5, 11, 12, 13, 14, 15, 16, 17, 18, 19, 20, 21, 22, 23, 24, 25, 26, 27, 28, 29, 30, 31, 32, 33, 45, 46, 47, 48, 49, 50, 51, 52, 53, 54, 55, 56, 57, 58, 59, 60, 61, 62, 63] (by decide +kernel) (by decide +kernel)
set_option maxRecDepth 20000 in
theorem gX6_whole_X6_spreadAll : GoodIn wsX6_whole (wsV RX6 102 RX6 yX6_spreadAll wsX6_spreadAll) := goodIn_app (goodIn_of _ (by decide +kernel)) ggX6_whole_X6_spreadAll
set_option maxRecDepth 20000 in
theorem ggX6_whole_X6_beginsAt : GoodIn wsX6_whole wsX6_beginsAt := goodIn_r _ [37, 14, 38, 39, 40, 41, 5, 42, 15, 43, 44, 31, 32, 33, 45, 46, 47, 48, 49, 50, 51, 52, 53, 54, 55, 56, 57, 58, 59, 60, 61, 62, 63] (by decide +kernel) (by decide +kernel)
set_option maxRecDepth 20000 in
theorem gX6_whole_X6_beginsAt : GoodIn wsX6_whole (wsV RX6 162 RX6 yX6_beginsAt wsX6_beginsAt) := goodIn_app (goodIn_of _ (by decide +kernel)) ggX6_whole_X6_beginsAt
theorem dX6_whole_0 : decode cX6_whole 0 = .ok (.aload_n 0, 1) := by decide +kernel
theorem dX6_whole_1 : decode cX6_whole 1 = .ok (.iconst 0, 1) := by decide +kernel
theorem dX6_whole_2 : decode cX6_whole 2 = .ok (.invokevirtual 102, 3) := by decide +kernel
theorem dX6_whole_5 : decode cX6_whole 5 = .ok (.aload_n 0, 1) := by decide +kernel
theorem dX6_whole_6 : decode cX6_whole 6 = .ok (.aload_n 0, 1) := by decide +kernel
theorem dX6_whole_7 : decode cX6_whole 7 = .ok (.getfield 57, 3) := by decide +kernel
theorem dX6_whole_10 : decode cX6_whole 10 = .ok (.invokevirtual 162, 3) := by decide +kernel
theorem dX6_whole_13 : decode cX6_whole 13 = .ok (.lreturn, 1) := by decide +kernel
set_option maxRecDepth 20000 in
theorem ggX6_where_X6_isIn : GoodIn wsX6_where wsX6_isIn := goodIn_r _ [8] (by decide +kernel) (by decide +kernel)
set_option maxRecDepth 20000 in
theorem gX6_where_X6_isIn : GoodIn wsX6_where (va_wsS RX6 60 yX6_isIn wsX6_isIn) := goodIn_app (goodIn_of _ (by decide +kernel)) ggX6_where_X6_isIn
set_option maxRecDepth 20000 in
theorem ggX6_where_X6_spreadAll : GoodIn wsX6_where wsX6_spreadAll := goodIn_r _ [12, 13, 14, 15, 16, 7, 17, 18, 19, 3, 20, 21, 22, 23, 24, 25, 26, 27, 28, 29, 30, 31, 32, 33, 34, 35, 36, 37, 38, 45, 46, 47, 48, 49, 50, 51, 52, 53, 54, 55, 56, 57, 58, 59, 60, 61, 62, 63] (by decide +kernel) (by decide +kernel)
set_option maxRecDepth 20000 in
theorem gX6_where_X6_spreadAll : GoodIn wsX6_where (wsV RX6 102 RX6 yX6_spreadAll wsX6_spreadAll) := goodIn_app (goodIn_of _ (by decide +kernel)) ggX6_where_X6_spreadAll
set_option maxRecDepth 20000 in
theorem ggX6_where_X6_lastsBy : GoodIn wsX6_where wsX6_lastsBy := goodIn_r _ [42, 3, 20, 43, 44, 36, 37, 7, 38, 45, 46, 47, 48, 49, 50, 51, 52, 53, 54, 55, 56, 57, 58, 59, 60, 61, 62, 63] (by decide +kernel) (by decide +kernel)
set_option maxRecDepth 20000 in
theorem gX6_where_X6_lastsBy : GoodIn wsX6_where (wsV RX6 158 RX6 yX6_lastsBy wsX6_lastsBy) := goodIn_app (goodIn_of _ (by decide +kernel)) ggX6_where_X6_lastsBy
theorem dX6_where_0 : decode cX6_where 0 = .ok (.iload_n 1, 1) := by decide +kernel
theorem dX6_where_1 : decode cX6_where 1 = .ok (.iconst 0, 1) := by decide +kernel
theorem dX6_where_2 : decode cX6_where 2 = .ok (.ldc 166, 2) := by decide +kernel
theorem dX6_where_4 : decode cX6_where 4 = .ok (.invokestatic 60, 3) := by decide +kernel
theorem dX6_where_7 : decode cX6_where 7 = .ok (.ifCond .eq 12, 3) := by decide +kernel
theorem dX6_where_10 : decode cX6_where 10 = .ok (.iload_n 2, 1) := by decide +kernel
theorem dX6_where_11 : decode cX6_where 11 = .ok (.iconst 0, 1) := by decide +kernel
theorem dX6_where_12 : decode cX6_where 12 = .ok (.iconst 1, 1) := by decide +kernel
theorem dX6_where_13 : decode cX6_where 13 = .ok (.invokestatic 60, 3) := by decide +kernel
theorem dX6_where_16 : decode cX6_where 16 = .ok (.ifCond .ne 6, 3) := by decide +kernel
theorem dX6_where_19 : decode cX6_where 19 = .ok (.bipush (-2), 2) := by decide +kernel
theorem dX6_where_21 : decode cX6_where 21 = .ok (.ireturn, 1) := by decide +kernel
theorem dX6_where_22 : decode cX6_where 22 = .ok (.aload_n 0, 1) := by decide +kernel
theorem dX6_where_23 : decode cX6_where 23 = .ok (.iconst 0, 1) := by decide +kernel
theorem dX6_where_24 : decode cX6_where 24 = .ok (.invokevirtual 102, 3) := by decide +kernel
theorem dX6_where_27 : decode cX6_where 27 = .ok (.iload_n 1, 1) := by decide +kernel
theorem dX6_where_28 : decode cX6_where 28 = .ok (.i2l, 1) := by decide +kernel
theorem dX6_where_29 : decode cX6_where 29 = .ok (.lstore_n 3, 1) := by decide +kernel
theorem dX6_where_30 : decode cX6_where 30 = .ok (.iconst 0, 1) := by decide +kernel
theorem dX6_where_31 : decode cX6_where 31 = .ok (.istore 5, 2) := by decide +kernel
theorem dX6_where_33 : decode cX6_where 33 = .ok (.iload 5, 2) := by decide +kernel
theorem dX6_where_35 : decode cX6_where 35 = .ok (.aload_n 0, 1) := by decide +kernel
theorem dX6_where_36 : decode cX6_where 36 = .ok (.getfield 57, 3) := by decide +kernel
theorem dX6_where_39 : decode cX6_where 39 = .ok (.if_icmp .ge 61, 3) := by decide +kernel
theorem dX6_where_42 : decode cX6_where 42 = .ok (.aload_n 0, 1) := by decide +kernel
theorem dX6_where_43 : decode cX6_where 43 = .ok (.getfield 26, 3) := by decide +kernel
theorem dX6_where_46 : decode cX6_where 46 = .ok (.iload 5, 2) := by decide +kernel
theorem dX6_where_48 : decode cX6_where 48 = .ok (.laload, 1) := by decide +kernel
theorem dX6_where_49 : decode cX6_where 49 = .ok (.lconst 0, 1) := by decide +kernel
theorem dX6_where_50 : decode cX6_where 50 = .ok (.lcmp, 1) := by decide +kernel
theorem dX6_where_51 : decode cX6_where 51 = .ok (.ifCond .le 16, 3) := by decide +kernel
theorem dX6_where_54 : decode cX6_where 54 = .ok (.aload_n 0, 1) := by decide +kernel
theorem dX6_where_55 : decode cX6_where 55 = .ok (.iload 5, 2) := by decide +kernel
theorem dX6_where_57 : decode cX6_where 57 = .ok (.aload_n 0, 1) := by decide +kernel
theorem dX6_where_58 : decode cX6_where 58 = .ok (.getfield 16, 3) := by decide +kernel
theorem dX6_where_61 : decode cX6_where 61 = .ok (.invokevirtual 158, 3) := by decide +kernel
theorem dX6_where_64 : decode cX6_where 64 = .ok (.goto 4, 3) := by decide +kernel
theorem dX6_where_67 : decode cX6_where 67 = .ok (.lconst 0, 1) := by decide +kernel
theorem dX6_where_68 : decode cX6_where 68 = .ok (.lstore 6, 2) := by decide +kernel
theorem dX6_where_70 : decode cX6_where 70 = .ok (.lload_n 3, 1) := by decide +kernel
theorem dX6_where_71 : decode cX6_where 71 = .ok (.lload 6, 2) := by decide +kernel
theorem dX6_where_73 : decode cX6_where 73 = .ok (.lcmp, 1) := by decide +kernel
theorem dX6_where_74 : decode cX6_where 74 = .ok (.ifCond .ge 15, 3) := by decide +kernel
theorem dX6_where_77 : decode cX6_where 77 = .ok (.iload_n 2, 1) := by decide +kernel
theorem dX6_where_78 : decode cX6_where 78 = .ok (.ifCond .ne 8, 3) := by decide +kernel
theorem dX6_where_81 : decode cX6_where 81 = .ok (.iload 5, 2) := by decide +kernel
theorem dX6_where_83 : decode cX6_where 83 = .ok (.goto 5, 3) := by decide +kernel
theorem dX6_where_86 : decode cX6_where 86 = .ok (.lload_n 3, 1) := by decide +kernel
theorem dX6_where_87 : decode cX6_where 87 = .ok (.l2i, 1) := by decide +kernel
theorem dX6_where_88 : decode cX6_where 88 = .ok (.ireturn, 1) := by decide +kernel
theorem dX6_where_89 : decode cX6_where 89 = .ok (.lload_n 3, 1) := by decide +kernel
theorem dX6_where_90 : decode cX6_where 90 = .ok (.lload 6, 2) := by decide +kernel
theorem dX6_where_92 : decode cX6_where 92 = .ok (.lsub, 1) := by decide +kernel
theorem dX6_where_93 : decode cX6_where 93 = .ok (.lstore_n 3, 1) := by decide +kernel
theorem dX6_where_94 : decode cX6_where 94 = .ok (.iinc 5 1, 3) := by decide +kernel
theorem dX6_where_97 : decode cX6_where 97 = .ok (.goto (-64), 3) := by decide +kernel
theorem dX6_where_100 : decode cX6_where 100 = .ok (.bipush (-9), 2) := by decide +kernel
theorem dX6_where_102 : decode cX6_where 102 = .ok (.ireturn, 1) := by decide +kernel
set_option maxRecDepth 20000 in
theorem ggX6_within_X6_isIn : GoodIn wsX6_within wsX6_isIn := goodIn_r _ [7] (by decide +kernel) (by decide +kernel)
set_option maxRecDepth 20000 in
theorem gX6_within_X6_isIn : GoodIn wsX6_within (va_wsS RX6 60 yX6_isIn wsX6_isIn) := goodIn_app (goodIn_of _ (by decide +kernel)) ggX6_within_X6_isIn
set_option maxRecDepth 20000 in
theorem ggX6_within_X6_spreadAll : GoodIn wsX6_within wsX6_spreadAll := goodIn_r _ [11, 12, 13, 14, 15, 6, 16, 17, 18, 3, 19, 20, 21, 22, 23, 24, 25, 26, 27, 28, 29, 30, 31, 32, 33, 34, 35, 36, 37, 44, 45, 46, 47, 48, 49, 50, 51, 52, 53, 54, 55, 56, 57, 58, 59, 60, 61, 62] (by decide +kernel) (by decide +kernel)
set_option maxRecDepth 20000 in
theorem gX6_within_X6_spreadAll : GoodIn wsX6_within (wsV RX6 102 RX6 yX6_spreadAll wsX6_spreadAll) := goodIn_app (goodIn_of _ (by decide +kernel)) ggX6_within_X6_spreadAll
set_option maxRecDepth 20000 in
theorem ggX6_within_X6_lastsBy : GoodIn wsX6_within wsX6_lastsBy := goodIn_r _ [41, 3, 19, 42, 43, 35, 36, 6, 37, 44, 45, 46, 47, 48, 49, 50, 51, 52, 53, 54, 55, 56, 57, 58, 59, 60, 61, 62] (by decide +kernel) (by decide +kernel)
set_option maxRecDepth 20000 in
theorem gX6_within_X6_lastsBy : GoodIn wsX6_within (wsV RX6 158 RX6 yX6_lastsBy wsX6_lastsBy) := goodIn_app (goodIn_of _ (by decide +kernel)) ggX6_within_X6_lastsBy
theorem dX6_within_0 : decode cX6_within 0 = .ok (.iload_n 1, 1) := by decide +kernel
theorem dX6_within_1 : decode cX6_within 1 = .ok (.iconst 0, 1) := by decide +kernel
theorem dX6_within_2 : decode cX6_within 2 = .ok (.ldc 166, 2) := by decide +kernel
theorem dX6_within_4 : decode cX6_within 4 = .ok (.invokestatic 60, 3) := by decide +kernel
theorem dX6_within_7 : decode cX6_within 7 = .ok (.ifCond .ne 6, 3) := by decide +kernel
theorem dX6_within_10 : decode cX6_within 10 = .ok (.bipush (-2), 2) := by decide +kernel
theorem dX6_within_12 : decode cX6_within 12 = .ok (.ireturn, 1) := by decide +kernel
theorem dX6_within_13 : decode cX6_within 13 = .ok (.aload_n 0, 1) := by decide +kernel
theorem dX6_within_14 : decode cX6_within 14 = .ok (.iconst 0, 1) := by decide +kernel
theorem dX6_within_15 : decode cX6_within 15 = .ok (.invokevirtual 102, 3) := by decide +kernel
theorem dX6_within_18 : decode cX6_within 18 = .ok (.bipush 20, 2) := by decide +kernel
theorem dX6_within_20 : decode cX6_within 20 = .ok (.istore_n 2, 1) := by decide +kernel
theorem dX6_within_21 : decode cX6_within 21 = .ok (.iload_n 2, 1) := by decide +kernel
theorem dX6_within_22 : decode cX6_within 22 = .ok (.sipush 400, 3) := by decide +kernel
theorem dX6_within_25 : decode cX6_within 25 = .ok (.if_icmp .gt 64, 3) := by decide +kernel
theorem dX6_within_28 : decode cX6_within 28 = .ok (.lconst 0, 1) := by decide +kernel
theorem dX6_within_29 : decode cX6_within 29 = .ok (.lstore_n 3, 1) := by decide +kernel
theorem dX6_within_30 : decode cX6_within 30 = .ok (.iconst 0, 1) := by decide +kernel
theorem dX6_within_31 : decode cX6_within 31 = .ok (.istore 5, 2) := by decide +kernel
theorem dX6_within_33 : decode cX6_within 33 = .ok (.iload 5, 2) := by decide +kernel
theorem dX6_within_35 : decode cX6_within 35 = .ok (.aload_n 0, 1) := by decide +kernel
theorem dX6_within_36 : decode cX6_within 36 = .ok (.getfield 57, 3) := by decide +kernel
theorem dX6_within_39 : decode cX6_within 39 = .ok (.if_icmp .ge 35, 3) := by decide +kernel
theorem dX6_within_42 : decode cX6_within 42 = .ok (.lload_n 3, 1) := by decide +kernel
theorem dX6_within_43 : decode cX6_within 43 = .ok (.aload_n 0, 1) := by decide +kernel
theorem dX6_within_44 : decode cX6_within 44 = .ok (.getfield 26, 3) := by decide +kernel
theorem dX6_within_47 : decode cX6_within 47 = .ok (.iload 5, 2) := by decide +kernel
theorem dX6_within_49 : decode cX6_within 49 = .ok (.laload, 1) := by decide +kernel
theorem dX6_within_50 : decode cX6_within 50 = .ok (.lconst 0, 1) := by decide +kernel
theorem dX6_within_51 : decode cX6_within 51 = .ok (.lcmp, 1) := by decide +kernel
theorem dX6_within_52 : decode cX6_within 52 = .ok (.ifCond .le 13, 3) := by decide +kernel
theorem dX6_within_55 : decode cX6_within 55 = .ok (.aload_n 0, 1) := by decide +kernel
theorem dX6_within_56 : decode cX6_within 56 = .ok (.iload 5, 2) := by decide +kernel
theorem dX6_within_58 : decode cX6_within 58 = .ok (.iload_n 2, 1) := by decide +kernel
theorem dX6_within_59 : decode cX6_within 59 = .ok (.invokevirtual 158, 3) := by decide +kernel
theorem dX6_within_62 : decode cX6_within 62 = .ok (.goto 4, 3) := by decide +kernel
theorem dX6_within_65 : decode cX6_within 65 = .ok (.lconst 0, 1) := by decide +kernel
theorem dX6_within_66 : decode cX6_within 66 = .ok (.ladd, 1) := by decide +kernel
theorem dX6_within_67 : decode cX6_within 67 = .ok (.lstore_n 3, 1) := by decide +kernel
theorem dX6_within_68 : decode cX6_within 68 = .ok (.iinc 5 1, 3) := by decide +kernel
theorem dX6_within_71 : decode cX6_within 71 = .ok (.goto (-38), 3) := by decide +kernel
theorem dX6_within_74 : decode cX6_within 74 = .ok (.lload_n 3, 1) := by decide +kernel
theorem dX6_within_75 : decode cX6_within 75 = .ok (.iload_n 1, 1) := by decide +kernel
theorem dX6_within_76 : decode cX6_within 76 = .ok (.i2l, 1) := by decide +kernel
theorem dX6_within_77 : decode cX6_within 77 = .ok (.lcmp, 1) := by decide +kernel
theorem dX6_within_78 : decode cX6_within 78 = .ok (.ifCond .gt 5, 3) := by decide +kernel
theorem dX6_within_81 : decode cX6_within 81 = .ok (.iload_n 2, 1) := by decide +kernel
theorem dX6_within_82 : decode cX6_within 82 = .ok (.ireturn, 1) := by decide +kernel
theorem dX6_within_83 : decode cX6_within 83 = .ok (.iinc 2 1, 3) := by decide +kernel
theorem dX6_within_86 : decode cX6_within 86 = .ok (.goto (-65), 3) := by decide +kernel
theorem dX6_within_89 : decode cX6_within 89 = .ok (.bipush (-9), 2) := by decide +kernel
theorem dX6_within_91 : decode cX6_within 91 = .ok (.ireturn, 1) := by decide +kernel
set_option maxRecDepth 20000 in
theorem ggX6_pivot_X6_isSection : GoodIn wsX6_pivot wsX6_isSection := goodIn_r _ [8, 9, 10, 11, 7, 12, 42, 43, 44, 45, 46, 47, 48, 49, 50, 51, 52, 53, 54, 55, 56, 57, 58, 59, 60] (by decide +kernel) (by decide +kernel)
set_option maxRecDepth 20000 in
theorem gX6_pivot_X6_isSection : GoodIn wsX6_pivot (wsV RX6 67 RX6 yX6_isSection wsX6_isSection) := goodIn_app (goodIn_of _ (by decide +kernel)) ggX6_pivot_X6_isSection
set_option maxRecDepth 20000 in
theorem ggX6_pivot_X6_isIn : GoodIn wsX6_pivot wsX6_isIn := goodIn_r _ [12] (by decide +kernel) (by decide +kernel)
set_option maxRecDepth 20000 in
theorem gX6_pivot_X6_isIn : GoodIn wsX6_pivot (va_wsS RX6 60 yX6_isIn wsX6_isIn) := goodIn_app (goodIn_of _ (by decide +kernel)) ggX6_pivot_X6_isIn
set_option maxRecDepth 20000 in
theorem ggX6_pivot_X6_spreadAll : GoodIn wsX6_pivot wsX6_spreadAll := goodIn_r _ [16, 17, 18, 19, 20, 7, 21, 22, 23, 1, 3, 24, 25, 26, 27, 28, 29, 30, 31, 32, 33, 34, 35, 36, 37, 38, 39, 40, 41, 42, 43, 44, 45, 46, 47, 48, 49, 50, 51, 52, 53, 54, 55, 56, 57, 58, 59, 60] (by decide +kernel) (by decide +kernel)
set_option maxRecDepth 20000 in
theorem gX6_pivot_X6_spreadAll : GoodIn wsX6_pivot (wsV RX6 102 RX6 yX6_spreadAll wsX6_spreadAll) := goodIn_app (goodIn_of _ (by decide +kernel)) ggX6_pivot_X6_spreadAll
set_option maxRecDepth 20000 in
theorem ggX6_pivot_X6_ticksOf : GoodIn wsX6_pivot wsX6_ticksOf := goodIn_r _ [26] (by decide +kernel) (by decide +kernel)
set_option maxRecDepth 20000 in
theorem gX6_pivot_X6_ticksOf : GoodIn wsX6_pivot (va_wsS RX6 77 yX6_ticksOf wsX6_ticksOf) := goodIn_app (goodIn_of _ (by decide +kernel)) ggX6_pivot_X6_ticksOf
theorem dX6_pivot_0 : decode cX6_pivot 0 = .ok (.aload_n 0, 1) := by decide +kernel
theorem dX6_pivot_1 : decode cX6_pivot 1 = .ok (.iload_n 1, 1) := by decide +kernel
theorem dX6_pivot_2 : decode cX6_pivot 2 = .ok (.invokevirtual 67, 3) := by decide +kernel
theorem dX6_pivot_5 : decode cX6_pivot 5 = .ok (.ifCond .ne 5, 3) := by decide +kernel
theorem dX6_pivot_8 : decode cX6_pivot 8 = .ok (.iconst (-1), 1) := by decide +kernel
theorem dX6_pivot_9 : decode cX6_pivot 9 = .ok (.ireturn, 1) := by decide +kernel
theorem dX6_pivot_10 : decode cX6_pivot 10 = .ok (.iload_n 2, 1) := by decide +kernel
theorem dX6_pivot_11 : decode cX6_pivot 11 = .ok (.bipush 20, 2) := by decide +kernel
theorem dX6_pivot_13 : decode cX6_pivot 13 = .ok (.sipush 400, 3) := by decide +kernel
theorem dX6_pivot_16 : decode cX6_pivot 16 = .ok (.invokestatic 60, 3) := by decide +kernel
theorem dX6_pivot_19 : decode cX6_pivot 19 = .ok (.ifCond .eq 14, 3) := by decide +kernel
theorem dX6_pivot_22 : decode cX6_pivot 22 = .ok (.iload_n 3, 1) := by decide +kernel
theorem dX6_pivot_23 : decode cX6_pivot 23 = .ok (.iconst (-1), 1) := by decide +kernel
theorem dX6_pivot_24 : decode cX6_pivot 24 = .ok (.sipush 399, 3) := by decide +kernel
theorem dX6_pivot_27 : decode cX6_pivot 27 = .ok (.invokestatic 60, 3) := by decide +kernel
theorem dX6_pivot_30 : decode cX6_pivot 30 = .ok (.ifCond .ne 6, 3) := by decide +kernel
theorem dX6_pivot_33 : decode cX6_pivot 33 = .ok (.bipush (-2), 2) := by decide +kernel
theorem dX6_pivot_35 : decode cX6_pivot 35 = .ok (.ireturn, 1) := by decide +kernel
theorem dX6_pivot_36 : decode cX6_pivot 36 = .ok (.aload_n 0, 1) := by decide +kernel
theorem dX6_pivot_37 : decode cX6_pivot 37 = .ok (.iconst 0, 1) := by decide +kernel
theorem dX6_pivot_38 : decode cX6_pivot 38 = .ok (.invokevirtual 102, 3) := by decide +kernel
theorem dX6_pivot_41 : decode cX6_pivot 41 = .ok (.aload_n 0, 1) := by decide +kernel
theorem dX6_pivot_42 : decode cX6_pivot 42 = .ok (.getfield 26, 3) := by decide +kernel
theorem dX6_pivot_45 : decode cX6_pivot 45 = .ok (.iload_n 1, 1) := by decide +kernel
theorem dX6_pivot_46 : decode cX6_pivot 46 = .ok (.laload, 1) := by decide +kernel
theorem dX6_pivot_47 : decode cX6_pivot 47 = .ok (.lconst 0, 1) := by decide +kernel
theorem dX6_pivot_48 : decode cX6_pivot 48 = .ok (.lcmp, 1) := by decide +kernel
theorem dX6_pivot_49 : decode cX6_pivot 49 = .ok (.ifCond .ne 6, 3) := by decide +kernel
theorem dX6_pivot_52 : decode cX6_pivot 52 = .ok (.bipush (-3), 2) := by decide +kernel
theorem dX6_pivot_54 : decode cX6_pivot 54 = .ok (.ireturn, 1) := by decide +kernel
theorem dX6_pivot_55 : decode cX6_pivot 55 = .ok (.iconst 0, 1) := by decide +kernel
theorem dX6_pivot_56 : decode cX6_pivot 56 = .ok (.istore 4, 2) := by decide +kernel
theorem dX6_pivot_58 : decode cX6_pivot 58 = .ok (.iconst 0, 1) := by decide +kernel
theorem dX6_pivot_59 : decode cX6_pivot 59 = .ok (.istore 5, 2) := by decide +kernel
theorem dX6_pivot_61 : decode cX6_pivot 61 = .ok (.iload 5, 2) := by decide +kernel
theorem dX6_pivot_63 : decode cX6_pivot 63 = .ok (.sipush 400, 3) := by decide +kernel
theorem dX6_pivot_66 : decode cX6_pivot 66 = .ok (.if_icmp .ge 80, 3) := by decide +kernel
theorem dX6_pivot_69 : decode cX6_pivot 69 = .ok (.iload 5, 2) := by decide +kernel
theorem dX6_pivot_71 : decode cX6_pivot 71 = .ok (.bipush 20, 2) := by decide +kernel
theorem dX6_pivot_73 : decode cX6_pivot 73 = .ok (.idiv, 1) := by decide +kernel
theorem dX6_pivot_74 : decode cX6_pivot 74 = .ok (.istore 6, 2) := by decide +kernel
theorem dX6_pivot_76 : decode cX6_pivot 76 = .ok (.iload 5, 2) := by decide +kernel
theorem dX6_pivot_78 : decode cX6_pivot 78 = .ok (.bipush 20, 2) := by decide +kernel
theorem dX6_pivot_80 : decode cX6_pivot 80 = .ok (.irem, 1) := by decide +kernel
theorem dX6_pivot_81 : decode cX6_pivot 81 = .ok (.istore 7, 2) := by decide +kernel
theorem dX6_pivot_83 : decode cX6_pivot 83 = .ok (.aload_n 0, 1) := by decide +kernel
theorem dX6_pivot_84 : decode cX6_pivot 84 = .ok (.getfield 16, 3) := by decide +kernel
theorem dX6_pivot_87 : decode cX6_pivot 87 = .ok (.i2l, 1) := by decide +kernel
theorem dX6_pivot_88 : decode cX6_pivot 88 = .ok (.aload_n 0, 1) := by decide +kernel
theorem dX6_pivot_89 : decode cX6_pivot 89 = .ok (.getfield 26, 3) := by decide +kernel
theorem dX6_pivot_92 : decode cX6_pivot 92 = .ok (.iload_n 1, 1) := by decide +kernel
theorem dX6_pivot_93 : decode cX6_pivot 93 = .ok (.laload, 1) := by decide +kernel
theorem dX6_pivot_94 : decode cX6_pivot 94 = .ok (.lmul, 1) := by decide +kernel
theorem dX6_pivot_95 : decode cX6_pivot 95 = .ok (.iload 7, 2) := by decide +kernel
theorem dX6_pivot_97 : decode cX6_pivot 97 = .ok (.invokestatic 77, 3) := by decide +kernel
theorem dX6_pivot_100 : decode cX6_pivot 100 = .ok (.i2l, 1) := by decide +kernel
theorem dX6_pivot_101 : decode cX6_pivot 101 = .ok (.lmul, 1) := by decide +kernel
theorem dX6_pivot_102 : decode cX6_pivot 102 = .ok (.iload_n 2, 1) := by decide +kernel
theorem dX6_pivot_103 : decode cX6_pivot 103 = .ok (.i2l, 1) := by decide +kernel
theorem dX6_pivot_104 : decode cX6_pivot 104 = .ok (.aload_n 0, 1) := by decide +kernel
theorem dX6_pivot_105 : decode cX6_pivot 105 = .ok (.getfield 30, 3) := by decide +kernel
theorem dX6_pivot_108 : decode cX6_pivot 108 = .ok (.iload_n 1, 1) := by decide +kernel
theorem dX6_pivot_109 : decode cX6_pivot 109 = .ok (.laload, 1) := by decide +kernel
theorem dX6_pivot_110 : decode cX6_pivot 110 = .ok (.lmul, 1) := by decide +kernel
theorem dX6_pivot_111 : decode cX6_pivot 111 = .ok (.iload 6, 2) := by decide +kernel
theorem dX6_pivot_113 : decode cX6_pivot 113 = .ok (.invokestatic 77, 3) := by decide +kernel
theorem dX6_pivot_116 : decode cX6_pivot 116 = .ok (.i2l, 1) := by decide +kernel
theorem dX6_pivot_117 : decode cX6_pivot 117 = .ok (.lmul, 1) := by decide +kernel
theorem dX6_pivot_118 : decode cX6_pivot 118 = .ok (.lcmp, 1) := by decide +kernel
theorem dX6_pivot_119 : decode cX6_pivot 119 = .ok (.ifCond .ne 21, 3) := by decide +kernel
theorem dX6_pivot_122 : decode cX6_pivot 122 = .ok (.iload 4, 2) := by decide +kernel
theorem dX6_pivot_124 : decode cX6_pivot 124 = .ok (.iload_n 3, 1) := by decide +kernel
theorem dX6_pivot_125 : decode cX6_pivot 125 = .ok (.if_icmp .ne 12, 3) := by decide +kernel
theorem dX6_pivot_128 : decode cX6_pivot 128 = .ok (.bipush 100, 2) := by decide +kernel
theorem dX6_pivot_130 : decode cX6_pivot 130 = .ok (.iload 6, 2) := by decide +kernel
theorem dX6_pivot_132 : decode cX6_pivot 132 = .ok (.imul, 1) := by decide +kernel
theorem dX6_pivot_133 : decode cX6_pivot 133 = .ok (.iload 7, 2) := by decide +kernel
theorem dX6_pivot_135 : decode cX6_pivot 135 = .ok (.iadd, 1) := by decide +kernel
theorem dX6_pivot_136 : decode cX6_pivot 136 = .ok (.ireturn, 1) := by decide +kernel
theorem dX6_pivot_137 : decode cX6_pivot 137 = .ok (.iinc 4 1, 3) := by decide +kernel
theorem dX6_pivot_140 : decode cX6_pivot 140 = .ok (.iinc 5 1, 3) := by decide +kernel
theorem dX6_pivot_143 : decode cX6_pivot 143 = .ok (.goto (-82), 3) := by decide +kernel
theorem dX6_pivot_146 : decode cX6_pivot 146 = .ok (.iload_n 3, 1) := by decide +kernel
theorem dX6_pivot_147 : decode cX6_pivot 147 = .ok (.ifCond .ge 8, 3) := by decide +kernel
theorem dX6_pivot_150 : decode cX6_pivot 150 = .ok (.iload 4, 2) := by decide +kernel
theorem dX6_pivot_152 : decode cX6_pivot 152 = .ok (.goto 5, 3) := by decide +kernel
theorem dX6_pivot_155 : decode cX6_pivot 155 = .ok (.bipush (-9), 2) := by decide +kernel
theorem dX6_pivot_157 : decode cX6_pivot 157 = .ok (.ireturn, 1) := by decide +kernel
theorem dX6_timesIn_0 : decode cX6_timesIn 0 = .ok (.iconst 0, 1) := by decide +kernel
theorem dX6_timesIn_1 : decode cX6_timesIn 1 = .ok (.istore_n 2, 1) := by decide +kernel
theorem dX6_timesIn_2 : decode cX6_timesIn 2 = .ok (.iload_n 0, 1) := by decide +kernel
theorem dX6_timesIn_3 : decode cX6_timesIn 3 = .ok (.istore_n 3, 1) := by decide +kernel
theorem dX6_timesIn_4 : decode cX6_timesIn 4 = .ok (.iload_n 3, 1) := by decide +kernel
theorem dX6_timesIn_5 : decode cX6_timesIn 5 = .ok (.iload_n 1, 1) := by decide +kernel
theorem dX6_timesIn_6 : decode cX6_timesIn 6 = .ok (.irem, 1) := by decide +kernel
theorem dX6_timesIn_7 : decode cX6_timesIn 7 = .ok (.ifCond .ne 13, 3) := by decide +kernel
theorem dX6_timesIn_10 : decode cX6_timesIn 10 = .ok (.iinc 2 1, 3) := by decide +kernel
theorem dX6_timesIn_13 : decode cX6_timesIn 13 = .ok (.iload_n 3, 1) := by decide +kernel
theorem dX6_timesIn_14 : decode cX6_timesIn 14 = .ok (.iload_n 1, 1) := by decide +kernel
theorem dX6_timesIn_15 : decode cX6_timesIn 15 = .ok (.idiv, 1) := by decide +kernel
theorem dX6_timesIn_16 : decode cX6_timesIn 16 = .ok (.istore_n 3, 1) := by decide +kernel
theorem dX6_timesIn_17 : decode cX6_timesIn 17 = .ok (.goto (-13), 3) := by decide +kernel
theorem dX6_timesIn_20 : decode cX6_timesIn 20 = .ok (.iload_n 2, 1) := by decide +kernel
theorem dX6_timesIn_21 : decode cX6_timesIn 21 = .ok (.ireturn, 1) := by decide +kernel
theorem dX6_power_0 : decode cX6_power 0 = .ok (.lconst 1, 1) := by decide +kernel
theorem dX6_power_1 : decode cX6_power 1 = .ok (.lstore_n 2, 1) := by decide +kernel
theorem dX6_power_2 : decode cX6_power 2 = .ok (.iconst 0, 1) := by decide +kernel
theorem dX6_power_3 : decode cX6_power 3 = .ok (.istore 4, 2) := by decide +kernel
theorem dX6_power_5 : decode cX6_power 5 = .ok (.iload 4, 2) := by decide +kernel
theorem dX6_power_7 : decode cX6_power 7 = .ok (.iload_n 1, 1) := by decide +kernel
theorem dX6_power_8 : decode cX6_power 8 = .ok (.if_icmp .ge 14, 3) := by decide +kernel
theorem dX6_power_11 : decode cX6_power 11 = .ok (.lload_n 2, 1) := by decide +kernel
theorem dX6_power_12 : decode cX6_power 12 = .ok (.iload_n 0, 1) := by decide +kernel
theorem dX6_power_13 : decode cX6_power 13 = .ok (.i2l, 1) := by decide +kernel
theorem dX6_power_14 : decode cX6_power 14 = .ok (.lmul, 1) := by decide +kernel
theorem dX6_power_15 : decode cX6_power 15 = .ok (.lstore_n 2, 1) := by decide +kernel
theorem dX6_power_16 : decode cX6_power 16 = .ok (.iinc 4 1, 3) := by decide +kernel
theorem dX6_power_19 : decode cX6_power 19 = .ok (.goto (-14), 3) := by decide +kernel
theorem dX6_power_22 : decode cX6_power 22 = .ok (.lload_n 2, 1) := by decide +kernel
theorem dX6_power_23 : decode cX6_power 23 = .ok (.lreturn, 1) := by decide +kernel
theorem dX6_indexOf_0 : decode cX6_indexOf 0 = .ok (.bipush 21, 2) := by decide +kernel
theorem dX6_indexOf_2 : decode cX6_indexOf 2 = .ok (.iload_n 0, 1) := by decide +kernel
theorem dX6_indexOf_3 : decode cX6_indexOf 3 = .ok (.bipush 30, 2) := by decide +kernel
theorem dX6_indexOf_5 : decode cX6_indexOf 5 = .ok (.iadd, 1) := by decide +kernel
theorem dX6_indexOf_6 : decode cX6_indexOf 6 = .ok (.imul, 1) := by decide +kernel
theorem dX6_indexOf_7 : decode cX6_indexOf 7 = .ok (.iload_n 1, 1) := by decide +kernel
theorem dX6_indexOf_8 : decode cX6_indexOf 8 = .ok (.iadd, 1) := by decide +kernel
theorem dX6_indexOf_9 : decode cX6_indexOf 9 = .ok (.bipush 10, 2) := by decide +kernel
theorem dX6_indexOf_11 : decode cX6_indexOf 11 = .ok (.iadd, 1) := by decide +kernel
theorem dX6_indexOf_12 : decode cX6_indexOf 12 = .ok (.ireturn, 1) := by decide +kernel
set_option maxRecDepth 20000 in
theorem ggX6_isPlayed_X6_isIn : GoodIn wsX6_isPlayed wsX6_isIn := goodIn_r _ [6] (by decide +kernel) (by decide +kernel)
set_option maxRecDepth 20000 in
theorem gX6_isPlayed_X6_isIn : GoodIn wsX6_isPlayed (va_wsS RX6 60 yX6_isIn wsX6_isIn) := goodIn_app (goodIn_of _ (by decide +kernel)) ggX6_isPlayed_X6_isIn
set_option maxRecDepth 20000 in
theorem ggX6_isPlayed_X6_power : GoodIn wsX6_isPlayed wsX6_power := goodIn_r _ [9] (by decide +kernel) (by decide +kernel)
set_option maxRecDepth 20000 in
theorem gX6_isPlayed_X6_power : GoodIn wsX6_isPlayed (va_wsS RX6 167 yX6_power wsX6_power) := goodIn_app (goodIn_of _ (by decide +kernel)) ggX6_isPlayed_X6_power
theorem dX6_isPlayed_0 : decode cX6_isPlayed 0 = .ok (.iload_n 1, 1) := by decide +kernel
theorem dX6_isPlayed_1 : decode cX6_isPlayed 1 = .ok (.bipush (-30), 2) := by decide +kernel
theorem dX6_isPlayed_3 : decode cX6_isPlayed 3 = .ok (.bipush 30, 2) := by decide +kernel
theorem dX6_isPlayed_5 : decode cX6_isPlayed 5 = .ok (.invokestatic 60, 3) := by decide +kernel
theorem dX6_isPlayed_8 : decode cX6_isPlayed 8 = .ok (.ifCond .eq 14, 3) := by decide +kernel
theorem dX6_isPlayed_11 : decode cX6_isPlayed 11 = .ok (.iload_n 2, 1) := by decide +kernel
theorem dX6_isPlayed_12 : decode cX6_isPlayed 12 = .ok (.bipush (-10), 2) := by decide +kernel
theorem dX6_isPlayed_14 : decode cX6_isPlayed 14 = .ok (.bipush 10, 2) := by decide +kernel
theorem dX6_isPlayed_16 : decode cX6_isPlayed 16 = .ok (.invokestatic 60, 3) := by decide +kernel
theorem dX6_isPlayed_19 : decode cX6_isPlayed 19 = .ok (.ifCond .ne 5, 3) := by decide +kernel
theorem dX6_isPlayed_22 : decode cX6_isPlayed 22 = .ok (.iconst 0, 1) := by decide +kernel
theorem dX6_isPlayed_23 : decode cX6_isPlayed 23 = .ok (.ireturn, 1) := by decide +kernel
theorem dX6_isPlayed_24 : decode cX6_isPlayed 24 = .ok (.iload_n 0, 1) := by decide +kernel
theorem dX6_isPlayed_25 : decode cX6_isPlayed 25 = .ok (.i2l, 1) := by decide +kernel
theorem dX6_isPlayed_26 : decode cX6_isPlayed 26 = .ok (.iconst 2, 1) := by decide +kernel
theorem dX6_isPlayed_27 : decode cX6_isPlayed 27 = .ok (.iload_n 1, 1) := by decide +kernel
theorem dX6_isPlayed_28 : decode cX6_isPlayed 28 = .ok (.ifCond .le 7, 3) := by decide +kernel
theorem dX6_isPlayed_31 : decode cX6_isPlayed 31 = .ok (.iload_n 1, 1) := by decide +kernel
theorem dX6_isPlayed_32 : decode cX6_isPlayed 32 = .ok (.goto 4, 3) := by decide +kernel
theorem dX6_isPlayed_35 : decode cX6_isPlayed 35 = .ok (.iconst 0, 1) := by decide +kernel
theorem dX6_isPlayed_36 : decode cX6_isPlayed 36 = .ok (.invokestatic 167, 3) := by decide +kernel
theorem dX6_isPlayed_39 : decode cX6_isPlayed 39 = .ok (.lmul, 1) := by decide +kernel
theorem dX6_isPlayed_40 : decode cX6_isPlayed 40 = .ok (.iconst 3, 1) := by decide +kernel
theorem dX6_isPlayed_41 : decode cX6_isPlayed 41 = .ok (.iload_n 2, 1) := by decide +kernel
theorem dX6_isPlayed_42 : decode cX6_isPlayed 42 = .ok (.ifCond .le 7, 3) := by decide +kernel
theorem dX6_isPlayed_45 : decode cX6_isPlayed 45 = .ok (.iload_n 2, 1) := by decide +kernel
theorem dX6_isPlayed_46 : decode cX6_isPlayed 46 = .ok (.goto 4, 3) := by decide +kernel
theorem dX6_isPlayed_49 : decode cX6_isPlayed 49 = .ok (.iconst 0, 1) := by decide +kernel
theorem dX6_isPlayed_50 : decode cX6_isPlayed 50 = .ok (.invokestatic 167, 3) := by decide +kernel
theorem dX6_isPlayed_53 : decode cX6_isPlayed 53 = .ok (.lmul, 1) := by decide +kernel
theorem dX6_isPlayed_54 : decode cX6_isPlayed 54 = .ok (.lstore_n 3, 1) := by decide +kernel
theorem dX6_isPlayed_55 : decode cX6_isPlayed 55 = .ok (.iconst 2, 1) := by decide +kernel
theorem dX6_isPlayed_56 : decode cX6_isPlayed 56 = .ok (.iload_n 1, 1) := by decide +kernel
theorem dX6_isPlayed_57 : decode cX6_isPlayed 57 = .ok (.ifCond .ge 8, 3) := by decide +kernel
theorem dX6_isPlayed_60 : decode cX6_isPlayed 60 = .ok (.iload_n 1, 1) := by decide +kernel
theorem dX6_isPlayed_61 : decode cX6_isPlayed 61 = .ok (.ineg, 1) := by decide +kernel
theorem dX6_isPlayed_62 : decode cX6_isPlayed 62 = .ok (.goto 4, 3) := by decide +kernel
theorem dX6_isPlayed_65 : decode cX6_isPlayed 65 = .ok (.iconst 0, 1) := by decide +kernel
theorem dX6_isPlayed_66 : decode cX6_isPlayed 66 = .ok (.invokestatic 167, 3) := by decide +kernel
theorem dX6_isPlayed_69 : decode cX6_isPlayed 69 = .ok (.iconst 3, 1) := by decide +kernel
theorem dX6_isPlayed_70 : decode cX6_isPlayed 70 = .ok (.iload_n 2, 1) := by decide +kernel
theorem dX6_isPlayed_71 : decode cX6_isPlayed 71 = .ok (.ifCond .ge 8, 3) := by decide +kernel
theorem dX6_isPlayed_74 : decode cX6_isPlayed 74 = .ok (.iload_n 2, 1) := by decide +kernel
theorem dX6_isPlayed_75 : decode cX6_isPlayed 75 = .ok (.ineg, 1) := by decide +kernel
theorem dX6_isPlayed_76 : decode cX6_isPlayed 76 = .ok (.goto 4, 3) := by decide +kernel
theorem dX6_isPlayed_79 : decode cX6_isPlayed 79 = .ok (.iconst 0, 1) := by decide +kernel
theorem dX6_isPlayed_80 : decode cX6_isPlayed 80 = .ok (.invokestatic 167, 3) := by decide +kernel
theorem dX6_isPlayed_83 : decode cX6_isPlayed 83 = .ok (.lmul, 1) := by decide +kernel
theorem dX6_isPlayed_84 : decode cX6_isPlayed 84 = .ok (.lstore 5, 2) := by decide +kernel
theorem dX6_isPlayed_86 : decode cX6_isPlayed 86 = .ok (.lload_n 3, 1) := by decide +kernel
theorem dX6_isPlayed_87 : decode cX6_isPlayed 87 = .ok (.ldc2_w 170, 3) := by decide +kernel
theorem dX6_isPlayed_90 : decode cX6_isPlayed 90 = .ok (.lload 5, 2) := by decide +kernel
theorem dX6_isPlayed_92 : decode cX6_isPlayed 92 = .ok (.lmul, 1) := by decide +kernel
theorem dX6_isPlayed_93 : decode cX6_isPlayed 93 = .ok (.lcmp, 1) := by decide +kernel
theorem dX6_isPlayed_94 : decode cX6_isPlayed 94 = .ok (.ifCond .lt 18, 3) := by decide +kernel
theorem dX6_isPlayed_97 : decode cX6_isPlayed 97 = .ok (.lload_n 3, 1) := by decide +kernel
theorem dX6_isPlayed_98 : decode cX6_isPlayed 98 = .ok (.ldc2_w 172, 3) := by decide +kernel
theorem dX6_isPlayed_101 : decode cX6_isPlayed 101 = .ok (.lload 5, 2) := by decide +kernel
theorem dX6_isPlayed_103 : decode cX6_isPlayed 103 = .ok (.lmul, 1) := by decide +kernel
theorem dX6_isPlayed_104 : decode cX6_isPlayed 104 = .ok (.lcmp, 1) := by decide +kernel
theorem dX6_isPlayed_105 : decode cX6_isPlayed 105 = .ok (.ifCond .gt 7, 3) := by decide +kernel
theorem dX6_isPlayed_108 : decode cX6_isPlayed 108 = .ok (.iconst 1, 1) := by decide +kernel
theorem dX6_isPlayed_109 : decode cX6_isPlayed 109 = .ok (.goto 4, 3) := by decide +kernel
theorem dX6_isPlayed_112 : decode cX6_isPlayed 112 = .ok (.iconst 0, 1) := by decide +kernel
theorem dX6_isPlayed_113 : decode cX6_isPlayed 113 = .ok (.ireturn, 1) := by decide +kernel
set_option maxRecDepth 20000 in
theorem ggX6_twosBy_X6_ticksOf : GoodIn wsX6_twosBy wsX6_ticksOf := goodIn_r _ [4] (by decide +kernel) (by decide +kernel)
set_option maxRecDepth 20000 in
theorem gX6_twosBy_X6_ticksOf : GoodIn wsX6_twosBy (va_wsS RX6 77 yX6_ticksOf wsX6_ticksOf) := goodIn_app (goodIn_of _ (by decide +kernel)) ggX6_twosBy_X6_ticksOf
set_option maxRecDepth 20000 in
theorem ggX6_twosBy_X6_timesIn : GoodIn wsX6_twosBy wsX6_timesIn := goodIn_r _ [7] (by decide +kernel) (by decide +kernel)
set_option maxRecDepth 20000 in
theorem gX6_twosBy_X6_timesIn : GoodIn wsX6_twosBy (va_wsS RX6 174 yX6_timesIn wsX6_timesIn) := goodIn_app (goodIn_of _ (by decide +kernel)) ggX6_twosBy_X6_timesIn
theorem dX6_twosBy_0 : decode cX6_twosBy 0 = .ok (.iload_n 1, 1) := by decide +kernel
theorem dX6_twosBy_1 : decode cX6_twosBy 1 = .ok (.invokestatic 77, 3) := by decide +kernel
theorem dX6_twosBy_4 : decode cX6_twosBy 4 = .ok (.iconst 2, 1) := by decide +kernel
theorem dX6_twosBy_5 : decode cX6_twosBy 5 = .ok (.invokestatic 174, 3) := by decide +kernel
theorem dX6_twosBy_8 : decode cX6_twosBy 8 = .ok (.iload_n 0, 1) := by decide +kernel
theorem dX6_twosBy_9 : decode cX6_twosBy 9 = .ok (.invokestatic 77, 3) := by decide +kernel
theorem dX6_twosBy_12 : decode cX6_twosBy 12 = .ok (.iconst 2, 1) := by decide +kernel
theorem dX6_twosBy_13 : decode cX6_twosBy 13 = .ok (.invokestatic 174, 3) := by decide +kernel
theorem dX6_twosBy_16 : decode cX6_twosBy 16 = .ok (.isub, 1) := by decide +kernel
theorem dX6_twosBy_17 : decode cX6_twosBy 17 = .ok (.ireturn, 1) := by decide +kernel
set_option maxRecDepth 20000 in
theorem ggX6_threesBy_X6_ticksOf : GoodIn wsX6_threesBy wsX6_ticksOf := goodIn_r _ [4] (by decide +kernel) (by decide +kernel)
set_option maxRecDepth 20000 in
theorem gX6_threesBy_X6_ticksOf : GoodIn wsX6_threesBy (va_wsS RX6 77 yX6_ticksOf wsX6_ticksOf) := goodIn_app (goodIn_of _ (by decide +kernel)) ggX6_threesBy_X6_ticksOf
set_option maxRecDepth 20000 in
theorem ggX6_threesBy_X6_timesIn : GoodIn wsX6_threesBy wsX6_timesIn := goodIn_r _ [7] (by decide +kernel) (by decide +kernel)
set_option maxRecDepth 20000 in
theorem gX6_threesBy_X6_timesIn : GoodIn wsX6_threesBy (va_wsS RX6 174 yX6_timesIn wsX6_timesIn) := goodIn_app (goodIn_of _ (by decide +kernel)) ggX6_threesBy_X6_timesIn
theorem dX6_threesBy_0 : decode cX6_threesBy 0 = .ok (.iload_n 1, 1) := by decide +kernel
theorem dX6_threesBy_1 : decode cX6_threesBy 1 = .ok (.invokestatic 77, 3) := by decide +kernel
theorem dX6_threesBy_4 : decode cX6_threesBy 4 = .ok (.iconst 3, 1) := by decide +kernel
theorem dX6_threesBy_5 : decode cX6_threesBy 5 = .ok (.invokestatic 174, 3) := by decide +kernel
theorem dX6_threesBy_8 : decode cX6_threesBy 8 = .ok (.iload_n 0, 1) := by decide +kernel
theorem dX6_threesBy_9 : decode cX6_threesBy 9 = .ok (.invokestatic 77, 3) := by decide +kernel
theorem dX6_threesBy_12 : decode cX6_threesBy 12 = .ok (.iconst 3, 1) := by decide +kernel
theorem dX6_threesBy_13 : decode cX6_threesBy 13 = .ok (.invokestatic 174, 3) := by decide +kernel
theorem dX6_threesBy_16 : decode cX6_threesBy 16 = .ok (.isub, 1) := by decide +kernel
theorem dX6_threesBy_17 : decode cX6_threesBy 17 = .ok (.ireturn, 1) := by decide +kernel
theorem dX6_isOf_0 : decode cX6_isOf 0 = .ok (.iload_n 0, 1) := by decide +kernel
theorem dX6_isOf_1 : decode cX6_isOf 1 = .ok (.iload_n 1, 1) := by decide +kernel
theorem dX6_isOf_2 : decode cX6_isOf 2 = .ok (.ishr, 1) := by decide +kernel
theorem dX6_isOf_3 : decode cX6_isOf 3 = .ok (.iload_n 0, 1) := by decide +kernel
theorem dX6_isOf_4 : decode cX6_isOf 4 = .ok (.iload_n 2, 1) := by decide +kernel
theorem dX6_isOf_5 : decode cX6_isOf 5 = .ok (.ishr, 1) := by decide +kernel
theorem dX6_isOf_6 : decode cX6_isOf 6 = .ok (.iand, 1) := by decide +kernel
theorem dX6_isOf_7 : decode cX6_isOf 7 = .ok (.iconst 1, 1) := by decide +kernel
theorem dX6_isOf_8 : decode cX6_isOf 8 = .ok (.iand, 1) := by decide +kernel
theorem dX6_isOf_9 : decode cX6_isOf 9 = .ok (.iconst 1, 1) := by decide +kernel
theorem dX6_isOf_10 : decode cX6_isOf 10 = .ok (.if_icmp .ne 7, 3) := by decide +kernel
theorem dX6_isOf_13 : decode cX6_isOf 13 = .ok (.iconst 1, 1) := by decide +kernel
theorem dX6_isOf_14 : decode cX6_isOf 14 = .ok (.goto 4, 3) := by decide +kernel
theorem dX6_isOf_17 : decode cX6_isOf 17 = .ok (.iconst 0, 1) := by decide +kernel
theorem dX6_isOf_18 : decode cX6_isOf 18 = .ok (.ireturn, 1) := by decide +kernel
set_option maxRecDepth 20000 in
theorem ggX6_stepsMore_X6_isOf : GoodIn wsX6_stepsMore wsX6_isOf := goodIn_r _ [5] (by decide +kernel) (by decide +kernel)
set_option maxRecDepth 20000 in
theorem gX6_stepsMore_X6_isOf : GoodIn wsX6_stepsMore (va_wsS RX6 178 yX6_isOf wsX6_isOf) := goodIn_app (goodIn_of _ (by decide +kernel)) ggX6_stepsMore_X6_isOf
set_option maxRecDepth 20000 in
theorem ggX6_stepsMore_X6_twosBy : GoodIn wsX6_stepsMore wsX6_twosBy := goodIn_r _ [8, 9, 10, 4, 11, 12, 13, 14] (by decide +kernel) (by decide +kernel)
set_option maxRecDepth 20000 in
theorem gX6_stepsMore_X6_twosBy : GoodIn wsX6_stepsMore (va_wsS RX6 181 yX6_twosBy wsX6_twosBy) := goodIn_app (goodIn_of _ (by decide +kernel)) ggX6_stepsMore_X6_twosBy
set_option maxRecDepth 20000 in
theorem ggX6_stepsMore_X6_threesBy : GoodIn wsX6_stepsMore wsX6_threesBy := goodIn_r _ [17, 9, 10, 4, 11, 12, 13, 14] (by decide +kernel) (by decide +kernel)
set_option maxRecDepth 20000 in
theorem gX6_stepsMore_X6_threesBy : GoodIn wsX6_stepsMore (va_wsS RX6 184 yX6_threesBy wsX6_threesBy) := goodIn_app (goodIn_of _ (by decide +kernel)) ggX6_stepsMore_X6_threesBy
set_option maxRecDepth 20000 in
theorem ggX6_stepsMore_X6_isPlayed : GoodIn wsX6_stepsMore wsX6_isPlayed := goodIn_r _ [20, 21, 22, 23, 24, 4, 25, 26, 27, 28] (by decide +kernel) (by decide +kernel)
set_option maxRecDepth 20000 in
theorem gX6_stepsMore_X6_isPlayed : GoodIn wsX6_stepsMore (va_wsS RX6 187 yX6_isPlayed wsX6_isPlayed) := goodIn_app (goodIn_of _ (by decide +kernel)) ggX6_stepsMore_X6_isPlayed
set_option maxRecDepth 20000 in
theorem ggX6_stepsMore_X6_indexOf : GoodIn wsX6_stepsMore wsX6_indexOf := goodIn_r _ [31] (by decide +kernel) (by decide +kernel)
set_option maxRecDepth 20000 in
theorem gX6_stepsMore_X6_indexOf : GoodIn wsX6_stepsMore (va_wsS RX6 190 yX6_indexOf wsX6_indexOf) := goodIn_app (goodIn_of _ (by decide +kernel)) ggX6_stepsMore_X6_indexOf
theorem dX6_stepsMore_0 : decode cX6_stepsMore 0 = .ok (.iconst 0, 1) := by decide +kernel
theorem dX6_stepsMore_1 : decode cX6_stepsMore 1 = .ok (.istore 4, 2) := by decide +kernel
theorem dX6_stepsMore_3 : decode cX6_stepsMore 3 = .ok (.iload 4, 2) := by decide +kernel
theorem dX6_stepsMore_5 : decode cX6_stepsMore 5 = .ok (.sipush 1281, 3) := by decide +kernel
theorem dX6_stepsMore_8 : decode cX6_stepsMore 8 = .ok (.if_icmp .ge 141, 3) := by decide +kernel
theorem dX6_stepsMore_11 : decode cX6_stepsMore 11 = .ok (.iconst 0, 1) := by decide +kernel
theorem dX6_stepsMore_12 : decode cX6_stepsMore 12 = .ok (.istore 5, 2) := by decide +kernel
theorem dX6_stepsMore_14 : decode cX6_stepsMore 14 = .ok (.iload 5, 2) := by decide +kernel
theorem dX6_stepsMore_16 : decode cX6_stepsMore 16 = .ok (.sipush 400, 3) := by decide +kernel
theorem dX6_stepsMore_19 : decode cX6_stepsMore 19 = .ok (.if_icmp .ge 124, 3) := by decide +kernel
theorem dX6_stepsMore_22 : decode cX6_stepsMore 22 = .ok (.aload_n 0, 1) := by decide +kernel
theorem dX6_stepsMore_23 : decode cX6_stepsMore 23 = .ok (.getfield 54, 3) := by decide +kernel
theorem dX6_stepsMore_26 : decode cX6_stepsMore 26 = .ok (.iload 4, 2) := by decide +kernel
theorem dX6_stepsMore_28 : decode cX6_stepsMore 28 = .ok (.iaload, 1) := by decide +kernel
theorem dX6_stepsMore_29 : decode cX6_stepsMore 29 = .ok (.iload_n 3, 1) := by decide +kernel
theorem dX6_stepsMore_30 : decode cX6_stepsMore 30 = .ok (.if_icmp .ne 113, 3) := by decide +kernel
theorem dX6_stepsMore_33 : decode cX6_stepsMore 33 = .ok (.iload 5, 2) := by decide +kernel
theorem dX6_stepsMore_35 : decode cX6_stepsMore 35 = .ok (.bipush 20, 2) := by decide +kernel
theorem dX6_stepsMore_37 : decode cX6_stepsMore 37 = .ok (.idiv, 1) := by decide +kernel
theorem dX6_stepsMore_38 : decode cX6_stepsMore 38 = .ok (.istore 6, 2) := by decide +kernel
theorem dX6_stepsMore_40 : decode cX6_stepsMore 40 = .ok (.iload 5, 2) := by decide +kernel
theorem dX6_stepsMore_42 : decode cX6_stepsMore 42 = .ok (.bipush 20, 2) := by decide +kernel
theorem dX6_stepsMore_44 : decode cX6_stepsMore 44 = .ok (.irem, 1) := by decide +kernel
theorem dX6_stepsMore_45 : decode cX6_stepsMore 45 = .ok (.istore 7, 2) := by decide +kernel
theorem dX6_stepsMore_47 : decode cX6_stepsMore 47 = .ok (.iload_n 2, 1) := by decide +kernel
theorem dX6_stepsMore_48 : decode cX6_stepsMore 48 = .ok (.iload 6, 2) := by decide +kernel
theorem dX6_stepsMore_50 : decode cX6_stepsMore 50 = .ok (.iload 7, 2) := by decide +kernel
theorem dX6_stepsMore_52 : decode cX6_stepsMore 52 = .ok (.invokestatic 178, 3) := by decide +kernel
theorem dX6_stepsMore_55 : decode cX6_stepsMore 55 = .ok (.ifCond .eq 82, 3) := by decide +kernel
theorem dX6_stepsMore_58 : decode cX6_stepsMore 58 = .ok (.iload 4, 2) := by decide +kernel
theorem dX6_stepsMore_60 : decode cX6_stepsMore 60 = .ok (.bipush 21, 2) := by decide +kernel
theorem dX6_stepsMore_62 : decode cX6_stepsMore 62 = .ok (.idiv, 1) := by decide +kernel
theorem dX6_stepsMore_63 : decode cX6_stepsMore 63 = .ok (.bipush 30, 2) := by decide +kernel
theorem dX6_stepsMore_65 : decode cX6_stepsMore 65 = .ok (.isub, 1) := by decide +kernel
theorem dX6_stepsMore_66 : decode cX6_stepsMore 66 = .ok (.iload 6, 2) := by decide +kernel
theorem dX6_stepsMore_68 : decode cX6_stepsMore 68 = .ok (.iload 7, 2) := by decide +kernel
theorem dX6_stepsMore_70 : decode cX6_stepsMore 70 = .ok (.invokestatic 181, 3) := by decide +kernel
theorem dX6_stepsMore_73 : decode cX6_stepsMore 73 = .ok (.iadd, 1) := by decide +kernel
theorem dX6_stepsMore_74 : decode cX6_stepsMore 74 = .ok (.istore 8, 2) := by decide +kernel
theorem dX6_stepsMore_76 : decode cX6_stepsMore 76 = .ok (.iload 4, 2) := by decide +kernel
theorem dX6_stepsMore_78 : decode cX6_stepsMore 78 = .ok (.bipush 21, 2) := by decide +kernel
theorem dX6_stepsMore_80 : decode cX6_stepsMore 80 = .ok (.irem, 1) := by decide +kernel
theorem dX6_stepsMore_81 : decode cX6_stepsMore 81 = .ok (.bipush 10, 2) := by decide +kernel
theorem dX6_stepsMore_83 : decode cX6_stepsMore 83 = .ok (.isub, 1) := by decide +kernel
theorem dX6_stepsMore_84 : decode cX6_stepsMore 84 = .ok (.iload 6, 2) := by decide +kernel
theorem dX6_stepsMore_86 : decode cX6_stepsMore 86 = .ok (.iload 7, 2) := by decide +kernel
theorem dX6_stepsMore_88 : decode cX6_stepsMore 88 = .ok (.invokestatic 184, 3) := by decide +kernel
theorem dX6_stepsMore_91 : decode cX6_stepsMore 91 = .ok (.iadd, 1) := by decide +kernel
theorem dX6_stepsMore_92 : decode cX6_stepsMore 92 = .ok (.istore 9, 2) := by decide +kernel
theorem dX6_stepsMore_94 : decode cX6_stepsMore 94 = .ok (.iload_n 1, 1) := by decide +kernel
theorem dX6_stepsMore_95 : decode cX6_stepsMore 95 = .ok (.iload 8, 2) := by decide +kernel
theorem dX6_stepsMore_97 : decode cX6_stepsMore 97 = .ok (.iload 9, 2) := by decide +kernel
theorem dX6_stepsMore_99 : decode cX6_stepsMore 99 = .ok (.invokestatic 187, 3) := by decide +kernel
theorem dX6_stepsMore_102 : decode cX6_stepsMore 102 = .ok (.ifCond .eq 35, 3) := by decide +kernel
theorem dX6_stepsMore_105 : decode cX6_stepsMore 105 = .ok (.aload_n 0, 1) := by decide +kernel
theorem dX6_stepsMore_106 : decode cX6_stepsMore 106 = .ok (.getfield 54, 3) := by decide +kernel
theorem dX6_stepsMore_109 : decode cX6_stepsMore 109 = .ok (.iload 8, 2) := by decide +kernel
theorem dX6_stepsMore_111 : decode cX6_stepsMore 111 = .ok (.iload 9, 2) := by decide +kernel
theorem dX6_stepsMore_113 : decode cX6_stepsMore 113 = .ok (.invokestatic 190, 3) := by decide +kernel
theorem dX6_stepsMore_116 : decode cX6_stepsMore 116 = .ok (.iaload, 1) := by decide +kernel
theorem dX6_stepsMore_117 : decode cX6_stepsMore 117 = .ok (.bipush (-9), 2) := by decide +kernel
theorem dX6_stepsMore_119 : decode cX6_stepsMore 119 = .ok (.if_icmp .ne 18, 3) := by decide +kernel
theorem dX6_stepsMore_122 : decode cX6_stepsMore 122 = .ok (.aload_n 0, 1) := by decide +kernel
theorem dX6_stepsMore_123 : decode cX6_stepsMore 123 = .ok (.getfield 54, 3) := by decide +kernel
theorem dX6_stepsMore_126 : decode cX6_stepsMore 126 = .ok (.iload 8, 2) := by decide +kernel
theorem dX6_stepsMore_128 : decode cX6_stepsMore 128 = .ok (.iload 9, 2) := by decide +kernel
theorem dX6_stepsMore_130 : decode cX6_stepsMore 130 = .ok (.invokestatic 190, 3) := by decide +kernel
theorem dX6_stepsMore_133 : decode cX6_stepsMore 133 = .ok (.iload_n 3, 1) := by decide +kernel
theorem dX6_stepsMore_134 : decode cX6_stepsMore 134 = .ok (.iconst 1, 1) := by decide +kernel
theorem dX6_stepsMore_135 : decode cX6_stepsMore 135 = .ok (.iadd, 1) := by decide +kernel
theorem dX6_stepsMore_136 : decode cX6_stepsMore 136 = .ok (.iastore, 1) := by decide +kernel
theorem dX6_stepsMore_137 : decode cX6_stepsMore 137 = .ok (.iinc 5 1, 3) := by decide +kernel
theorem dX6_stepsMore_140 : decode cX6_stepsMore 140 = .ok (.goto (-126), 3) := by decide +kernel
theorem dX6_stepsMore_143 : decode cX6_stepsMore 143 = .ok (.iinc 4 1, 3) := by decide +kernel
theorem dX6_stepsMore_146 : decode cX6_stepsMore 146 = .ok (.goto (-143), 3) := by decide +kernel
theorem dX6_stepsMore_149 : decode cX6_stepsMore 149 = .ok (.return_, 1) := by decide +kernel
set_option maxRecDepth 20000 in
theorem ggX6_findSteps_X6_common : GoodIn wsX6_findSteps wsX6_common := goodIn_r _ [5] (by decide +kernel) (by decide +kernel)
set_option maxRecDepth 20000 in
theorem gX6_findSteps_X6_common : GoodIn wsX6_findSteps (va_wsS RX6 81 yX6_common wsX6_common) := goodIn_app (goodIn_of _ (by decide +kernel)) ggX6_findSteps_X6_common
set_option maxRecDepth 20000 in
theorem ggX6_findSteps_X6_timesIn : GoodIn wsX6_findSteps wsX6_timesIn := goodIn_r _ [8] (by decide +kernel) (by decide +kernel)
set_option maxRecDepth 20000 in
theorem gX6_findSteps_X6_timesIn : GoodIn wsX6_findSteps (va_wsS RX6 174 yX6_timesIn wsX6_timesIn) := goodIn_app (goodIn_of _ (by decide +kernel)) ggX6_findSteps_X6_timesIn
set_option maxRecDepth 20000 in
theorem ggX6_findSteps_X6_power : GoodIn wsX6_findSteps wsX6_power := goodIn_r _ [11] (by decide +kernel) (by decide +kernel)
set_option maxRecDepth 20000 in
theorem gX6_findSteps_X6_power : GoodIn wsX6_findSteps (va_wsS RX6 167 yX6_power wsX6_power) := goodIn_app (goodIn_of _ (by decide +kernel)) ggX6_findSteps_X6_power
set_option maxRecDepth 20000 in
theorem ggX6_findSteps_X6_indexOf : GoodIn wsX6_findSteps wsX6_indexOf := goodIn_r _ [14] (by decide +kernel) (by decide +kernel)
set_option maxRecDepth 20000 in
theorem gX6_findSteps_X6_indexOf : GoodIn wsX6_findSteps (va_wsS RX6 190 yX6_indexOf wsX6_indexOf) := goodIn_app (goodIn_of _ (by decide +kernel)) ggX6_findSteps_X6_indexOf
set_option maxRecDepth 20000 in
theorem ggX6_findSteps_X6_stepsMore : GoodIn wsX6_findSteps wsX6_stepsMore := goodIn_r _ [18, 1, 19, 20, 4, 21, 22, 23, 24, 25, 26, 27, 6, 7, 8, 28, 29, 30, 31, 32, 33, 34, 35, 36, 37, 38, 9, 10, 11, 12, 13, 14, 39, 40, 41, 42, 43, 44, 45, 46, 47, 48, 49, 50, 51, 52, 53, 54, 55, 56, 57] (by decide +kernel) (by decide +kernel)
set_option maxRecDepth 20000 in
theorem gX6_findSteps_X6_stepsMore : GoodIn wsX6_findSteps (wsV RX6 193 RX6 yX6_stepsMore wsX6_stepsMore) := goodIn_app (goodIn_of _ (by decide +kernel)) ggX6_findSteps_X6_stepsMore
theorem dX6_findSteps_0 : decode cX6_findSteps 0 = .ok (.iload_n 1, 1) := by decide +kernel
theorem dX6_findSteps_1 : decode cX6_findSteps 1 = .ok (.i2l, 1) := by decide +kernel
theorem dX6_findSteps_2 : decode cX6_findSteps 2 = .ok (.iload_n 2, 1) := by decide +kernel
theorem dX6_findSteps_3 : decode cX6_findSteps 3 = .ok (.i2l, 1) := by decide +kernel
theorem dX6_findSteps_4 : decode cX6_findSteps 4 = .ok (.invokestatic 81, 3) := by decide +kernel
theorem dX6_findSteps_7 : decode cX6_findSteps 7 = .ok (.l2i, 1) := by decide +kernel
theorem dX6_findSteps_8 : decode cX6_findSteps 8 = .ok (.istore 4, 2) := by decide +kernel
theorem dX6_findSteps_10 : decode cX6_findSteps 10 = .ok (.iload_n 2, 1) := by decide +kernel
theorem dX6_findSteps_11 : decode cX6_findSteps 11 = .ok (.iload 4, 2) := by decide +kernel
theorem dX6_findSteps_13 : decode cX6_findSteps 13 = .ok (.idiv, 1) := by decide +kernel
theorem dX6_findSteps_14 : decode cX6_findSteps 14 = .ok (.istore 5, 2) := by decide +kernel
theorem dX6_findSteps_16 : decode cX6_findSteps 16 = .ok (.iload_n 1, 1) := by decide +kernel
theorem dX6_findSteps_17 : decode cX6_findSteps 17 = .ok (.iload 4, 2) := by decide +kernel
theorem dX6_findSteps_19 : decode cX6_findSteps 19 = .ok (.idiv, 1) := by decide +kernel
theorem dX6_findSteps_20 : decode cX6_findSteps 20 = .ok (.istore 6, 2) := by decide +kernel
theorem dX6_findSteps_22 : decode cX6_findSteps 22 = .ok (.iload 5, 2) := by decide +kernel
theorem dX6_findSteps_24 : decode cX6_findSteps 24 = .ok (.iconst 2, 1) := by decide +kernel
theorem dX6_findSteps_25 : decode cX6_findSteps 25 = .ok (.invokestatic 174, 3) := by decide +kernel
theorem dX6_findSteps_28 : decode cX6_findSteps 28 = .ok (.iload 6, 2) := by decide +kernel
theorem dX6_findSteps_30 : decode cX6_findSteps 30 = .ok (.iconst 2, 1) := by decide +kernel
theorem dX6_findSteps_31 : decode cX6_findSteps 31 = .ok (.invokestatic 174, 3) := by decide +kernel
theorem dX6_findSteps_34 : decode cX6_findSteps 34 = .ok (.isub, 1) := by decide +kernel
theorem dX6_findSteps_35 : decode cX6_findSteps 35 = .ok (.istore 7, 2) := by decide +kernel
theorem dX6_findSteps_37 : decode cX6_findSteps 37 = .ok (.iload 5, 2) := by decide +kernel
theorem dX6_findSteps_39 : decode cX6_findSteps 39 = .ok (.iconst 3, 1) := by decide +kernel
theorem dX6_findSteps_40 : decode cX6_findSteps 40 = .ok (.invokestatic 174, 3) := by decide +kernel
theorem dX6_findSteps_43 : decode cX6_findSteps 43 = .ok (.iload 6, 2) := by decide +kernel
theorem dX6_findSteps_45 : decode cX6_findSteps 45 = .ok (.iconst 3, 1) := by decide +kernel
theorem dX6_findSteps_46 : decode cX6_findSteps 46 = .ok (.invokestatic 174, 3) := by decide +kernel
theorem dX6_findSteps_49 : decode cX6_findSteps 49 = .ok (.isub, 1) := by decide +kernel
theorem dX6_findSteps_50 : decode cX6_findSteps 50 = .ok (.istore 8, 2) := by decide +kernel
theorem dX6_findSteps_52 : decode cX6_findSteps 52 = .ok (.iload 5, 2) := by decide +kernel
theorem dX6_findSteps_54 : decode cX6_findSteps 54 = .ok (.i2l, 1) := by decide +kernel
theorem dX6_findSteps_55 : decode cX6_findSteps 55 = .ok (.iconst 2, 1) := by decide +kernel
theorem dX6_findSteps_56 : decode cX6_findSteps 56 = .ok (.iload 7, 2) := by decide +kernel
theorem dX6_findSteps_58 : decode cX6_findSteps 58 = .ok (.ifCond .le 8, 3) := by decide +kernel
theorem dX6_findSteps_61 : decode cX6_findSteps 61 = .ok (.iload 7, 2) := by decide +kernel
theorem dX6_findSteps_63 : decode cX6_findSteps 63 = .ok (.goto 4, 3) := by decide +kernel
theorem dX6_findSteps_66 : decode cX6_findSteps 66 = .ok (.iconst 0, 1) := by decide +kernel
theorem dX6_findSteps_67 : decode cX6_findSteps 67 = .ok (.invokestatic 167, 3) := by decide +kernel
theorem dX6_findSteps_70 : decode cX6_findSteps 70 = .ok (.iconst 3, 1) := by decide +kernel
theorem dX6_findSteps_71 : decode cX6_findSteps 71 = .ok (.iload 8, 2) := by decide +kernel
theorem dX6_findSteps_73 : decode cX6_findSteps 73 = .ok (.ifCond .le 8, 3) := by decide +kernel
theorem dX6_findSteps_76 : decode cX6_findSteps 76 = .ok (.iload 8, 2) := by decide +kernel
theorem dX6_findSteps_78 : decode cX6_findSteps 78 = .ok (.goto 4, 3) := by decide +kernel
theorem dX6_findSteps_81 : decode cX6_findSteps 81 = .ok (.iconst 0, 1) := by decide +kernel
theorem dX6_findSteps_82 : decode cX6_findSteps 82 = .ok (.invokestatic 167, 3) := by decide +kernel
theorem dX6_findSteps_85 : decode cX6_findSteps 85 = .ok (.lmul, 1) := by decide +kernel
theorem dX6_findSteps_86 : decode cX6_findSteps 86 = .ok (.lcmp, 1) := by decide +kernel
theorem dX6_findSteps_87 : decode cX6_findSteps 87 = .ok (.ifCond .ne 43, 3) := by decide +kernel
theorem dX6_findSteps_90 : decode cX6_findSteps 90 = .ok (.iload 6, 2) := by decide +kernel
theorem dX6_findSteps_92 : decode cX6_findSteps 92 = .ok (.i2l, 1) := by decide +kernel
theorem dX6_findSteps_93 : decode cX6_findSteps 93 = .ok (.iconst 2, 1) := by decide +kernel
theorem dX6_findSteps_94 : decode cX6_findSteps 94 = .ok (.iload 7, 2) := by decide +kernel
theorem dX6_findSteps_96 : decode cX6_findSteps 96 = .ok (.ifCond .ge 9, 3) := by decide +kernel
theorem dX6_findSteps_99 : decode cX6_findSteps 99 = .ok (.iload 7, 2) := by decide +kernel
theorem dX6_findSteps_101 : decode cX6_findSteps 101 = .ok (.ineg, 1) := by decide +kernel
theorem dX6_findSteps_102 : decode cX6_findSteps 102 = .ok (.goto 4, 3) := by decide +kernel
theorem dX6_findSteps_105 : decode cX6_findSteps 105 = .ok (.iconst 0, 1) := by decide +kernel
theorem dX6_findSteps_106 : decode cX6_findSteps 106 = .ok (.invokestatic 167, 3) := by decide +kernel
theorem dX6_findSteps_109 : decode cX6_findSteps 109 = .ok (.iconst 3, 1) := by decide +kernel
theorem dX6_findSteps_110 : decode cX6_findSteps 110 = .ok (.iload 8, 2) := by decide +kernel
theorem dX6_findSteps_112 : decode cX6_findSteps 112 = .ok (.ifCond .ge 9, 3) := by decide +kernel
theorem dX6_findSteps_115 : decode cX6_findSteps 115 = .ok (.iload 8, 2) := by decide +kernel
theorem dX6_findSteps_117 : decode cX6_findSteps 117 = .ok (.ineg, 1) := by decide +kernel
theorem dX6_findSteps_118 : decode cX6_findSteps 118 = .ok (.goto 4, 3) := by decide +kernel
theorem dX6_findSteps_121 : decode cX6_findSteps 121 = .ok (.iconst 0, 1) := by decide +kernel
theorem dX6_findSteps_122 : decode cX6_findSteps 122 = .ok (.invokestatic 167, 3) := by decide +kernel
theorem dX6_findSteps_125 : decode cX6_findSteps 125 = .ok (.lmul, 1) := by decide +kernel
theorem dX6_findSteps_126 : decode cX6_findSteps 126 = .ok (.lcmp, 1) := by decide +kernel
theorem dX6_findSteps_127 : decode cX6_findSteps 127 = .ok (.ifCond .eq 6, 3) := by decide +kernel
theorem dX6_findSteps_130 : decode cX6_findSteps 130 = .ok (.bipush (-9), 2) := by decide +kernel
theorem dX6_findSteps_132 : decode cX6_findSteps 132 = .ok (.ireturn, 1) := by decide +kernel
theorem dX6_findSteps_133 : decode cX6_findSteps 133 = .ok (.iconst 0, 1) := by decide +kernel
theorem dX6_findSteps_134 : decode cX6_findSteps 134 = .ok (.istore 9, 2) := by decide +kernel
theorem dX6_findSteps_136 : decode cX6_findSteps 136 = .ok (.iload 9, 2) := by decide +kernel
theorem dX6_findSteps_138 : decode cX6_findSteps 138 = .ok (.sipush 1281, 3) := by decide +kernel
theorem dX6_findSteps_141 : decode cX6_findSteps 141 = .ok (.if_icmp .ge 18, 3) := by decide +kernel
theorem dX6_findSteps_144 : decode cX6_findSteps 144 = .ok (.aload_n 0, 1) := by decide +kernel
theorem dX6_findSteps_145 : decode cX6_findSteps 145 = .ok (.getfield 54, 3) := by decide +kernel
theorem dX6_findSteps_148 : decode cX6_findSteps 148 = .ok (.iload 9, 2) := by decide +kernel
theorem dX6_findSteps_150 : decode cX6_findSteps 150 = .ok (.bipush (-9), 2) := by decide +kernel
theorem dX6_findSteps_152 : decode cX6_findSteps 152 = .ok (.iastore, 1) := by decide +kernel
theorem dX6_findSteps_153 : decode cX6_findSteps 153 = .ok (.iinc 9 1, 3) := by decide +kernel
theorem dX6_findSteps_156 : decode cX6_findSteps 156 = .ok (.goto (-20), 3) := by decide +kernel
theorem dX6_findSteps_159 : decode cX6_findSteps 159 = .ok (.aload_n 0, 1) := by decide +kernel
theorem dX6_findSteps_160 : decode cX6_findSteps 160 = .ok (.getfield 54, 3) := by decide +kernel
theorem dX6_findSteps_163 : decode cX6_findSteps 163 = .ok (.iload 7, 2) := by decide +kernel
theorem dX6_findSteps_165 : decode cX6_findSteps 165 = .ok (.iload 8, 2) := by decide +kernel
theorem dX6_findSteps_167 : decode cX6_findSteps 167 = .ok (.invokestatic 190, 3) := by decide +kernel
theorem dX6_findSteps_170 : decode cX6_findSteps 170 = .ok (.iconst 0, 1) := by decide +kernel
theorem dX6_findSteps_171 : decode cX6_findSteps 171 = .ok (.iastore, 1) := by decide +kernel
theorem dX6_findSteps_172 : decode cX6_findSteps 172 = .ok (.iconst 0, 1) := by decide +kernel
theorem dX6_findSteps_173 : decode cX6_findSteps 173 = .ok (.istore 9, 2) := by decide +kernel
theorem dX6_findSteps_175 : decode cX6_findSteps 175 = .ok (.iload 9, 2) := by decide +kernel
theorem dX6_findSteps_177 : decode cX6_findSteps 177 = .ok (.iconst 5, 1) := by decide +kernel
theorem dX6_findSteps_178 : decode cX6_findSteps 178 = .ok (.if_icmp .ge 32, 3) := by decide +kernel
theorem dX6_findSteps_181 : decode cX6_findSteps 181 = .ok (.aload_n 0, 1) := by decide +kernel
theorem dX6_findSteps_182 : decode cX6_findSteps 182 = .ok (.getfield 54, 3) := by decide +kernel
theorem dX6_findSteps_185 : decode cX6_findSteps 185 = .ok (.iconst 0, 1) := by decide +kernel
theorem dX6_findSteps_186 : decode cX6_findSteps 186 = .ok (.iconst 0, 1) := by decide +kernel
theorem dX6_findSteps_187 : decode cX6_findSteps 187 = .ok (.invokestatic 190, 3) := by decide +kernel
theorem dX6_findSteps_190 : decode cX6_findSteps 190 = .ok (.iaload, 1) := by decide +kernel
theorem dX6_findSteps_191 : decode cX6_findSteps 191 = .ok (.bipush (-9), 2) := by decide +kernel
theorem dX6_findSteps_193 : decode cX6_findSteps 193 = .ok (.if_icmp .ne 17, 3) := by decide +kernel
theorem dX6_findSteps_196 : decode cX6_findSteps 196 = .ok (.aload_n 0, 1) := by decide +kernel
theorem dX6_findSteps_197 : decode cX6_findSteps 197 = .ok (.iload_n 1, 1) := by decide +kernel
theorem dX6_findSteps_198 : decode cX6_findSteps 198 = .ok (.iload_n 3, 1) := by decide +kernel
theorem dX6_findSteps_199 : decode cX6_findSteps 199 = .ok (.iload 9, 2) := by decide +kernel
theorem dX6_findSteps_201 : decode cX6_findSteps 201 = .ok (.invokevirtual 193, 3) := by decide +kernel
theorem dX6_findSteps_204 : decode cX6_findSteps 204 = .ok (.iinc 9 1, 3) := by decide +kernel
theorem dX6_findSteps_207 : decode cX6_findSteps 207 = .ok (.goto (-32), 3) := by decide +kernel
theorem dX6_findSteps_210 : decode cX6_findSteps 210 = .ok (.aload_n 0, 1) := by decide +kernel
theorem dX6_findSteps_211 : decode cX6_findSteps 211 = .ok (.getfield 54, 3) := by decide +kernel
theorem dX6_findSteps_214 : decode cX6_findSteps 214 = .ok (.iconst 0, 1) := by decide +kernel
theorem dX6_findSteps_215 : decode cX6_findSteps 215 = .ok (.iconst 0, 1) := by decide +kernel
theorem dX6_findSteps_216 : decode cX6_findSteps 216 = .ok (.invokestatic 190, 3) := by decide +kernel
theorem dX6_findSteps_219 : decode cX6_findSteps 219 = .ok (.iaload, 1) := by decide +kernel
theorem dX6_findSteps_220 : decode cX6_findSteps 220 = .ok (.ireturn, 1) := by decide +kernel
set_option maxRecDepth 20000 in
theorem ggX6_goesBy_X6_twosBy : GoodIn wsX6_goesBy wsX6_twosBy := goodIn_r _ [6, 7, 8, 5, 9, 10, 11, 12] (by decide +kernel) (by decide +kernel)
set_option maxRecDepth 20000 in
theorem gX6_goesBy_X6_twosBy : GoodIn wsX6_goesBy (va_wsS RX6 181 yX6_twosBy wsX6_twosBy) := goodIn_app (goodIn_of _ (by decide +kernel)) ggX6_goesBy_X6_twosBy
set_option maxRecDepth 20000 in
theorem ggX6_goesBy_X6_threesBy : GoodIn wsX6_goesBy wsX6_threesBy := goodIn_r _ [15, 7, 8, 5, 9, 10, 11, 12] (by decide +kernel) (by decide +kernel)
set_option maxRecDepth 20000 in
theorem gX6_goesBy_X6_threesBy : GoodIn wsX6_goesBy (va_wsS RX6 184 yX6_threesBy wsX6_threesBy) := goodIn_app (goodIn_of _ (by decide +kernel)) ggX6_goesBy_X6_threesBy
set_option maxRecDepth 20000 in
theorem ggX6_goesBy_X6_isOf : GoodIn wsX6_goesBy wsX6_isOf := goodIn_r _ [18] (by decide +kernel) (by decide +kernel)
set_option maxRecDepth 20000 in
theorem gX6_goesBy_X6_isOf : GoodIn wsX6_goesBy (va_wsS RX6 178 yX6_isOf wsX6_isOf) := goodIn_app (goodIn_of _ (by decide +kernel)) ggX6_goesBy_X6_isOf
set_option maxRecDepth 20000 in
theorem ggX6_goesBy_X6_isPlayed : GoodIn wsX6_goesBy wsX6_isPlayed := goodIn_r _ [21, 22, 23, 24, 25, 5, 26, 27, 28, 29] (by decide +kernel) (by decide +kernel)
set_option maxRecDepth 20000 in
theorem gX6_goesBy_X6_isPlayed : GoodIn wsX6_goesBy (va_wsS RX6 187 yX6_isPlayed wsX6_isPlayed) := goodIn_app (goodIn_of _ (by decide +kernel)) ggX6_goesBy_X6_isPlayed
set_option maxRecDepth 20000 in
theorem ggX6_goesBy_X6_indexOf : GoodIn wsX6_goesBy wsX6_indexOf := goodIn_r _ [32] (by decide +kernel) (by decide +kernel)
set_option maxRecDepth 20000 in
theorem gX6_goesBy_X6_indexOf : GoodIn wsX6_goesBy (va_wsS RX6 190 yX6_indexOf wsX6_indexOf) := goodIn_app (goodIn_of _ (by decide +kernel)) ggX6_goesBy_X6_indexOf
theorem dX6_goesBy_0 : decode cX6_goesBy 0 = .ok (.iconst 0, 1) := by decide +kernel
theorem dX6_goesBy_1 : decode cX6_goesBy 1 = .ok (.istore 4, 2) := by decide +kernel
theorem dX6_goesBy_3 : decode cX6_goesBy 3 = .ok (.iload 4, 2) := by decide +kernel
theorem dX6_goesBy_5 : decode cX6_goesBy 5 = .ok (.sipush 400, 3) := by decide +kernel
theorem dX6_goesBy_8 : decode cX6_goesBy 8 = .ok (.if_icmp .ge 122, 3) := by decide +kernel
theorem dX6_goesBy_11 : decode cX6_goesBy 11 = .ok (.iload 4, 2) := by decide +kernel
theorem dX6_goesBy_13 : decode cX6_goesBy 13 = .ok (.bipush 20, 2) := by decide +kernel
theorem dX6_goesBy_15 : decode cX6_goesBy 15 = .ok (.idiv, 1) := by decide +kernel
theorem dX6_goesBy_16 : decode cX6_goesBy 16 = .ok (.istore 5, 2) := by decide +kernel
theorem dX6_goesBy_18 : decode cX6_goesBy 18 = .ok (.iload 4, 2) := by decide +kernel
theorem dX6_goesBy_20 : decode cX6_goesBy 20 = .ok (.bipush 20, 2) := by decide +kernel
theorem dX6_goesBy_22 : decode cX6_goesBy 22 = .ok (.irem, 1) := by decide +kernel
theorem dX6_goesBy_23 : decode cX6_goesBy 23 = .ok (.istore 6, 2) := by decide +kernel
theorem dX6_goesBy_25 : decode cX6_goesBy 25 = .ok (.iload_n 1, 1) := by decide +kernel
theorem dX6_goesBy_26 : decode cX6_goesBy 26 = .ok (.bipush 21, 2) := by decide +kernel
theorem dX6_goesBy_28 : decode cX6_goesBy 28 = .ok (.idiv, 1) := by decide +kernel
theorem dX6_goesBy_29 : decode cX6_goesBy 29 = .ok (.bipush 30, 2) := by decide +kernel
theorem dX6_goesBy_31 : decode cX6_goesBy 31 = .ok (.isub, 1) := by decide +kernel
theorem dX6_goesBy_32 : decode cX6_goesBy 32 = .ok (.iload 5, 2) := by decide +kernel
theorem dX6_goesBy_34 : decode cX6_goesBy 34 = .ok (.iload 6, 2) := by decide +kernel
theorem dX6_goesBy_36 : decode cX6_goesBy 36 = .ok (.invokestatic 181, 3) := by decide +kernel
theorem dX6_goesBy_39 : decode cX6_goesBy 39 = .ok (.iadd, 1) := by decide +kernel
theorem dX6_goesBy_40 : decode cX6_goesBy 40 = .ok (.istore 7, 2) := by decide +kernel
theorem dX6_goesBy_42 : decode cX6_goesBy 42 = .ok (.iload_n 1, 1) := by decide +kernel
theorem dX6_goesBy_43 : decode cX6_goesBy 43 = .ok (.bipush 21, 2) := by decide +kernel
theorem dX6_goesBy_45 : decode cX6_goesBy 45 = .ok (.irem, 1) := by decide +kernel
theorem dX6_goesBy_46 : decode cX6_goesBy 46 = .ok (.bipush 10, 2) := by decide +kernel
theorem dX6_goesBy_48 : decode cX6_goesBy 48 = .ok (.isub, 1) := by decide +kernel
theorem dX6_goesBy_49 : decode cX6_goesBy 49 = .ok (.iload 5, 2) := by decide +kernel
theorem dX6_goesBy_51 : decode cX6_goesBy 51 = .ok (.iload 6, 2) := by decide +kernel
theorem dX6_goesBy_53 : decode cX6_goesBy 53 = .ok (.invokestatic 184, 3) := by decide +kernel
theorem dX6_goesBy_56 : decode cX6_goesBy 56 = .ok (.iadd, 1) := by decide +kernel
theorem dX6_goesBy_57 : decode cX6_goesBy 57 = .ok (.istore 8, 2) := by decide +kernel
theorem dX6_goesBy_59 : decode cX6_goesBy 59 = .ok (.iload_n 3, 1) := by decide +kernel
theorem dX6_goesBy_60 : decode cX6_goesBy 60 = .ok (.iload 5, 2) := by decide +kernel
theorem dX6_goesBy_62 : decode cX6_goesBy 62 = .ok (.iload 6, 2) := by decide +kernel
theorem dX6_goesBy_64 : decode cX6_goesBy 64 = .ok (.invokestatic 178, 3) := by decide +kernel
theorem dX6_goesBy_67 : decode cX6_goesBy 67 = .ok (.ifCond .eq 57, 3) := by decide +kernel
theorem dX6_goesBy_70 : decode cX6_goesBy 70 = .ok (.iload_n 2, 1) := by decide +kernel
theorem dX6_goesBy_71 : decode cX6_goesBy 71 = .ok (.iload 7, 2) := by decide +kernel
theorem dX6_goesBy_73 : decode cX6_goesBy 73 = .ok (.iload 8, 2) := by decide +kernel
theorem dX6_goesBy_75 : decode cX6_goesBy 75 = .ok (.invokestatic 187, 3) := by decide +kernel
theorem dX6_goesBy_78 : decode cX6_goesBy 78 = .ok (.ifCond .eq 46, 3) := by decide +kernel
theorem dX6_goesBy_81 : decode cX6_goesBy 81 = .ok (.aload_n 0, 1) := by decide +kernel
theorem dX6_goesBy_82 : decode cX6_goesBy 82 = .ok (.getfield 54, 3) := by decide +kernel
theorem dX6_goesBy_85 : decode cX6_goesBy 85 = .ok (.iload 7, 2) := by decide +kernel
theorem dX6_goesBy_87 : decode cX6_goesBy 87 = .ok (.iload 8, 2) := by decide +kernel
theorem dX6_goesBy_89 : decode cX6_goesBy 89 = .ok (.invokestatic 190, 3) := by decide +kernel
theorem dX6_goesBy_92 : decode cX6_goesBy 92 = .ok (.iaload, 1) := by decide +kernel
theorem dX6_goesBy_93 : decode cX6_goesBy 93 = .ok (.aload_n 0, 1) := by decide +kernel
theorem dX6_goesBy_94 : decode cX6_goesBy 94 = .ok (.getfield 54, 3) := by decide +kernel
theorem dX6_goesBy_97 : decode cX6_goesBy 97 = .ok (.iload_n 1, 1) := by decide +kernel
theorem dX6_goesBy_98 : decode cX6_goesBy 98 = .ok (.iaload, 1) := by decide +kernel
theorem dX6_goesBy_99 : decode cX6_goesBy 99 = .ok (.iconst 1, 1) := by decide +kernel
theorem dX6_goesBy_100 : decode cX6_goesBy 100 = .ok (.isub, 1) := by decide +kernel
theorem dX6_goesBy_101 : decode cX6_goesBy 101 = .ok (.if_icmp .ne 23, 3) := by decide +kernel
theorem dX6_goesBy_104 : decode cX6_goesBy 104 = .ok (.aload_n 0, 1) := by decide +kernel
theorem dX6_goesBy_105 : decode cX6_goesBy 105 = .ok (.bipush 100, 2) := by decide +kernel
theorem dX6_goesBy_107 : decode cX6_goesBy 107 = .ok (.iload 5, 2) := by decide +kernel
theorem dX6_goesBy_109 : decode cX6_goesBy 109 = .ok (.imul, 1) := by decide +kernel
theorem dX6_goesBy_110 : decode cX6_goesBy 110 = .ok (.iload 6, 2) := by decide +kernel
theorem dX6_goesBy_112 : decode cX6_goesBy 112 = .ok (.iadd, 1) := by decide +kernel
theorem dX6_goesBy_113 : decode cX6_goesBy 113 = .ok (.putfield 197, 3) := by decide +kernel
theorem dX6_goesBy_116 : decode cX6_goesBy 116 = .ok (.iload 7, 2) := by decide +kernel
theorem dX6_goesBy_118 : decode cX6_goesBy 118 = .ok (.iload 8, 2) := by decide +kernel
theorem dX6_goesBy_120 : decode cX6_goesBy 120 = .ok (.invokestatic 190, 3) := by decide +kernel
theorem dX6_goesBy_123 : decode cX6_goesBy 123 = .ok (.ireturn, 1) := by decide +kernel
theorem dX6_goesBy_124 : decode cX6_goesBy 124 = .ok (.iinc 4 1, 3) := by decide +kernel
theorem dX6_goesBy_127 : decode cX6_goesBy 127 = .ok (.goto (-124), 3) := by decide +kernel
theorem dX6_goesBy_130 : decode cX6_goesBy 130 = .ok (.iload_n 1, 1) := by decide +kernel
theorem dX6_goesBy_131 : decode cX6_goesBy 131 = .ok (.ireturn, 1) := by decide +kernel
set_option maxRecDepth 20000 in
theorem ggX6_pivots_X6_isIn : GoodIn wsX6_pivots wsX6_isIn := goodIn_r _ [6] (by decide +kernel) (by decide +kernel)
set_option maxRecDepth 20000 in
theorem gX6_pivots_X6_isIn : GoodIn wsX6_pivots (va_wsS RX6 60 yX6_isIn wsX6_isIn) := goodIn_app (goodIn_of _ (by decide +kernel)) ggX6_pivots_X6_isIn
set_option maxRecDepth 20000 in
theorem ggX6_pivots_X6_findSteps : GoodIn wsX6_pivots wsX6_findSteps := goodIn_r _ [10, 11, 12, 13, 5, 14, 15, 16, 17, 18, 19, 20, 21, 22, 23, 24, 25, 26, 27, 28, 29, 30, 31, 32, 33, 34, 35, 36, 37, 38, 39, 40, 41, 42, 43, 44, 3, 4, 6, 49, 50, 51, 52, 53, 54, 55, 56, 57, 58, 59, 60, 61, 62, 63, 64, 65, 66, 67] (by decide +kernel) (by decide +kernel)
set_option maxRecDepth 20000 in
theorem gX6_pivots_X6_findSteps : GoodIn wsX6_pivots (wsV RX6 201 RX6 yX6_findSteps wsX6_findSteps) := goodIn_app (goodIn_of _ (by decide +kernel)) ggX6_pivots_X6_findSteps
set_option maxRecDepth 20000 in
theorem ggX6_pivots_X6_indexOf : GoodIn wsX6_pivots wsX6_indexOf := goodIn_r _ [23] (by decide +kernel) (by decide +kernel)
set_option maxRecDepth 20000 in
theorem gX6_pivots_X6_indexOf : GoodIn wsX6_pivots (va_wsS RX6 190 yX6_indexOf wsX6_indexOf) := goodIn_app (goodIn_of _ (by decide +kernel)) ggX6_pivots_X6_indexOf
set_option maxRecDepth 20000 in
theorem ggX6_pivots_X6_goesBy : GoodIn wsX6_pivots wsX6_goesBy := goodIn_r _ [48, 11, 2, 31, 32, 5, 33, 34, 35, 36, 15, 16, 17, 37, 38, 39, 28, 29, 30, 40, 41, 42, 43, 44, 3, 4, 6, 18, 19, 20, 21, 22, 23, 49, 50, 51, 52, 53, 54, 55, 56, 57, 58, 59, 60, 61, 62, 63, 64, 65, 66, 67] (by decide +kernel) (by decide +kernel)
set_option maxRecDepth 20000 in
theorem gX6_pivots_X6_goesBy : GoodIn wsX6_pivots (wsV RX6 204 RX6 yX6_goesBy wsX6_goesBy) := goodIn_app (goodIn_of _ (by decide +kernel)) ggX6_pivots_X6_goesBy
theorem dX6_pivots_0 : decode cX6_pivots 0 = .ok (.iload_n 1, 1) := by decide +kernel
theorem dX6_pivots_1 : decode cX6_pivots 1 = .ok (.bipush 20, 2) := by decide +kernel
theorem dX6_pivots_3 : decode cX6_pivots 3 = .ok (.sipush 400, 3) := by decide +kernel
theorem dX6_pivots_6 : decode cX6_pivots 6 = .ok (.invokestatic 60, 3) := by decide +kernel
theorem dX6_pivots_9 : decode cX6_pivots 9 = .ok (.ifCond .eq 35, 3) := by decide +kernel
theorem dX6_pivots_12 : decode cX6_pivots 12 = .ok (.iload_n 2, 1) := by decide +kernel
theorem dX6_pivots_13 : decode cX6_pivots 13 = .ok (.bipush 20, 2) := by decide +kernel
theorem dX6_pivots_15 : decode cX6_pivots 15 = .ok (.sipush 400, 3) := by decide +kernel
theorem dX6_pivots_18 : decode cX6_pivots 18 = .ok (.invokestatic 60, 3) := by decide +kernel
theorem dX6_pivots_21 : decode cX6_pivots 21 = .ok (.ifCond .eq 23, 3) := by decide +kernel
theorem dX6_pivots_24 : decode cX6_pivots 24 = .ok (.iload_n 3, 1) := by decide +kernel
theorem dX6_pivots_25 : decode cX6_pivots 25 = .ok (.iconst 0, 1) := by decide +kernel
theorem dX6_pivots_26 : decode cX6_pivots 26 = .ok (.ldc 200, 2) := by decide +kernel
theorem dX6_pivots_28 : decode cX6_pivots 28 = .ok (.invokestatic 60, 3) := by decide +kernel
theorem dX6_pivots_31 : decode cX6_pivots 31 = .ok (.ifCond .eq 13, 3) := by decide +kernel
theorem dX6_pivots_34 : decode cX6_pivots 34 = .ok (.iload 4, 2) := by decide +kernel
theorem dX6_pivots_36 : decode cX6_pivots 36 = .ok (.iconst (-1), 1) := by decide +kernel
theorem dX6_pivots_37 : decode cX6_pivots 37 = .ok (.iconst 4, 1) := by decide +kernel
theorem dX6_pivots_38 : decode cX6_pivots 38 = .ok (.invokestatic 60, 3) := by decide +kernel
theorem dX6_pivots_41 : decode cX6_pivots 41 = .ok (.ifCond .ne 6, 3) := by decide +kernel
theorem dX6_pivots_44 : decode cX6_pivots 44 = .ok (.bipush (-2), 2) := by decide +kernel
theorem dX6_pivots_46 : decode cX6_pivots 46 = .ok (.ireturn, 1) := by decide +kernel
theorem dX6_pivots_47 : decode cX6_pivots 47 = .ok (.aload_n 0, 1) := by decide +kernel
theorem dX6_pivots_48 : decode cX6_pivots 48 = .ok (.iload_n 1, 1) := by decide +kernel
theorem dX6_pivots_49 : decode cX6_pivots 49 = .ok (.iload_n 2, 1) := by decide +kernel
theorem dX6_pivots_50 : decode cX6_pivots 50 = .ok (.iload_n 3, 1) := by decide +kernel
theorem dX6_pivots_51 : decode cX6_pivots 51 = .ok (.invokevirtual 201, 3) := by decide +kernel
theorem dX6_pivots_54 : decode cX6_pivots 54 = .ok (.istore 5, 2) := by decide +kernel
theorem dX6_pivots_56 : decode cX6_pivots 56 = .ok (.iload 5, 2) := by decide +kernel
theorem dX6_pivots_58 : decode cX6_pivots 58 = .ok (.bipush (-9), 2) := by decide +kernel
theorem dX6_pivots_60 : decode cX6_pivots 60 = .ok (.if_icmp .eq 8, 3) := by decide +kernel
theorem dX6_pivots_63 : decode cX6_pivots 63 = .ok (.iload 4, 2) := by decide +kernel
theorem dX6_pivots_65 : decode cX6_pivots 65 = .ok (.ifCond .ge 6, 3) := by decide +kernel
theorem dX6_pivots_68 : decode cX6_pivots 68 = .ok (.iload 5, 2) := by decide +kernel
theorem dX6_pivots_70 : decode cX6_pivots 70 = .ok (.ireturn, 1) := by decide +kernel
theorem dX6_pivots_71 : decode cX6_pivots 71 = .ok (.iload 4, 2) := by decide +kernel
theorem dX6_pivots_73 : decode cX6_pivots 73 = .ok (.iload 5, 2) := by decide +kernel
theorem dX6_pivots_75 : decode cX6_pivots 75 = .ok (.if_icmp .lt 6, 3) := by decide +kernel
theorem dX6_pivots_78 : decode cX6_pivots 78 = .ok (.bipush (-9), 2) := by decide +kernel
theorem dX6_pivots_80 : decode cX6_pivots 80 = .ok (.ireturn, 1) := by decide +kernel
theorem dX6_pivots_81 : decode cX6_pivots 81 = .ok (.iconst 0, 1) := by decide +kernel
theorem dX6_pivots_82 : decode cX6_pivots 82 = .ok (.iconst 0, 1) := by decide +kernel
theorem dX6_pivots_83 : decode cX6_pivots 83 = .ok (.invokestatic 190, 3) := by decide +kernel
theorem dX6_pivots_86 : decode cX6_pivots 86 = .ok (.istore 6, 2) := by decide +kernel
theorem dX6_pivots_88 : decode cX6_pivots 88 = .ok (.iconst 0, 1) := by decide +kernel
theorem dX6_pivots_89 : decode cX6_pivots 89 = .ok (.istore 7, 2) := by decide +kernel
theorem dX6_pivots_91 : decode cX6_pivots 91 = .ok (.iload 7, 2) := by decide +kernel
theorem dX6_pivots_93 : decode cX6_pivots 93 = .ok (.iload 4, 2) := by decide +kernel
theorem dX6_pivots_95 : decode cX6_pivots 95 = .ok (.if_icmp .gt 19, 3) := by decide +kernel
theorem dX6_pivots_98 : decode cX6_pivots 98 = .ok (.aload_n 0, 1) := by decide +kernel
theorem dX6_pivots_99 : decode cX6_pivots 99 = .ok (.iload 6, 2) := by decide +kernel
theorem dX6_pivots_101 : decode cX6_pivots 101 = .ok (.iload_n 1, 1) := by decide +kernel
theorem dX6_pivots_102 : decode cX6_pivots 102 = .ok (.iload_n 3, 1) := by decide +kernel
theorem dX6_pivots_103 : decode cX6_pivots 103 = .ok (.invokevirtual 204, 3) := by decide +kernel
theorem dX6_pivots_106 : decode cX6_pivots 106 = .ok (.istore 6, 2) := by decide +kernel
theorem dX6_pivots_108 : decode cX6_pivots 108 = .ok (.iinc 7 1, 3) := by decide +kernel
theorem dX6_pivots_111 : decode cX6_pivots 111 = .ok (.goto (-20), 3) := by decide +kernel
theorem dX6_pivots_114 : decode cX6_pivots 114 = .ok (.aload_n 0, 1) := by decide +kernel
theorem dX6_pivots_115 : decode cX6_pivots 115 = .ok (.getfield 197, 3) := by decide +kernel
theorem dX6_pivots_118 : decode cX6_pivots 118 = .ok (.ireturn, 1) := by decide +kernel
set_option maxRecDepth 20000 in
theorem ggX6_manyOf_X6_findSorts : GoodIn wsX6_manyOf wsX6_findSorts := goodIn_r _ [7, 1, 8, 2, 9, 10, 11, 12, 6, 13, 14, 15, 16, 17, 18, 19, 20, 21, 22, 23, 24, 25, 26, 27, 28, 29, 30, 31, 32, 33, 34, 35, 36, 37, 38, 39, 40, 41, 42, 43, 44, 45, 46, 47] (by decide +kernel) (by decide +kernel)
set_option maxRecDepth 20000 in
theorem gX6_manyOf_X6_findSorts : GoodIn wsX6_manyOf (wsV RX6 96 RX6 yX6_findSorts wsX6_findSorts) := goodIn_app (goodIn_of _ (by decide +kernel)) ggX6_manyOf_X6_findSorts
theorem dX6_manyOf_0 : decode cX6_manyOf 0 = .ok (.aload_n 0, 1) := by decide +kernel
theorem dX6_manyOf_1 : decode cX6_manyOf 1 = .ok (.invokevirtual 96, 3) := by decide +kernel
theorem dX6_manyOf_4 : decode cX6_manyOf 4 = .ok (.iconst 0, 1) := by decide +kernel
theorem dX6_manyOf_5 : decode cX6_manyOf 5 = .ok (.istore_n 2, 1) := by decide +kernel
theorem dX6_manyOf_6 : decode cX6_manyOf 6 = .ok (.iconst 0, 1) := by decide +kernel
theorem dX6_manyOf_7 : decode cX6_manyOf 7 = .ok (.istore_n 3, 1) := by decide +kernel
theorem dX6_manyOf_8 : decode cX6_manyOf 8 = .ok (.iload_n 3, 1) := by decide +kernel
theorem dX6_manyOf_9 : decode cX6_manyOf 9 = .ok (.aload_n 0, 1) := by decide +kernel
theorem dX6_manyOf_10 : decode cX6_manyOf 10 = .ok (.getfield 64, 3) := by decide +kernel
theorem dX6_manyOf_13 : decode cX6_manyOf 13 = .ok (.if_icmp .ge 27, 3) := by decide +kernel
theorem dX6_manyOf_16 : decode cX6_manyOf 16 = .ok (.iload_n 2, 1) := by decide +kernel
theorem dX6_manyOf_17 : decode cX6_manyOf 17 = .ok (.aload_n 0, 1) := by decide +kernel
theorem dX6_manyOf_18 : decode cX6_manyOf 18 = .ok (.getfield 23, 3) := by decide +kernel
theorem dX6_manyOf_21 : decode cX6_manyOf 21 = .ok (.iload_n 3, 1) := by decide +kernel
theorem dX6_manyOf_22 : decode cX6_manyOf 22 = .ok (.iaload, 1) := by decide +kernel
theorem dX6_manyOf_23 : decode cX6_manyOf 23 = .ok (.iload_n 1, 1) := by decide +kernel
theorem dX6_manyOf_24 : decode cX6_manyOf 24 = .ok (.if_icmp .ne 7, 3) := by decide +kernel
theorem dX6_manyOf_27 : decode cX6_manyOf 27 = .ok (.iconst 1, 1) := by decide +kernel
theorem dX6_manyOf_28 : decode cX6_manyOf 28 = .ok (.goto 4, 3) := by decide +kernel
theorem dX6_manyOf_31 : decode cX6_manyOf 31 = .ok (.iconst 0, 1) := by decide +kernel
theorem dX6_manyOf_32 : decode cX6_manyOf 32 = .ok (.iadd, 1) := by decide +kernel
theorem dX6_manyOf_33 : decode cX6_manyOf 33 = .ok (.istore_n 2, 1) := by decide +kernel
theorem dX6_manyOf_34 : decode cX6_manyOf 34 = .ok (.iinc 3 1, 3) := by decide +kernel
theorem dX6_manyOf_37 : decode cX6_manyOf 37 = .ok (.goto (-29), 3) := by decide +kernel
theorem dX6_manyOf_40 : decode cX6_manyOf 40 = .ok (.iload_n 2, 1) := by decide +kernel
theorem dX6_manyOf_41 : decode cX6_manyOf 41 = .ok (.ireturn, 1) := by decide +kernel
set_option maxRecDepth 20000 in
theorem ggX6_manyPins_X6_isPinHeld : GoodIn wsX6_manyPins wsX6_isPinHeld := goodIn_r _ [6, 7, 8, 9, 10, 5, 11, 12, 13, 14, 15, 16, 17, 18, 19, 20, 21, 22, 23, 24, 25, 26, 27, 28, 29, 30, 31, 32] (by decide +kernel) (by decide +kernel)
set_option maxRecDepth 20000 in
theorem gX6_manyPins_X6_isPinHeld : GoodIn wsX6_manyPins (wsV RX6 113 RX6 yX6_isPinHeld wsX6_isPinHeld) := goodIn_app (goodIn_of _ (by decide +kernel)) ggX6_manyPins_X6_isPinHeld
theorem dX6_manyPins_0 : decode cX6_manyPins 0 = .ok (.iconst 0, 1) := by decide +kernel
theorem dX6_manyPins_1 : decode cX6_manyPins 1 = .ok (.istore_n 1, 1) := by decide +kernel
theorem dX6_manyPins_2 : decode cX6_manyPins 2 = .ok (.iconst 0, 1) := by decide +kernel
theorem dX6_manyPins_3 : decode cX6_manyPins 3 = .ok (.istore_n 2, 1) := by decide +kernel
theorem dX6_manyPins_4 : decode cX6_manyPins 4 = .ok (.iload_n 2, 1) := by decide +kernel
theorem dX6_manyPins_5 : decode cX6_manyPins 5 = .ok (.aload_n 0, 1) := by decide +kernel
theorem dX6_manyPins_6 : decode cX6_manyPins 6 = .ok (.getfield 57, 3) := by decide +kernel
theorem dX6_manyPins_9 : decode cX6_manyPins 9 = .ok (.if_icmp .ge 25, 3) := by decide +kernel
theorem dX6_manyPins_12 : decode cX6_manyPins 12 = .ok (.iload_n 1, 1) := by decide +kernel
theorem dX6_manyPins_13 : decode cX6_manyPins 13 = .ok (.aload_n 0, 1) := by decide +kernel
theorem dX6_manyPins_14 : decode cX6_manyPins 14 = .ok (.iload_n 2, 1) := by decide +kernel
theorem dX6_manyPins_15 : decode cX6_manyPins 15 = .ok (.invokevirtual 113, 3) := by decide +kernel
theorem dX6_manyPins_18 : decode cX6_manyPins 18 = .ok (.ifCond .eq 7, 3) := by decide +kernel
theorem dX6_manyPins_21 : decode cX6_manyPins 21 = .ok (.iconst 1, 1) := by decide +kernel
theorem dX6_manyPins_22 : decode cX6_manyPins 22 = .ok (.goto 4, 3) := by decide +kernel
theorem dX6_manyPins_25 : decode cX6_manyPins 25 = .ok (.iconst 0, 1) := by decide +kernel
theorem dX6_manyPins_26 : decode cX6_manyPins 26 = .ok (.iadd, 1) := by decide +kernel
theorem dX6_manyPins_27 : decode cX6_manyPins 27 = .ok (.istore_n 1, 1) := by decide +kernel
theorem dX6_manyPins_28 : decode cX6_manyPins 28 = .ok (.iinc 2 1, 3) := by decide +kernel
theorem dX6_manyPins_31 : decode cX6_manyPins 31 = .ok (.goto (-27), 3) := by decide +kernel
theorem dX6_manyPins_34 : decode cX6_manyPins 34 = .ok (.iload_n 1, 1) := by decide +kernel
theorem dX6_manyPins_35 : decode cX6_manyPins 35 = .ok (.ireturn, 1) := by decide +kernel
set_option maxRecDepth 20000 in
theorem ggX6_many_X6_manyOf : GoodIn wsX6_many wsX6_manyOf := goodIn_r _ [9, 2, 10, 11, 12, 13, 8, 14, 15, 16, 17, 18, 19, 20, 21, 22, 23, 24, 25, 26, 27, 28, 29, 30, 31, 32, 33, 34, 35, 50, 51, 52, 53, 54, 55, 56, 57, 58, 59, 60, 61, 62, 63, 64, 65, 66, 67, 68] (by decide +kernel) (by decide +kernel)
set_option maxRecDepth 20000 in
theorem gX6_many_X6_manyOf : GoodIn wsX6_many (wsV RX6 207 RX6 yX6_manyOf wsX6_manyOf) := goodIn_app (goodIn_of _ (by decide +kernel)) ggX6_many_X6_manyOf
set_option maxRecDepth 20000 in
theorem ggX6_many_X6_manyPins : GoodIn wsX6_many wsX6_manyPins := goodIn_r _ [39, 1, 40, 41, 42, 8, 43, 44, 45, 46, 47, 48, 3, 49, 50, 51, 52, 53, 54, 55, 56, 57, 58, 59, 60, 61, 62, 63, 64, 65, 66, 67, 68] (by decide +kernel) (by decide +kernel)
set_option maxRecDepth 20000 in
theorem gX6_many_X6_manyPins : GoodIn wsX6_many (wsV RX6 210 RX6 yX6_manyPins wsX6_manyPins) := goodIn_app (goodIn_of _ (by decide +kernel)) ggX6_many_X6_manyPins
theorem dX6_many_0 : decode cX6_many 0 = .ok (.iload_n 1, 1) := by decide +kernel
theorem dX6_many_1 : decode cX6_many 1 = .ok (.tableswitch 95 0 8 #[51, 56, 61, 61, 61, 69, 80, 85, 90], 51) := by decide +kernel
theorem dX6_many_52 : decode cX6_many 52 = .ok (.aload_n 0, 1) := by decide +kernel
theorem dX6_many_53 : decode cX6_many 53 = .ok (.getfield 57, 3) := by decide +kernel
theorem dX6_many_56 : decode cX6_many 56 = .ok (.ireturn, 1) := by decide +kernel
theorem dX6_many_57 : decode cX6_many 57 = .ok (.aload_n 0, 1) := by decide +kernel
theorem dX6_many_58 : decode cX6_many 58 = .ok (.getfield 64, 3) := by decide +kernel
theorem dX6_many_61 : decode cX6_many 61 = .ok (.ireturn, 1) := by decide +kernel
theorem dX6_many_62 : decode cX6_many 62 = .ok (.aload_n 0, 1) := by decide +kernel
theorem dX6_many_63 : decode cX6_many 63 = .ok (.iload_n 1, 1) := by decide +kernel
theorem dX6_many_64 : decode cX6_many 64 = .ok (.iconst 2, 1) := by decide +kernel
theorem dX6_many_65 : decode cX6_many 65 = .ok (.isub, 1) := by decide +kernel
theorem dX6_many_66 : decode cX6_many 66 = .ok (.invokevirtual 207, 3) := by decide +kernel
theorem dX6_many_69 : decode cX6_many 69 = .ok (.ireturn, 1) := by decide +kernel
theorem dX6_many_70 : decode cX6_many 70 = .ok (.aload_n 0, 1) := by decide +kernel
theorem dX6_many_71 : decode cX6_many 71 = .ok (.getfield 57, 3) := by decide +kernel
theorem dX6_many_74 : decode cX6_many 74 = .ok (.aload_n 0, 1) := by decide +kernel
theorem dX6_many_75 : decode cX6_many 75 = .ok (.iconst 0, 1) := by decide +kernel
theorem dX6_many_76 : decode cX6_many 76 = .ok (.invokevirtual 207, 3) := by decide +kernel
theorem dX6_many_79 : decode cX6_many 79 = .ok (.isub, 1) := by decide +kernel
theorem dX6_many_80 : decode cX6_many 80 = .ok (.ireturn, 1) := by decide +kernel
theorem dX6_many_81 : decode cX6_many 81 = .ok (.aload_n 0, 1) := by decide +kernel
theorem dX6_many_82 : decode cX6_many 82 = .ok (.getfield 42, 3) := by decide +kernel
theorem dX6_many_85 : decode cX6_many 85 = .ok (.ireturn, 1) := by decide +kernel
theorem dX6_many_86 : decode cX6_many 86 = .ok (.aload_n 0, 1) := by decide +kernel
theorem dX6_many_87 : decode cX6_many 87 = .ok (.invokevirtual 210, 3) := by decide +kernel
theorem dX6_many_90 : decode cX6_many 90 = .ok (.ireturn, 1) := by decide +kernel
theorem dX6_many_91 : decode cX6_many 91 = .ok (.aload_n 0, 1) := by decide +kernel
theorem dX6_many_92 : decode cX6_many 92 = .ok (.getfield 16, 3) := by decide +kernel
theorem dX6_many_95 : decode cX6_many 95 = .ok (.ireturn, 1) := by decide +kernel
theorem dX6_many_96 : decode cX6_many 96 = .ok (.bipush (-2), 2) := by decide +kernel
theorem dX6_many_98 : decode cX6_many 98 = .ok (.ireturn, 1) := by decide +kernel
theorem dJ9_abs_0f7a4_0 : decode cJ9_abs_0f7a4 0 = .ok (.iload_n 0, 1) := by decide +kernel
theorem dJ9_abs_0f7a4_1 : decode cJ9_abs_0f7a4 1 = .ok (.ifCond .ge 8, 3) := by decide +kernel
theorem dJ9_abs_0f7a4_4 : decode cJ9_abs_0f7a4 4 = .ok (.iload_n 0, 1) := by decide +kernel
theorem dJ9_abs_0f7a4_5 : decode cJ9_abs_0f7a4 5 = .ok (.ineg, 1) := by decide +kernel
theorem dJ9_abs_0f7a4_6 : decode cJ9_abs_0f7a4 6 = .ok (.goto 4, 3) := by decide +kernel
theorem dJ9_abs_0f7a4_9 : decode cJ9_abs_0f7a4 9 = .ok (.iload_n 0, 1) := by decide +kernel
theorem dJ9_abs_0f7a4_10 : decode cJ9_abs_0f7a4 10 = .ok (.ireturn, 1) := by decide +kernel
theorem dJ9_abs_067f4_0 : decode cJ9_abs_067f4 0 = .ok (.lload_n 0, 1) := by decide +kernel
theorem dJ9_abs_067f4_1 : decode cJ9_abs_067f4 1 = .ok (.lconst 0, 1) := by decide +kernel
theorem dJ9_abs_067f4_2 : decode cJ9_abs_067f4 2 = .ok (.lcmp, 1) := by decide +kernel
theorem dJ9_abs_067f4_3 : decode cJ9_abs_067f4 3 = .ok (.ifCond .ge 8, 3) := by decide +kernel
theorem dJ9_abs_067f4_6 : decode cJ9_abs_067f4 6 = .ok (.lload_n 0, 1) := by decide +kernel
theorem dJ9_abs_067f4_7 : decode cJ9_abs_067f4 7 = .ok (.lneg, 1) := by decide +kernel
theorem dJ9_abs_067f4_8 : decode cJ9_abs_067f4 8 = .ok (.goto 4, 3) := by decide +kernel
theorem dJ9_abs_067f4_11 : decode cJ9_abs_067f4 11 = .ok (.lload_n 0, 1) := by decide +kernel
theorem dJ9_abs_067f4_12 : decode cJ9_abs_067f4 12 = .ok (.lreturn, 1) := by decide +kernel
theorem dJ9_min_7cf53_0 : decode cJ9_min_7cf53 0 = .ok (.iload_n 0, 1) := by decide +kernel
theorem dJ9_min_7cf53_1 : decode cJ9_min_7cf53 1 = .ok (.iload_n 1, 1) := by decide +kernel
theorem dJ9_min_7cf53_2 : decode cJ9_min_7cf53 2 = .ok (.if_icmp .gt 7, 3) := by decide +kernel
theorem dJ9_min_7cf53_5 : decode cJ9_min_7cf53 5 = .ok (.iload_n 0, 1) := by decide +kernel
theorem dJ9_min_7cf53_6 : decode cJ9_min_7cf53 6 = .ok (.goto 4, 3) := by decide +kernel
theorem dJ9_min_7cf53_9 : decode cJ9_min_7cf53 9 = .ok (.iload_n 1, 1) := by decide +kernel
theorem dJ9_min_7cf53_10 : decode cJ9_min_7cf53 10 = .ok (.ireturn, 1) := by decide +kernel
