theorem dX6_init_0 : decode cX6_init 0 = .ok (.aload_n 0, 1) := by decide +kernel
theorem dX6_init_1 : decode cX6_init 1 = .ok (.invokespecial 1, 3) := by decide +kernel
theorem dX6_init_4 : decode cX6_init 4 = .ok (.aload_n 0, 1) := by decide +kernel
theorem dX6_init_5 : decode cX6_init 5 = .ok (.bipush 7, 2) := by decide +kernel
theorem dX6_init_7 : decode cX6_init 7 = .ok (.newarray .int, 2) := by decide +kernel
theorem dX6_init_9 : decode cX6_init 9 = .ok (.putfield 7, 3) := by decide +kernel
theorem dX6_init_12 : decode cX6_init 12 = .ok (.aload_n 0, 1) := by decide +kernel
theorem dX6_init_13 : decode cX6_init 13 = .ok (.bipush 7, 2) := by decide +kernel
theorem dX6_init_15 : decode cX6_init 15 = .ok (.newarray .int, 2) := by decide +kernel
theorem dX6_init_17 : decode cX6_init 17 = .ok (.putfield 13, 3) := by decide +kernel
theorem dX6_init_20 : decode cX6_init 20 = .ok (.aload_n 0, 1) := by decide +kernel
theorem dX6_init_21 : decode cX6_init 21 = .ok (.bipush 60, 2) := by decide +kernel
theorem dX6_init_23 : decode cX6_init 23 = .ok (.putfield 16, 3) := by decide +kernel
theorem dX6_init_26 : decode cX6_init 26 = .ok (.aload_n 0, 1) := by decide +kernel
theorem dX6_init_27 : decode cX6_init 27 = .ok (.bipush 60, 2) := by decide +kernel
theorem dX6_init_29 : decode cX6_init 29 = .ok (.newarray .int, 2) := by decide +kernel
theorem dX6_init_31 : decode cX6_init 31 = .ok (.putfield 20, 3) := by decide +kernel
theorem dX6_init_34 : decode cX6_init 34 = .ok (.aload_n 0, 1) := by decide +kernel
theorem dX6_init_35 : decode cX6_init 35 = .ok (.bipush 12, 2) := by decide +kernel
theorem dX6_init_37 : decode cX6_init 37 = .ok (.newarray .int, 2) := by decide +kernel
theorem dX6_init_39 : decode cX6_init 39 = .ok (.putfield 23, 3) := by decide +kernel
theorem dX6_init_42 : decode cX6_init 42 = .ok (.aload_n 0, 1) := by decide +kernel
theorem dX6_init_43 : decode cX6_init 43 = .ok (.bipush 7, 2) := by decide +kernel
theorem dX6_init_45 : decode cX6_init 45 = .ok (.newarray .long, 2) := by decide +kernel
theorem dX6_init_47 : decode cX6_init 47 = .ok (.putfield 26, 3) := by decide +kernel
theorem dX6_init_50 : decode cX6_init 50 = .ok (.aload_n 0, 1) := by decide +kernel
theorem dX6_init_51 : decode cX6_init 51 = .ok (.bipush 7, 2) := by decide +kernel
theorem dX6_init_53 : decode cX6_init 53 = .ok (.newarray .long, 2) := by decide +kernel
theorem dX6_init_55 : decode cX6_init 55 = .ok (.putfield 30, 3) := by decide +kernel
theorem dX6_init_58 : decode cX6_init 58 = .ok (.aload_n 0, 1) := by decide +kernel
theorem dX6_init_59 : decode cX6_init 59 = .ok (.bipush 7, 2) := by decide +kernel
theorem dX6_init_61 : decode cX6_init 61 = .ok (.newarray .int, 2) := by decide +kernel
theorem dX6_init_63 : decode cX6_init 63 = .ok (.putfield 33, 3) := by decide +kernel
theorem dX6_init_66 : decode cX6_init 66 = .ok (.aload_n 0, 1) := by decide +kernel
theorem dX6_init_67 : decode cX6_init 67 = .ok (.bipush 7, 2) := by decide +kernel
theorem dX6_init_69 : decode cX6_init 69 = .ok (.newarray .int, 2) := by decide +kernel
theorem dX6_init_71 : decode cX6_init 71 = .ok (.putfield 36, 3) := by decide +kernel
theorem dX6_init_74 : decode cX6_init 74 = .ok (.aload_n 0, 1) := by decide +kernel
theorem dX6_init_75 : decode cX6_init 75 = .ok (.bipush 7, 2) := by decide +kernel
theorem dX6_init_77 : decode cX6_init 77 = .ok (.newarray .int, 2) := by decide +kernel
theorem dX6_init_79 : decode cX6_init 79 = .ok (.putfield 39, 3) := by decide +kernel
theorem dX6_init_82 : decode cX6_init 82 = .ok (.aload_n 0, 1) := by decide +kernel
theorem dX6_init_83 : decode cX6_init 83 = .ok (.bipush 8, 2) := by decide +kernel
theorem dX6_init_85 : decode cX6_init 85 = .ok (.putfield 42, 3) := by decide +kernel
theorem dX6_init_88 : decode cX6_init 88 = .ok (.aload_n 0, 1) := by decide +kernel
theorem dX6_init_89 : decode cX6_init 89 = .ok (.bipush 16, 2) := by decide +kernel
theorem dX6_init_91 : decode cX6_init 91 = .ok (.newarray .int, 2) := by decide +kernel
theorem dX6_init_93 : decode cX6_init 93 = .ok (.dup, 1) := by decide +kernel
theorem dX6_init_94 : decode cX6_init 94 = .ok (.iconst 0, 1) := by decide +kernel
theorem dX6_init_95 : decode cX6_init 95 = .ok (.bipush 40, 2) := by decide +kernel
theorem dX6_init_97 : decode cX6_init 97 = .ok (.iastore, 1) := by decide +kernel
theorem dX6_init_98 : decode cX6_init 98 = .ok (.dup, 1) := by decide +kernel
theorem dX6_init_99 : decode cX6_init 99 = .ok (.iconst 1, 1) := by decide +kernel
theorem dX6_init_100 : decode cX6_init 100 = .ok (.bipush 60, 2) := by decide +kernel
theorem dX6_init_102 : decode cX6_init 102 = .ok (.iastore, 1) := by decide +kernel
theorem dX6_init_103 : decode cX6_init 103 = .ok (.dup, 1) := by decide +kernel
theorem dX6_init_104 : decode cX6_init 104 = .ok (.iconst 2, 1) := by decide +kernel
theorem dX6_init_105 : decode cX6_init 105 = .ok (.bipush 80, 2) := by decide +kernel
theorem dX6_init_107 : decode cX6_init 107 = .ok (.iastore, 1) := by decide +kernel
theorem dX6_init_108 : decode cX6_init 108 = .ok (.dup, 1) := by decide +kernel
theorem dX6_init_109 : decode cX6_init 109 = .ok (.iconst 3, 1) := by decide +kernel
theorem dX6_init_110 : decode cX6_init 110 = .ok (.bipush 100, 2) := by decide +kernel
theorem dX6_init_112 : decode cX6_init 112 = .ok (.iastore, 1) := by decide +kernel
theorem dX6_init_113 : decode cX6_init 113 = .ok (.dup, 1) := by decide +kernel
theorem dX6_init_114 : decode cX6_init 114 = .ok (.iconst 4, 1) := by decide +kernel
theorem dX6_init_115 : decode cX6_init 115 = .ok (.bipush 120, 2) := by decide +kernel
theorem dX6_init_117 : decode cX6_init 117 = .ok (.iastore, 1) := by decide +kernel
theorem dX6_init_118 : decode cX6_init 118 = .ok (.dup, 1) := by decide +kernel
theorem dX6_init_119 : decode cX6_init 119 = .ok (.iconst 5, 1) := by decide +kernel
theorem dX6_init_120 : decode cX6_init 120 = .ok (.sipush 144, 3) := by decide +kernel
theorem dX6_init_123 : decode cX6_init 123 = .ok (.iastore, 1) := by decide +kernel
theorem dX6_init_124 : decode cX6_init 124 = .ok (.dup, 1) := by decide +kernel
theorem dX6_init_125 : decode cX6_init 125 = .ok (.bipush 6, 2) := by decide +kernel
theorem dX6_init_127 : decode cX6_init 127 = .ok (.sipush 176, 3) := by decide +kernel
theorem dX6_init_130 : decode cX6_init 130 = .ok (.iastore, 1) := by decide +kernel
theorem dX6_init_131 : decode cX6_init 131 = .ok (.dup, 1) := by decide +kernel
theorem dX6_init_132 : decode cX6_init 132 = .ok (.bipush 7, 2) := by decide +kernel
theorem dX6_init_134 : decode cX6_init 134 = .ok (.sipush 208, 3) := by decide +kernel
theorem dX6_init_137 : decode cX6_init 137 = .ok (.iastore, 1) := by decide +kernel
theorem dX6_init_138 : decode cX6_init 138 = .ok (.dup, 1) := by decide +kernel
theorem dX6_init_139 : decode cX6_init 139 = .ok (.bipush 8, 2) := by decide +kernel
theorem dX6_init_141 : decode cX6_init 141 = .ok (.iconst 0, 1) := by decide +kernel
theorem dX6_init_142 : decode cX6_init 142 = .ok (.iastore, 1) := by decide +kernel
theorem dX6_init_143 : decode cX6_init 143 = .ok (.dup, 1) := by decide +kernel
theorem dX6_init_144 : decode cX6_init 144 = .ok (.bipush 9, 2) := by decide +kernel
theorem dX6_init_146 : decode cX6_init 146 = .ok (.iconst 0, 1) := by decide +kernel
theorem dX6_init_147 : decode cX6_init 147 = .ok (.iastore, 1) := by decide +kernel
theorem dX6_init_148 : decode cX6_init 148 = .ok (.dup, 1) := by decide +kernel
theorem dX6_init_149 : decode cX6_init 149 = .ok (.bipush 10, 2) := by decide +kernel
theorem dX6_init_151 : decode cX6_init 151 = .ok (.iconst 0, 1) := by decide +kernel
theorem dX6_init_152 : decode cX6_init 152 = .ok (.iastore, 1) := by decide +kernel
theorem dX6_init_153 : decode cX6_init 153 = .ok (.dup, 1) := by decide +kernel
theorem dX6_init_154 : decode cX6_init 154 = .ok (.bipush 11, 2) := by decide +kernel
theorem dX6_init_156 : decode cX6_init 156 = .ok (.iconst 0, 1) := by decide +kernel
theorem dX6_init_157 : decode cX6_init 157 = .ok (.iastore, 1) := by decide +kernel
theorem dX6_init_158 : decode cX6_init 158 = .ok (.dup, 1) := by decide +kernel
theorem dX6_init_159 : decode cX6_init 159 = .ok (.bipush 12, 2) := by decide +kernel
theorem dX6_init_161 : decode cX6_init 161 = .ok (.iconst 0, 1) := by decide +kernel
theorem dX6_init_162 : decode cX6_init 162 = .ok (.iastore, 1) := by decide +kernel
theorem dX6_init_163 : decode cX6_init 163 = .ok (.dup, 1) := by decide +kernel
theorem dX6_init_164 : decode cX6_init 164 = .ok (.bipush 13, 2) := by decide +kernel
theorem dX6_init_166 : decode cX6_init 166 = .ok (.iconst 0, 1) := by decide +kernel
theorem dX6_init_167 : decode cX6_init 167 = .ok (.iastore, 1) := by decide +kernel
theorem dX6_init_168 : decode cX6_init 168 = .ok (.dup, 1) := by decide +kernel
theorem dX6_init_169 : decode cX6_init 169 = .ok (.bipush 14, 2) := by decide +kernel
theorem dX6_init_171 : decode cX6_init 171 = .ok (.iconst 0, 1) := by decide +kernel
theorem dX6_init_172 : decode cX6_init 172 = .ok (.iastore, 1) := by decide +kernel
theorem dX6_init_173 : decode cX6_init 173 = .ok (.dup, 1) := by decide +kernel
theorem dX6_init_174 : decode cX6_init 174 = .ok (.bipush 15, 2) := by decide +kernel
theorem dX6_init_176 : decode cX6_init 176 = .ok (.iconst 0, 1) := by decide +kernel
theorem dX6_init_177 : decode cX6_init 177 = .ok (.iastore, 1) := by decide +kernel
theorem dX6_init_178 : decode cX6_init 178 = .ok (.putfield 45, 3) := by decide +kernel
theorem dX6_init_181 : decode cX6_init 181 = .ok (.aload_n 0, 1) := by decide +kernel
theorem dX6_init_182 : decode cX6_init 182 = .ok (.bipush 7, 2) := by decide +kernel
theorem dX6_init_184 : decode cX6_init 184 = .ok (.newarray .int, 2) := by decide +kernel
theorem dX6_init_186 : decode cX6_init 186 = .ok (.putfield 48, 3) := by decide +kernel
theorem dX6_init_189 : decode cX6_init 189 = .ok (.aload_n 0, 1) := by decide +kernel
theorem dX6_init_190 : decode cX6_init 190 = .ok (.bipush 112, 2) := by decide +kernel
theorem dX6_init_192 : decode cX6_init 192 = .ok (.newarray .int, 2) := by decide +kernel
theorem dX6_init_194 : decode cX6_init 194 = .ok (.putfield 51, 3) := by decide +kernel
theorem dX6_init_197 : decode cX6_init 197 = .ok (.aload_n 0, 1) := by decide +kernel
theorem dX6_init_198 : decode cX6_init 198 = .ok (.sipush 1281, 3) := by decide +kernel
theorem dX6_init_201 : decode cX6_init 201 = .ok (.newarray .int, 2) := by decide +kernel
theorem dX6_init_203 : decode cX6_init 203 = .ok (.putfield 54, 3) := by decide +kernel
theorem dX6_init_206 : decode cX6_init 206 = .ok (.iconst 0, 1) := by decide +kernel
theorem dX6_init_207 : decode cX6_init 207 = .ok (.istore_n 1, 1) := by decide +kernel
theorem dX6_init_208 : decode cX6_init 208 = .ok (.iload_n 1, 1) := by decide +kernel
theorem dX6_init_209 : decode cX6_init 209 = .ok (.bipush 7, 2) := by decide +kernel
theorem dX6_init_211 : decode cX6_init 211 = .ok (.if_icmp .ge 17, 3) := by decide +kernel
theorem dX6_init_214 : decode cX6_init 214 = .ok (.aload_n 0, 1) := by decide +kernel
theorem dX6_init_215 : decode cX6_init 215 = .ok (.getfield 13, 3) := by decide +kernel
theorem dX6_init_218 : decode cX6_init 218 = .ok (.iload_n 1, 1) := by decide +kernel
theorem dX6_init_219 : decode cX6_init 219 = .ok (.bipush (-9), 2) := by decide +kernel
theorem dX6_init_221 : decode cX6_init 221 = .ok (.iastore, 1) := by decide +kernel
theorem dX6_init_222 : decode cX6_init 222 = .ok (.iinc 1 1, 3) := by decide +kernel
theorem dX6_init_225 : decode cX6_init 225 = .ok (.goto (-17), 3) := by decide +kernel
theorem dX6_init_228 : decode cX6_init 228 = .ok (.return_, 1) := by decide +kernel
theorem dX6_isIn_0 : decode cX6_isIn 0 = .ok (.iload_n 0, 1) := by decide +kernel
theorem dX6_isIn_1 : decode cX6_isIn 1 = .ok (.iload_n 1, 1) := by decide +kernel
theorem dX6_isIn_2 : decode cX6_isIn 2 = .ok (.if_icmp .lt 12, 3) := by decide +kernel
theorem dX6_isIn_5 : decode cX6_isIn 5 = .ok (.iload_n 0, 1) := by decide +kernel
theorem dX6_isIn_6 : decode cX6_isIn 6 = .ok (.iload_n 2, 1) := by decide +kernel
theorem dX6_isIn_7 : decode cX6_isIn 7 = .ok (.if_icmp .gt 7, 3) := by decide +kernel
theorem dX6_isIn_10 : decode cX6_isIn 10 = .ok (.iconst 1, 1) := by decide +kernel
theorem dX6_isIn_11 : decode cX6_isIn 11 = .ok (.goto 4, 3) := by decide +kernel
theorem dX6_isIn_14 : decode cX6_isIn 14 = .ok (.iconst 0, 1) := by decide +kernel
theorem dX6_isIn_15 : decode cX6_isIn 15 = .ok (.ireturn, 1) := by decide +kernel
theorem dX6_common_0 : decode cX6_common 0 = .ok (.lload_n 0, 1) := by decide +kernel
theorem dX6_common_1 : decode cX6_common 1 = .ok (.lstore 4, 2) := by decide +kernel
theorem dX6_common_3 : decode cX6_common 3 = .ok (.lload_n 2, 1) := by decide +kernel
theorem dX6_common_4 : decode cX6_common 4 = .ok (.lstore 6, 2) := by decide +kernel
theorem dX6_common_6 : decode cX6_common 6 = .ok (.lload 6, 2) := by decide +kernel
theorem dX6_common_8 : decode cX6_common 8 = .ok (.lconst 0, 1) := by decide +kernel
theorem dX6_common_9 : decode cX6_common 9 = .ok (.lcmp, 1) := by decide +kernel
theorem dX6_common_10 : decode cX6_common 10 = .ok (.ifCond .le 21, 3) := by decide +kernel
theorem dX6_common_13 : decode cX6_common 13 = .ok (.lload 4, 2) := by decide +kernel
theorem dX6_common_15 : decode cX6_common 15 = .ok (.lload 6, 2) := by decide +kernel
theorem dX6_common_17 : decode cX6_common 17 = .ok (.lrem, 1) := by decide +kernel
theorem dX6_common_18 : decode cX6_common 18 = .ok (.lstore 8, 2) := by decide +kernel
theorem dX6_common_20 : decode cX6_common 20 = .ok (.lload 6, 2) := by decide +kernel
theorem dX6_common_22 : decode cX6_common 22 = .ok (.lstore 4, 2) := by decide +kernel
theorem dX6_common_24 : decode cX6_common 24 = .ok (.lload 8, 2) := by decide +kernel
theorem dX6_common_26 : decode cX6_common 26 = .ok (.lstore 6, 2) := by decide +kernel
theorem dX6_common_28 : decode cX6_common 28 = .ok (.goto (-22), 3) := by decide +kernel
theorem dX6_common_31 : decode cX6_common 31 = .ok (.lload 4, 2) := by decide +kernel
theorem dX6_common_33 : decode cX6_common 33 = .ok (.lreturn, 1) := by decide +kernel
set_option maxRecDepth 20000 in
theorem ggX6_isSection_X6_isIn : GoodIn wsX6_isSection wsX6_isIn := goodIn_r _ [5] (by decide +kernel) (by decide +kernel)
set_option maxRecDepth 20000 in
theorem gX6_isSection_X6_isIn : GoodIn wsX6_isSection (va_wsS RX6 60 yX6_isIn wsX6_isIn) := goodIn_app (goodIn_of _ (by decide +kernel)) ggX6_isSection_X6_isIn
theorem dX6_isSection_0 : decode cX6_isSection 0 = .ok (.iload_n 1, 1) := by decide +kernel
theorem dX6_isSection_1 : decode cX6_isSection 1 = .ok (.iconst 0, 1) := by decide +kernel
theorem dX6_isSection_2 : decode cX6_isSection 2 = .ok (.aload_n 0, 1) := by decide +kernel
theorem dX6_isSection_3 : decode cX6_isSection 3 = .ok (.getfield 57, 3) := by decide +kernel
theorem dX6_isSection_6 : decode cX6_isSection 6 = .ok (.iconst 1, 1) := by decide +kernel
theorem dX6_isSection_7 : decode cX6_isSection 7 = .ok (.isub, 1) := by decide +kernel
theorem dX6_isSection_8 : decode cX6_isSection 8 = .ok (.invokestatic 60, 3) := by decide +kernel
theorem dX6_isSection_11 : decode cX6_isSection 11 = .ok (.ireturn, 1) := by decide +kernel
set_option maxRecDepth 20000 in
theorem ggX6_isTie_X6_isIn : GoodIn wsX6_isTie wsX6_isIn := goodIn_r _ [5] (by decide +kernel) (by decide +kernel)
set_option maxRecDepth 20000 in
theorem gX6_isTie_X6_isIn : GoodIn wsX6_isTie (va_wsS RX6 60 yX6_isIn wsX6_isIn) := goodIn_app (goodIn_of _ (by decide +kernel)) ggX6_isTie_X6_isIn
theorem dX6_isTie_0 : decode cX6_isTie 0 = .ok (.iload_n 1, 1) := by decide +kernel
theorem dX6_isTie_1 : decode cX6_isTie 1 = .ok (.iconst 0, 1) := by decide +kernel
theorem dX6_isTie_2 : decode cX6_isTie 2 = .ok (.aload_n 0, 1) := by decide +kernel
theorem dX6_isTie_3 : decode cX6_isTie 3 = .ok (.getfield 64, 3) := by decide +kernel
theorem dX6_isTie_6 : decode cX6_isTie 6 = .ok (.iconst 1, 1) := by decide +kernel
theorem dX6_isTie_7 : decode cX6_isTie 7 = .ok (.isub, 1) := by decide +kernel
theorem dX6_isTie_8 : decode cX6_isTie 8 = .ok (.invokestatic 60, 3) := by decide +kernel
theorem dX6_isTie_11 : decode cX6_isTie 11 = .ok (.ireturn, 1) := by decide +kernel
set_option maxRecDepth 20000 in
theorem ggX6_isValue_X6_isIn : GoodIn wsX6_isValue wsX6_isIn := goodIn_r _ [4] (by decide +kernel) (by decide +kernel)
set_option maxRecDepth 20000 in
theorem gX6_isValue_X6_isIn : GoodIn wsX6_isValue (va_wsS RX6 60 yX6_isIn wsX6_isIn) := goodIn_app (goodIn_of _ (by decide +kernel)) ggX6_isValue_X6_isIn
theorem dX6_isValue_0 : decode cX6_isValue 0 = .ok (.iload_n 0, 1) := by decide +kernel
theorem dX6_isValue_1 : decode cX6_isValue 1 = .ok (.iconst 0, 1) := by decide +kernel
theorem dX6_isValue_2 : decode cX6_isValue 2 = .ok (.bipush 19, 2) := by decide +kernel
theorem dX6_isValue_4 : decode cX6_isValue 4 = .ok (.invokestatic 60, 3) := by decide +kernel
theorem dX6_isValue_7 : decode cX6_isValue 7 = .ok (.ireturn, 1) := by decide +kernel
theorem dX6_ticksOf_0 : decode cX6_ticksOf 0 = .ok (.bipush 96, 2) := by decide +kernel
theorem dX6_ticksOf_2 : decode cX6_ticksOf 2 = .ok (.iload_n 0, 1) := by decide +kernel
theorem dX6_ticksOf_3 : decode cX6_ticksOf 3 = .ok (.iconst 4, 1) := by decide +kernel
theorem dX6_ticksOf_4 : decode cX6_ticksOf 4 = .ok (.idiv, 1) := by decide +kernel
theorem dX6_ticksOf_5 : decode cX6_ticksOf 5 = .ok (.ishr, 1) := by decide +kernel
theorem dX6_ticksOf_6 : decode cX6_ticksOf 6 = .ok (.istore_n 1, 1) := by decide +kernel
theorem dX6_ticksOf_7 : decode cX6_ticksOf 7 = .ok (.iload_n 0, 1) := by decide +kernel
theorem dX6_ticksOf_8 : decode cX6_ticksOf 8 = .ok (.iconst 1, 1) := by decide +kernel
theorem dX6_ticksOf_9 : decode cX6_ticksOf 9 = .ok (.ishr, 1) := by decide +kernel
theorem dX6_ticksOf_10 : decode cX6_ticksOf 10 = .ok (.iconst 1, 1) := by decide +kernel
theorem dX6_ticksOf_11 : decode cX6_ticksOf 11 = .ok (.iand, 1) := by decide +kernel
theorem dX6_ticksOf_12 : decode cX6_ticksOf 12 = .ok (.iconst 1, 1) := by decide +kernel
theorem dX6_ticksOf_13 : decode cX6_ticksOf 13 = .ok (.if_icmp .ne 11, 3) := by decide +kernel
theorem dX6_ticksOf_16 : decode cX6_ticksOf 16 = .ok (.iload_n 1, 1) := by decide +kernel
theorem dX6_ticksOf_17 : decode cX6_ticksOf 17 = .ok (.iload_n 1, 1) := by decide +kernel
theorem dX6_ticksOf_18 : decode cX6_ticksOf 18 = .ok (.iconst 2, 1) := by decide +kernel
theorem dX6_ticksOf_19 : decode cX6_ticksOf 19 = .ok (.idiv, 1) := by decide +kernel
theorem dX6_ticksOf_20 : decode cX6_ticksOf 20 = .ok (.iadd, 1) := by decide +kernel
theorem dX6_ticksOf_21 : decode cX6_ticksOf 21 = .ok (.goto 4, 3) := by decide +kernel
theorem dX6_ticksOf_24 : decode cX6_ticksOf 24 = .ok (.iload_n 1, 1) := by decide +kernel
theorem dX6_ticksOf_25 : decode cX6_ticksOf 25 = .ok (.istore_n 1, 1) := by decide +kernel
theorem dX6_ticksOf_26 : decode cX6_ticksOf 26 = .ok (.iload_n 0, 1) := by decide +kernel
theorem dX6_ticksOf_27 : decode cX6_ticksOf 27 = .ok (.iconst 1, 1) := by decide +kernel
theorem dX6_ticksOf_28 : decode cX6_ticksOf 28 = .ok (.iand, 1) := by decide +kernel
theorem dX6_ticksOf_29 : decode cX6_ticksOf 29 = .ok (.iconst 1, 1) := by decide +kernel
theorem dX6_ticksOf_30 : decode cX6_ticksOf 30 = .ok (.if_icmp .ne 11, 3) := by decide +kernel
theorem dX6_ticksOf_33 : decode cX6_ticksOf 33 = .ok (.iload_n 1, 1) := by decide +kernel
theorem dX6_ticksOf_34 : decode cX6_ticksOf 34 = .ok (.iconst 3, 1) := by decide +kernel
theorem dX6_ticksOf_35 : decode cX6_ticksOf 35 = .ok (.idiv, 1) := by decide +kernel
theorem dX6_ticksOf_36 : decode cX6_ticksOf 36 = .ok (.iconst 2, 1) := by decide +kernel
theorem dX6_ticksOf_37 : decode cX6_ticksOf 37 = .ok (.imul, 1) := by decide +kernel
theorem dX6_ticksOf_38 : decode cX6_ticksOf 38 = .ok (.goto 4, 3) := by decide +kernel
theorem dX6_ticksOf_41 : decode cX6_ticksOf 41 = .ok (.iload_n 1, 1) := by decide +kernel
theorem dX6_ticksOf_42 : decode cX6_ticksOf 42 = .ok (.ireturn, 1) := by decide +kernel
set_option maxRecDepth 20000 in
theorem ggX6_section_X6_isIn : GoodIn wsX6_section wsX6_isIn := goodIn_r _ [7] (by decide +kernel) (by decide +kernel)
set_option maxRecDepth 20000 in
theorem gX6_section_X6_isIn : GoodIn wsX6_section (va_wsS RX6 60 yX6_isIn wsX6_isIn) := goodIn_app (goodIn_of _ (by decide +kernel)) ggX6_section_X6_isIn
theorem dX6_section_0 : decode cX6_section 0 = .ok (.iload_n 1, 1) := by decide +kernel
theorem dX6_section_1 : decode cX6_section 1 = .ok (.iconst 1, 1) := by decide +kernel
theorem dX6_section_2 : decode cX6_section 2 = .ok (.bipush 99, 2) := by decide +kernel
theorem dX6_section_4 : decode cX6_section 4 = .ok (.invokestatic 60, 3) := by decide +kernel
theorem dX6_section_7 : decode cX6_section 7 = .ok (.ifCond .ne 6, 3) := by decide +kernel
theorem dX6_section_10 : decode cX6_section 10 = .ok (.bipush (-2), 2) := by decide +kernel
theorem dX6_section_12 : decode cX6_section 12 = .ok (.ireturn, 1) := by decide +kernel
theorem dX6_section_13 : decode cX6_section 13 = .ok (.aload_n 0, 1) := by decide +kernel
theorem dX6_section_14 : decode cX6_section 14 = .ok (.getfield 57, 3) := by decide +kernel
theorem dX6_section_17 : decode cX6_section 17 = .ok (.bipush 7, 2) := by decide +kernel
theorem dX6_section_19 : decode cX6_section 19 = .ok (.if_icmp .ne 6, 3) := by decide +kernel
theorem dX6_section_22 : decode cX6_section 22 = .ok (.bipush (-4), 2) := by decide +kernel
theorem dX6_section_24 : decode cX6_section 24 = .ok (.ireturn, 1) := by decide +kernel
theorem dX6_section_25 : decode cX6_section 25 = .ok (.aload_n 0, 1) := by decide +kernel
theorem dX6_section_26 : decode cX6_section 26 = .ok (.getfield 7, 3) := by decide +kernel
theorem dX6_section_29 : decode cX6_section 29 = .ok (.aload_n 0, 1) := by decide +kernel
theorem dX6_section_30 : decode cX6_section 30 = .ok (.getfield 57, 3) := by decide +kernel
theorem dX6_section_33 : decode cX6_section 33 = .ok (.iload_n 1, 1) := by decide +kernel
theorem dX6_section_34 : decode cX6_section 34 = .ok (.iastore, 1) := by decide +kernel
theorem dX6_section_35 : decode cX6_section 35 = .ok (.aload_n 0, 1) := by decide +kernel
theorem dX6_section_36 : decode cX6_section 36 = .ok (.getfield 13, 3) := by decide +kernel
theorem dX6_section_39 : decode cX6_section 39 = .ok (.aload_n 0, 1) := by decide +kernel
theorem dX6_section_40 : decode cX6_section 40 = .ok (.getfield 57, 3) := by decide +kernel
theorem dX6_section_43 : decode cX6_section 43 = .ok (.bipush (-9), 2) := by decide +kernel
theorem dX6_section_45 : decode cX6_section 45 = .ok (.iastore, 1) := by decide +kernel
theorem dX6_section_46 : decode cX6_section 46 = .ok (.aload_n 0, 1) := by decide +kernel
theorem dX6_section_47 : decode cX6_section 47 = .ok (.dup, 1) := by decide +kernel
theorem dX6_section_48 : decode cX6_section 48 = .ok (.getfield 57, 3) := by decide +kernel
theorem dX6_section_51 : decode cX6_section 51 = .ok (.iconst 1, 1) := by decide +kernel
theorem dX6_section_52 : decode cX6_section 52 = .ok (.iadd, 1) := by decide +kernel
theorem dX6_section_53 : decode cX6_section 53 = .ok (.putfield 57, 3) := by decide +kernel
theorem dX6_section_56 : decode cX6_section 56 = .ok (.aload_n 0, 1) := by decide +kernel
theorem dX6_section_57 : decode cX6_section 57 = .ok (.getfield 57, 3) := by decide +kernel
theorem dX6_section_60 : decode cX6_section 60 = .ok (.iconst 1, 1) := by decide +kernel
theorem dX6_section_61 : decode cX6_section 61 = .ok (.isub, 1) := by decide +kernel
theorem dX6_section_62 : decode cX6_section 62 = .ok (.ireturn, 1) := by decide +kernel
set_option maxRecDepth 20000 in
theorem ggX6_beats_X6_isSection : GoodIn wsX6_beats wsX6_isSection := goodIn_r _ [6, 7, 8, 9, 5, 10, 11, 12, 13, 14, 15, 16, 17, 18, 19, 20, 21, 22, 23, 24, 25, 26, 27, 28, 29] (by decide +kernel) (by decide +kernel)
set_option maxRecDepth 20000 in
theorem gX6_beats_X6_isSection : GoodIn wsX6_beats (wsV RX6 67 RX6 yX6_isSection wsX6_isSection) := goodIn_app (goodIn_of _ (by decide +kernel)) ggX6_beats_X6_isSection
set_option maxRecDepth 20000 in
theorem ggX6_beats_X6_isIn : GoodIn wsX6_beats wsX6_isIn := goodIn_r _ [10] (by decide +kernel) (by decide +kernel)
set_option maxRecDepth 20000 in
theorem gX6_beats_X6_isIn : GoodIn wsX6_beats (va_wsS RX6 60 yX6_isIn wsX6_isIn) := goodIn_app (goodIn_of _ (by decide +kernel)) ggX6_beats_X6_isIn
theorem dX6_beats_0 : decode cX6_beats 0 = .ok (.aload_n 0, 1) := by decide +kernel
theorem dX6_beats_1 : decode cX6_beats 1 = .ok (.iload_n 1, 1) := by decide +kernel
theorem dX6_beats_2 : decode cX6_beats 2 = .ok (.invokevirtual 67, 3) := by decide +kernel
theorem dX6_beats_5 : decode cX6_beats 5 = .ok (.ifCond .ne 5, 3) := by decide +kernel
theorem dX6_beats_8 : decode cX6_beats 8 = .ok (.iconst (-1), 1) := by decide +kernel
theorem dX6_beats_9 : decode cX6_beats 9 = .ok (.ireturn, 1) := by decide +kernel
theorem dX6_beats_10 : decode cX6_beats 10 = .ok (.iload_n 2, 1) := by decide +kernel
theorem dX6_beats_11 : decode cX6_beats 11 = .ok (.iconst 1, 1) := by decide +kernel
theorem dX6_beats_12 : decode cX6_beats 12 = .ok (.bipush 99, 2) := by decide +kernel
theorem dX6_beats_14 : decode cX6_beats 14 = .ok (.invokestatic 60, 3) := by decide +kernel
theorem dX6_beats_17 : decode cX6_beats 17 = .ok (.ifCond .ne 6, 3) := by decide +kernel
theorem dX6_beats_20 : decode cX6_beats 20 = .ok (.bipush (-2), 2) := by decide +kernel
theorem dX6_beats_22 : decode cX6_beats 22 = .ok (.ireturn, 1) := by decide +kernel
theorem dX6_beats_23 : decode cX6_beats 23 = .ok (.aload_n 0, 1) := by decide +kernel
theorem dX6_beats_24 : decode cX6_beats 24 = .ok (.getfield 7, 3) := by decide +kernel
theorem dX6_beats_27 : decode cX6_beats 27 = .ok (.iload_n 1, 1) := by decide +kernel
theorem dX6_beats_28 : decode cX6_beats 28 = .ok (.iaload, 1) := by decide +kernel
theorem dX6_beats_29 : decode cX6_beats 29 = .ok (.istore_n 3, 1) := by decide +kernel
theorem dX6_beats_30 : decode cX6_beats 30 = .ok (.aload_n 0, 1) := by decide +kernel
theorem dX6_beats_31 : decode cX6_beats 31 = .ok (.getfield 7, 3) := by decide +kernel
theorem dX6_beats_34 : decode cX6_beats 34 = .ok (.iload_n 1, 1) := by decide +kernel
theorem dX6_beats_35 : decode cX6_beats 35 = .ok (.iload_n 2, 1) := by decide +kernel
theorem dX6_beats_36 : decode cX6_beats 36 = .ok (.iastore, 1) := by decide +kernel
theorem dX6_beats_37 : decode cX6_beats 37 = .ok (.iload_n 3, 1) := by decide +kernel
theorem dX6_beats_38 : decode cX6_beats 38 = .ok (.ireturn, 1) := by decide +kernel
set_option maxRecDepth 20000 in
theorem ggX6_start_X6_isIn : GoodIn wsX6_start wsX6_isIn := goodIn_r _ [5] (by decide +kernel) (by decide +kernel)
set_option maxRecDepth 20000 in
theorem gX6_start_X6_isIn : GoodIn wsX6_start (va_wsS RX6 60 yX6_isIn wsX6_isIn) := goodIn_app (goodIn_of _ (by decide +kernel)) ggX6_start_X6_isIn
theorem dX6_start_0 : decode cX6_start 0 = .ok (.iload_n 1, 1) := by decide +kernel
theorem dX6_start_1 : decode cX6_start 1 = .ok (.bipush 20, 2) := by decide +kernel
theorem dX6_start_3 : decode cX6_start 3 = .ok (.sipush 400, 3) := by decide +kernel
theorem dX6_start_6 : decode cX6_start 6 = .ok (.invokestatic 60, 3) := by decide +kernel
theorem dX6_start_9 : decode cX6_start 9 = .ok (.ifCond .ne 6, 3) := by decide +kernel
theorem dX6_start_12 : decode cX6_start 12 = .ok (.bipush (-2), 2) := by decide +kernel
theorem dX6_start_14 : decode cX6_start 14 = .ok (.ireturn, 1) := by decide +kernel
theorem dX6_start_15 : decode cX6_start 15 = .ok (.aload_n 0, 1) := by decide +kernel
theorem dX6_start_16 : decode cX6_start 16 = .ok (.getfield 16, 3) := by decide +kernel
theorem dX6_start_19 : decode cX6_start 19 = .ok (.istore_n 2, 1) := by decide +kernel
theorem dX6_start_20 : decode cX6_start 20 = .ok (.aload_n 0, 1) := by decide +kernel
theorem dX6_start_21 : decode cX6_start 21 = .ok (.iload_n 1, 1) := by decide +kernel
theorem dX6_start_22 : decode cX6_start 22 = .ok (.putfield 16, 3) := by decide +kernel
theorem dX6_start_25 : decode cX6_start 25 = .ok (.iload_n 2, 1) := by decide +kernel
theorem dX6_start_26 : decode cX6_start 26 = .ok (.ireturn, 1) := by decide +kernel
set_option maxRecDepth 20000 in
theorem ggX6_tie_X6_isSection : GoodIn wsX6_tie wsX6_isSection := goodIn_r _ [7, 8, 9, 10, 6, 11, 15, 16, 17, 18, 19, 20, 21, 22, 23, 24, 25, 26, 27, 28, 29, 30, 31, 32, 33] (by decide +kernel) (by decide +kernel)
set_option maxRecDepth 20000 in
theorem gX6_tie_X6_isSection : GoodIn wsX6_tie (wsV RX6 67 RX6 yX6_isSection wsX6_isSection) := goodIn_app (goodIn_of _ (by decide +kernel)) ggX6_tie_X6_isSection
set_option maxRecDepth 20000 in
theorem ggX6_tie_X6_isValue : GoodIn wsX6_tie wsX6_isValue := goodIn_r _ [14, 9, 10, 6, 11] (by decide +kernel) (by decide +kernel)
set_option maxRecDepth 20000 in
theorem gX6_tie_X6_isValue : GoodIn wsX6_tie (va_wsS RX6 71 yX6_isValue wsX6_isValue) := goodIn_app (goodIn_of _ (by decide +kernel)) ggX6_tie_X6_isValue
set_option maxRecDepth 20000 in
theorem ggX6_tie_X6_isIn : GoodIn wsX6_tie wsX6_isIn := goodIn_r _ [11] (by decide +kernel) (by decide +kernel)
set_option maxRecDepth 20000 in
theorem gX6_tie_X6_isIn : GoodIn wsX6_tie (va_wsS RX6 60 yX6_isIn wsX6_isIn) := goodIn_app (goodIn_of _ (by decide +kernel)) ggX6_tie_X6_isIn
theorem dX6_tie_0 : decode cX6_tie 0 = .ok (.aload_n 0, 1) := by decide +kernel
theorem dX6_tie_1 : decode cX6_tie 1 = .ok (.iload_n 1, 1) := by decide +kernel
theorem dX6_tie_2 : decode cX6_tie 2 = .ok (.invokevirtual 67, 3) := by decide +kernel
theorem dX6_tie_5 : decode cX6_tie 5 = .ok (.ifCond .eq 31, 3) := by decide +kernel
theorem dX6_tie_8 : decode cX6_tie 8 = .ok (.aload_n 0, 1) := by decide +kernel
theorem dX6_tie_9 : decode cX6_tie 9 = .ok (.iload_n 3, 1) := by decide +kernel
theorem dX6_tie_10 : decode cX6_tie 10 = .ok (.invokevirtual 67, 3) := by decide +kernel
theorem dX6_tie_13 : decode cX6_tie 13 = .ok (.ifCond .eq 23, 3) := by decide +kernel
theorem dX6_tie_16 : decode cX6_tie 16 = .ok (.iload_n 1, 1) := by decide +kernel
theorem dX6_tie_17 : decode cX6_tie 17 = .ok (.iload_n 3, 1) := by decide +kernel
theorem dX6_tie_18 : decode cX6_tie 18 = .ok (.if_icmp .eq 18, 3) := by decide +kernel
theorem dX6_tie_21 : decode cX6_tie 21 = .ok (.iload_n 2, 1) := by decide +kernel
theorem dX6_tie_22 : decode cX6_tie 22 = .ok (.invokestatic 71, 3) := by decide +kernel
theorem dX6_tie_25 : decode cX6_tie 25 = .ok (.ifCond .eq 11, 3) := by decide +kernel
theorem dX6_tie_28 : decode cX6_tie 28 = .ok (.iload 4, 2) := by decide +kernel
theorem dX6_tie_30 : decode cX6_tie 30 = .ok (.invokestatic 71, 3) := by decide +kernel
theorem dX6_tie_33 : decode cX6_tie 33 = .ok (.ifCond .ne 5, 3) := by decide +kernel
theorem dX6_tie_36 : decode cX6_tie 36 = .ok (.iconst (-1), 1) := by decide +kernel
theorem dX6_tie_37 : decode cX6_tie 37 = .ok (.ireturn, 1) := by decide +kernel
theorem dX6_tie_38 : decode cX6_tie 38 = .ok (.iload 5, 2) := by decide +kernel
theorem dX6_tie_40 : decode cX6_tie 40 = .ok (.iconst 0, 1) := by decide +kernel
theorem dX6_tie_41 : decode cX6_tie 41 = .ok (.bipush 9, 2) := by decide +kernel
theorem dX6_tie_43 : decode cX6_tie 43 = .ok (.invokestatic 60, 3) := by decide +kernel
theorem dX6_tie_46 : decode cX6_tie 46 = .ok (.ifCond .ne 6, 3) := by decide +kernel
theorem dX6_tie_49 : decode cX6_tie 49 = .ok (.bipush (-2), 2) := by decide +kernel
theorem dX6_tie_51 : decode cX6_tie 51 = .ok (.ireturn, 1) := by decide +kernel
theorem dX6_tie_52 : decode cX6_tie 52 = .ok (.aload_n 0, 1) := by decide +kernel
theorem dX6_tie_53 : decode cX6_tie 53 = .ok (.getfield 64, 3) := by decide +kernel
theorem dX6_tie_56 : decode cX6_tie 56 = .ok (.bipush 12, 2) := by decide +kernel
theorem dX6_tie_58 : decode cX6_tie 58 = .ok (.if_icmp .ne 6, 3) := by decide +kernel
theorem dX6_tie_61 : decode cX6_tie 61 = .ok (.bipush (-4), 2) := by decide +kernel
theorem dX6_tie_63 : decode cX6_tie 63 = .ok (.ireturn, 1) := by decide +kernel
theorem dX6_tie_64 : decode cX6_tie 64 = .ok (.aload_n 0, 1) := by decide +kernel
theorem dX6_tie_65 : decode cX6_tie 65 = .ok (.getfield 20, 3) := by decide +kernel
theorem dX6_tie_68 : decode cX6_tie 68 = .ok (.iconst 5, 1) := by decide +kernel
theorem dX6_tie_69 : decode cX6_tie 69 = .ok (.aload_n 0, 1) := by decide +kernel
theorem dX6_tie_70 : decode cX6_tie 70 = .ok (.getfield 64, 3) := by decide +kernel
theorem dX6_tie_73 : decode cX6_tie 73 = .ok (.imul, 1) := by decide +kernel
theorem dX6_tie_74 : decode cX6_tie 74 = .ok (.iload_n 1, 1) := by decide +kernel
theorem dX6_tie_75 : decode cX6_tie 75 = .ok (.iastore, 1) := by decide +kernel
theorem dX6_tie_76 : decode cX6_tie 76 = .ok (.aload_n 0, 1) := by decide +kernel
theorem dX6_tie_77 : decode cX6_tie 77 = .ok (.getfield 20, 3) := by decide +kernel
theorem dX6_tie_80 : decode cX6_tie 80 = .ok (.iconst 5, 1) := by decide +kernel
theorem dX6_tie_81 : decode cX6_tie 81 = .ok (.aload_n 0, 1) := by decide +kernel
theorem dX6_tie_82 : decode cX6_tie 82 = .ok (.getfield 64, 3) := by decide +kernel
theorem dX6_tie_85 : decode cX6_tie 85 = .ok (.imul, 1) := by decide +kernel
theorem dX6_tie_86 : decode cX6_tie 86 = .ok (.iconst 1, 1) := by decide +kernel
theorem dX6_tie_87 : decode cX6_tie 87 = .ok (.iadd, 1) := by decide +kernel
theorem dX6_tie_88 : decode cX6_tie 88 = .ok (.iload_n 2, 1) := by decide +kernel
theorem dX6_tie_89 : decode cX6_tie 89 = .ok (.iastore, 1) := by decide +kernel
theorem dX6_tie_90 : decode cX6_tie 90 = .ok (.aload_n 0, 1) := by decide +kernel
theorem dX6_tie_91 : decode cX6_tie 91 = .ok (.getfield 20, 3) := by decide +kernel
theorem dX6_tie_94 : decode cX6_tie 94 = .ok (.iconst 5, 1) := by decide +kernel
theorem dX6_tie_95 : decode cX6_tie 95 = .ok (.aload_n 0, 1) := by decide +kernel
theorem dX6_tie_96 : decode cX6_tie 96 = .ok (.getfield 64, 3) := by decide +kernel
theorem dX6_tie_99 : decode cX6_tie 99 = .ok (.imul, 1) := by decide +kernel
theorem dX6_tie_100 : decode cX6_tie 100 = .ok (.iconst 2, 1) := by decide +kernel
theorem dX6_tie_101 : decode cX6_tie 101 = .ok (.iadd, 1) := by decide +kernel
theorem dX6_tie_102 : decode cX6_tie 102 = .ok (.iload_n 3, 1) := by decide +kernel
theorem dX6_tie_103 : decode cX6_tie 103 = .ok (.iastore, 1) := by decide +kernel
theorem dX6_tie_104 : decode cX6_tie 104 = .ok (.aload_n 0, 1) := by decide +kernel
theorem dX6_tie_105 : decode cX6_tie 105 = .ok (.getfield 20, 3) := by decide +kernel
theorem dX6_tie_108 : decode cX6_tie 108 = .ok (.iconst 5, 1) := by decide +kernel
theorem dX6_tie_109 : decode cX6_tie 109 = .ok (.aload_n 0, 1) := by decide +kernel
theorem dX6_tie_110 : decode cX6_tie 110 = .ok (.getfield 64, 3) := by decide +kernel
theorem dX6_tie_113 : decode cX6_tie 113 = .ok (.imul, 1) := by decide +kernel
theorem dX6_tie_114 : decode cX6_tie 114 = .ok (.iconst 3, 1) := by decide +kernel
theorem dX6_tie_115 : decode cX6_tie 115 = .ok (.iadd, 1) := by decide +kernel
theorem dX6_tie_116 : decode cX6_tie 116 = .ok (.iload 4, 2) := by decide +kernel
theorem dX6_tie_118 : decode cX6_tie 118 = .ok (.iastore, 1) := by decide +kernel
theorem dX6_tie_119 : decode cX6_tie 119 = .ok (.aload_n 0, 1) := by decide +kernel
theorem dX6_tie_120 : decode cX6_tie 120 = .ok (.getfield 20, 3) := by decide +kernel
theorem dX6_tie_123 : decode cX6_tie 123 = .ok (.iconst 5, 1) := by decide +kernel
theorem dX6_tie_124 : decode cX6_tie 124 = .ok (.aload_n 0, 1) := by decide +kernel
theorem dX6_tie_125 : decode cX6_tie 125 = .ok (.getfield 64, 3) := by decide +kernel
theorem dX6_tie_128 : decode cX6_tie 128 = .ok (.imul, 1) := by decide +kernel
theorem dX6_tie_129 : decode cX6_tie 129 = .ok (.iconst 4, 1) := by decide +kernel
theorem dX6_tie_130 : decode cX6_tie 130 = .ok (.iadd, 1) := by decide +kernel
theorem dX6_tie_131 : decode cX6_tie 131 = .ok (.iload 5, 2) := by decide +kernel
theorem dX6_tie_133 : decode cX6_tie 133 = .ok (.iastore, 1) := by decide +kernel
theorem dX6_tie_134 : decode cX6_tie 134 = .ok (.aload_n 0, 1) := by decide +kernel
theorem dX6_tie_135 : decode cX6_tie 135 = .ok (.dup, 1) := by decide +kernel
theorem dX6_tie_136 : decode cX6_tie 136 = .ok (.getfield 64, 3) := by decide +kernel
theorem dX6_tie_139 : decode cX6_tie 139 = .ok (.iconst 1, 1) := by decide +kernel
theorem dX6_tie_140 : decode cX6_tie 140 = .ok (.iadd, 1) := by decide +kernel
theorem dX6_tie_141 : decode cX6_tie 141 = .ok (.putfield 64, 3) := by decide +kernel
theorem dX6_tie_144 : decode cX6_tie 144 = .ok (.aload_n 0, 1) := by decide +kernel
theorem dX6_tie_145 : decode cX6_tie 145 = .ok (.getfield 64, 3) := by decide +kernel
theorem dX6_tie_148 : decode cX6_tie 148 = .ok (.iconst 1, 1) := by decide +kernel
theorem dX6_tie_149 : decode cX6_tie 149 = .ok (.isub, 1) := by decide +kernel
theorem dX6_tie_150 : decode cX6_tie 150 = .ok (.ireturn, 1) := by decide +kernel
set_option maxRecDepth 20000 in
theorem ggX6_ear_X6_isTie : GoodIn wsX6_ear wsX6_isTie := goodIn_r _ [6, 7, 8, 9, 5, 10, 11, 12, 13, 14, 15, 16, 17, 18, 19, 20, 21, 22, 23, 24, 25, 26, 27, 28, 29] (by decide +kernel) (by decide +kernel)
set_option maxRecDepth 20000 in
theorem gX6_ear_X6_isTie : GoodIn wsX6_ear (wsV RX6 74 RX6 yX6_isTie wsX6_isTie) := goodIn_app (goodIn_of _ (by decide +kernel)) ggX6_ear_X6_isTie
set_option maxRecDepth 20000 in
theorem ggX6_ear_X6_isIn : GoodIn wsX6_ear wsX6_isIn := goodIn_r _ [10] (by decide +kernel) (by decide +kernel)
set_option maxRecDepth 20000 in
theorem gX6_ear_X6_isIn : GoodIn wsX6_ear (va_wsS RX6 60 yX6_isIn wsX6_isIn) := goodIn_app (goodIn_of _ (by decide +kernel)) ggX6_ear_X6_isIn
theorem dX6_ear_0 : decode cX6_ear 0 = .ok (.aload_n 0, 1) := by decide +kernel
theorem dX6_ear_1 : decode cX6_ear 1 = .ok (.iload_n 1, 1) := by decide +kernel
theorem dX6_ear_2 : decode cX6_ear 2 = .ok (.invokevirtual 74, 3) := by decide +kernel
theorem dX6_ear_5 : decode cX6_ear 5 = .ok (.ifCond .ne 5, 3) := by decide +kernel
theorem dX6_ear_8 : decode cX6_ear 8 = .ok (.iconst (-1), 1) := by decide +kernel
theorem dX6_ear_9 : decode cX6_ear 9 = .ok (.ireturn, 1) := by decide +kernel
theorem dX6_ear_10 : decode cX6_ear 10 = .ok (.iload_n 2, 1) := by decide +kernel
theorem dX6_ear_11 : decode cX6_ear 11 = .ok (.iconst 0, 1) := by decide +kernel
theorem dX6_ear_12 : decode cX6_ear 12 = .ok (.bipush 9, 2) := by decide +kernel
theorem dX6_ear_14 : decode cX6_ear 14 = .ok (.invokestatic 60, 3) := by decide +kernel
theorem dX6_ear_17 : decode cX6_ear 17 = .ok (.ifCond .ne 6, 3) := by decide +kernel
theorem dX6_ear_20 : decode cX6_ear 20 = .ok (.bipush (-2), 2) := by decide +kernel
theorem dX6_ear_22 : decode cX6_ear 22 = .ok (.ireturn, 1) := by decide +kernel
theorem dX6_ear_23 : decode cX6_ear 23 = .ok (.aload_n 0, 1) := by decide +kernel
theorem dX6_ear_24 : decode cX6_ear 24 = .ok (.getfield 20, 3) := by decide +kernel
theorem dX6_ear_27 : decode cX6_ear 27 = .ok (.iconst 5, 1) := by decide +kernel
theorem dX6_ear_28 : decode cX6_ear 28 = .ok (.iload_n 1, 1) := by decide +kernel
theorem dX6_ear_29 : decode cX6_ear 29 = .ok (.imul, 1) := by decide +kernel
theorem dX6_ear_30 : decode cX6_ear 30 = .ok (.iconst 4, 1) := by decide +kernel
theorem dX6_ear_31 : decode cX6_ear 31 = .ok (.iadd, 1) := by decide +kernel
theorem dX6_ear_32 : decode cX6_ear 32 = .ok (.iaload, 1) := by decide +kernel
theorem dX6_ear_33 : decode cX6_ear 33 = .ok (.istore_n 3, 1) := by decide +kernel
theorem dX6_ear_34 : decode cX6_ear 34 = .ok (.aload_n 0, 1) := by decide +kernel
theorem dX6_ear_35 : decode cX6_ear 35 = .ok (.getfield 20, 3) := by decide +kernel
theorem dX6_ear_38 : decode cX6_ear 38 = .ok (.iconst 5, 1) := by decide +kernel
theorem dX6_ear_39 : decode cX6_ear 39 = .ok (.iload_n 1, 1) := by decide +kernel
theorem dX6_ear_40 : decode cX6_ear 40 = .ok (.imul, 1) := by decide +kernel
theorem dX6_ear_41 : decode cX6_ear 41 = .ok (.iconst 4, 1) := by decide +kernel
theorem dX6_ear_42 : decode cX6_ear 42 = .ok (.iadd, 1) := by decide +kernel
theorem dX6_ear_43 : decode cX6_ear 43 = .ok (.iload_n 2, 1) := by decide +kernel
theorem dX6_ear_44 : decode cX6_ear 44 = .ok (.iastore, 1) := by decide +kernel
theorem dX6_ear_45 : decode cX6_ear 45 = .ok (.iload_n 3, 1) := by decide +kernel
theorem dX6_ear_46 : decode cX6_ear 46 = .ok (.ireturn, 1) := by decide +kernel
set_option maxRecDepth 20000 in
theorem ggX6_untie_X6_isTie : GoodIn wsX6_untie wsX6_isTie := goodIn_r _ [7, 1, 8, 9, 6, 10, 11, 12, 13, 14, 15, 16, 17, 18, 19, 20, 21, 22, 23, 24, 25, 26, 27, 28, 29] (by decide +kernel) (by decide +kernel)
set_option maxRecDepth 20000 in
theorem gX6_untie_X6_isTie : GoodIn wsX6_untie (wsV RX6 74 RX6 yX6_isTie wsX6_isTie) := goodIn_app (goodIn_of _ (by decide +kernel)) ggX6_untie_X6_isTie
theorem dX6_untie_0 : decode cX6_untie 0 = .ok (.aload_n 0, 1) := by decide +kernel
theorem dX6_untie_1 : decode cX6_untie 1 = .ok (.iload_n 1, 1) := by decide +kernel
theorem dX6_untie_2 : decode cX6_untie 2 = .ok (.invokevirtual 74, 3) := by decide +kernel
theorem dX6_untie_5 : decode cX6_untie 5 = .ok (.ifCond .ne 5, 3) := by decide +kernel
theorem dX6_untie_8 : decode cX6_untie 8 = .ok (.iconst (-1), 1) := by decide +kernel
theorem dX6_untie_9 : decode cX6_untie 9 = .ok (.ireturn, 1) := by decide +kernel
theorem dX6_untie_10 : decode cX6_untie 10 = .ok (.iconst 5, 1) := by decide +kernel
theorem dX6_untie_11 : decode cX6_untie 11 = .ok (.iload_n 1, 1) := by decide +kernel
theorem dX6_untie_12 : decode cX6_untie 12 = .ok (.imul, 1) := by decide +kernel
theorem dX6_untie_13 : decode cX6_untie 13 = .ok (.istore_n 2, 1) := by decide +kernel
theorem dX6_untie_14 : decode cX6_untie 14 = .ok (.iload_n 2, 1) := by decide +kernel
theorem dX6_untie_15 : decode cX6_untie 15 = .ok (.iconst 5, 1) := by decide +kernel
theorem dX6_untie_16 : decode cX6_untie 16 = .ok (.aload_n 0, 1) := by decide +kernel
theorem dX6_untie_17 : decode cX6_untie 17 = .ok (.getfield 64, 3) := by decide +kernel
theorem dX6_untie_20 : decode cX6_untie 20 = .ok (.iconst 1, 1) := by decide +kernel
theorem dX6_untie_21 : decode cX6_untie 21 = .ok (.isub, 1) := by decide +kernel
theorem dX6_untie_22 : decode cX6_untie 22 = .ok (.imul, 1) := by decide +kernel
theorem dX6_untie_23 : decode cX6_untie 23 = .ok (.if_icmp .ge 23, 3) := by decide +kernel
theorem dX6_untie_26 : decode cX6_untie 26 = .ok (.aload_n 0, 1) := by decide +kernel
theorem dX6_untie_27 : decode cX6_untie 27 = .ok (.getfield 20, 3) := by decide +kernel
theorem dX6_untie_30 : decode cX6_untie 30 = .ok (.iload_n 2, 1) := by decide +kernel
theorem dX6_untie_31 : decode cX6_untie 31 = .ok (.aload_n 0, 1) := by decide +kernel
theorem dX6_untie_32 : decode cX6_untie 32 = .ok (.getfield 20, 3) := by decide +kernel
theorem dX6_untie_35 : decode cX6_untie 35 = .ok (.iload_n 2, 1) := by decide +kernel
theorem dX6_untie_36 : decode cX6_untie 36 = .ok (.iconst 5, 1) := by decide +kernel
theorem dX6_untie_37 : decode cX6_untie 37 = .ok (.iadd, 1) := by decide +kernel
theorem dX6_untie_38 : decode cX6_untie 38 = .ok (.iaload, 1) := by decide +kernel
theorem dX6_untie_39 : decode cX6_untie 39 = .ok (.iastore, 1) := by decide +kernel
theorem dX6_untie_40 : decode cX6_untie 40 = .ok (.iinc 2 1, 3) := by decide +kernel
theorem dX6_untie_43 : decode cX6_untie 43 = .ok (.goto (-29), 3) := by decide +kernel
theorem dX6_untie_46 : decode cX6_untie 46 = .ok (.aload_n 0, 1) := by decide +kernel
theorem dX6_untie_47 : decode cX6_untie 47 = .ok (.dup, 1) := by decide +kernel
theorem dX6_untie_48 : decode cX6_untie 48 = .ok (.getfield 64, 3) := by decide +kernel
theorem dX6_untie_51 : decode cX6_untie 51 = .ok (.iconst 1, 1) := by decide +kernel
theorem dX6_untie_52 : decode cX6_untie 52 = .ok (.isub, 1) := by decide +kernel
theorem dX6_untie_53 : decode cX6_untie 53 = .ok (.putfield 64, 3) := by decide +kernel
theorem dX6_untie_56 : decode cX6_untie 56 = .ok (.aload_n 0, 1) := by decide +kernel
theorem dX6_untie_57 : decode cX6_untie 57 = .ok (.getfield 64, 3) := by decide +kernel
theorem dX6_untie_60 : decode cX6_untie 60 = .ok (.ireturn, 1) := by decide +kernel
theorem dX6_clear_0 : decode cX6_clear 0 = .ok (.aload_n 0, 1) := by decide +kernel
theorem dX6_clear_1 : decode cX6_clear 1 = .ok (.getfield 64, 3) := by decide +kernel
theorem dX6_clear_4 : decode cX6_clear 4 = .ok (.istore_n 1, 1) := by decide +kernel
theorem dX6_clear_5 : decode cX6_clear 5 = .ok (.aload_n 0, 1) := by decide +kernel
theorem dX6_clear_6 : decode cX6_clear 6 = .ok (.iconst 0, 1) := by decide +kernel
theorem dX6_clear_7 : decode cX6_clear 7 = .ok (.putfield 64, 3) := by decide +kernel
theorem dX6_clear_10 : decode cX6_clear 10 = .ok (.aload_n 0, 1) := by decide +kernel
theorem dX6_clear_11 : decode cX6_clear 11 = .ok (.iconst 0, 1) := by decide +kernel
theorem dX6_clear_12 : decode cX6_clear 12 = .ok (.putfield 57, 3) := by decide +kernel
theorem dX6_clear_15 : decode cX6_clear 15 = .ok (.iload_n 1, 1) := by decide +kernel
theorem dX6_clear_16 : decode cX6_clear 16 = .ok (.ireturn, 1) := by decide +kernel
set_option maxRecDepth 20000 in
theorem ggX6_ticks_X6_isValue : GoodIn wsX6_ticks wsX6_isValue := goodIn_r _ [4, 5, 6, 3, 7] (by decide +kernel) (by decide +kernel)
set_option maxRecDepth 20000 in
theorem gX6_ticks_X6_isValue : GoodIn wsX6_ticks (va_wsS RX6 71 yX6_isValue wsX6_isValue) := goodIn_app (goodIn_of _ (by decide +kernel)) ggX6_ticks_X6_isValue
set_option maxRecDepth 20000 in
theorem ggX6_ticks_X6_ticksOf : GoodIn wsX6_ticks wsX6_ticksOf := goodIn_r _ [10] (by decide +kernel) (by decide +kernel)
set_option maxRecDepth 20000 in
theorem gX6_ticks_X6_ticksOf : GoodIn wsX6_ticks (va_wsS RX6 77 yX6_ticksOf wsX6_ticksOf) := goodIn_app (goodIn_of _ (by decide +kernel)) ggX6_ticks_X6_ticksOf
theorem dX6_ticks_0 : decode cX6_ticks 0 = .ok (.iload_n 1, 1) := by decide +kernel
theorem dX6_ticks_1 : decode cX6_ticks 1 = .ok (.invokestatic 71, 3) := by decide +kernel
theorem dX6_ticks_4 : decode cX6_ticks 4 = .ok (.ifCond .eq 10, 3) := by decide +kernel
theorem dX6_ticks_7 : decode cX6_ticks 7 = .ok (.iload_n 1, 1) := by decide +kernel
theorem dX6_ticks_8 : decode cX6_ticks 8 = .ok (.invokestatic 77, 3) := by decide +kernel
theorem dX6_ticks_11 : decode cX6_ticks 11 = .ok (.goto 4, 3) := by decide +kernel
theorem dX6_ticks_14 : decode cX6_ticks 14 = .ok (.iconst (-1), 1) := by decide +kernel
theorem dX6_ticks_15 : decode cX6_ticks 15 = .ok (.ireturn, 1) := by decide +kernel
set_option maxRecDepth 20000 in
theorem ggX6_comes_X6_common : GoodIn wsX6_comes wsX6_common := goodIn_r _ [10] (by decide +kernel) (by decide +kernel)
set_option maxRecDepth 20000 in
theorem gX6_comes_X6_common : GoodIn wsX6_comes (va_wsS RX6 81 yX6_common wsX6_common) := goodIn_app (goodIn_of _ (by decide +kernel)) ggX6_comes_X6_common
theorem dX6_comes_0 : decode cX6_comes 0 = .ok (.aload_n 0, 1) := by decide +kernel
theorem dX6_comes_1 : decode cX6_comes 1 = .ok (.getfield 26, 3) := by decide +kernel
theorem dX6_comes_4 : decode cX6_comes 4 = .ok (.iload_n 1, 1) := by decide +kernel
theorem dX6_comes_5 : decode cX6_comes 5 = .ok (.laload, 1) := by decide +kernel
theorem dX6_comes_6 : decode cX6_comes 6 = .ok (.lload 4, 2) := by decide +kernel
theorem dX6_comes_8 : decode cX6_comes 8 = .ok (.lmul, 1) := by decide +kernel
theorem dX6_comes_9 : decode cX6_comes 9 = .ok (.lstore 8, 2) := by decide +kernel
theorem dX6_comes_11 : decode cX6_comes 11 = .ok (.aload_n 0, 1) := by decide +kernel
theorem dX6_comes_12 : decode cX6_comes 12 = .ok (.getfield 30, 3) := by decide +kernel
theorem dX6_comes_15 : decode cX6_comes 15 = .ok (.iload_n 1, 1) := by decide +kernel
theorem dX6_comes_16 : decode cX6_comes 16 = .ok (.laload, 1) := by decide +kernel
theorem dX6_comes_17 : decode cX6_comes 17 = .ok (.lload 6, 2) := by decide +kernel
theorem dX6_comes_19 : decode cX6_comes 19 = .ok (.lmul, 1) := by decide +kernel
theorem dX6_comes_20 : decode cX6_comes 20 = .ok (.lstore 10, 2) := by decide +kernel
theorem dX6_comes_22 : decode cX6_comes 22 = .ok (.lload 8, 2) := by decide +kernel
theorem dX6_comes_24 : decode cX6_comes 24 = .ok (.lload 10, 2) := by decide +kernel
theorem dX6_comes_26 : decode cX6_comes 26 = .ok (.invokestatic 81, 3) := by decide +kernel
theorem dX6_comes_29 : decode cX6_comes 29 = .ok (.lstore 12, 2) := by decide +kernel
theorem dX6_comes_31 : decode cX6_comes 31 = .ok (.aload_n 0, 1) := by decide +kernel
theorem dX6_comes_32 : decode cX6_comes 32 = .ok (.getfield 26, 3) := by decide +kernel
theorem dX6_comes_35 : decode cX6_comes 35 = .ok (.iload_n 2, 1) := by decide +kernel
theorem dX6_comes_36 : decode cX6_comes 36 = .ok (.lload 8, 2) := by decide +kernel
theorem dX6_comes_38 : decode cX6_comes 38 = .ok (.lload 12, 2) := by decide +kernel
theorem dX6_comes_40 : decode cX6_comes 40 = .ok (.ldiv, 1) := by decide +kernel
theorem dX6_comes_41 : decode cX6_comes 41 = .ok (.lastore, 1) := by decide +kernel
theorem dX6_comes_42 : decode cX6_comes 42 = .ok (.aload_n 0, 1) := by decide +kernel
theorem dX6_comes_43 : decode cX6_comes 43 = .ok (.getfield 30, 3) := by decide +kernel
theorem dX6_comes_46 : decode cX6_comes 46 = .ok (.iload_n 2, 1) := by decide +kernel
theorem dX6_comes_47 : decode cX6_comes 47 = .ok (.lload 10, 2) := by decide +kernel
theorem dX6_comes_49 : decode cX6_comes 49 = .ok (.lload 12, 2) := by decide +kernel
theorem dX6_comes_51 : decode cX6_comes 51 = .ok (.ldiv, 1) := by decide +kernel
theorem dX6_comes_52 : decode cX6_comes 52 = .ok (.lastore, 1) := by decide +kernel
theorem dX6_comes_53 : decode cX6_comes 53 = .ok (.aload_n 0, 1) := by decide +kernel
theorem dX6_comes_54 : decode cX6_comes 54 = .ok (.getfield 33, 3) := by decide +kernel
theorem dX6_comes_57 : decode cX6_comes 57 = .ok (.iload_n 2, 1) := by decide +kernel
theorem dX6_comes_58 : decode cX6_comes 58 = .ok (.aload_n 0, 1) := by decide +kernel
theorem dX6_comes_59 : decode cX6_comes 59 = .ok (.getfield 33, 3) := by decide +kernel
theorem dX6_comes_62 : decode cX6_comes 62 = .ok (.iload_n 1, 1) := by decide +kernel
theorem dX6_comes_63 : decode cX6_comes 63 = .ok (.iaload, 1) := by decide +kernel
theorem dX6_comes_64 : decode cX6_comes 64 = .ok (.iconst 1, 1) := by decide +kernel
theorem dX6_comes_65 : decode cX6_comes 65 = .ok (.iload_n 3, 1) := by decide +kernel
theorem dX6_comes_66 : decode cX6_comes 66 = .ok (.ishl, 1) := by decide +kernel
theorem dX6_comes_67 : decode cX6_comes 67 = .ok (.ior, 1) := by decide +kernel
theorem dX6_comes_68 : decode cX6_comes 68 = .ok (.iastore, 1) := by decide +kernel
theorem dX6_comes_69 : decode cX6_comes 69 = .ok (.aload_n 0, 1) := by decide +kernel
theorem dX6_comes_70 : decode cX6_comes 70 = .ok (.getfield 36, 3) := by decide +kernel
theorem dX6_comes_73 : decode cX6_comes 73 = .ok (.aload_n 0, 1) := by decide +kernel
theorem dX6_comes_74 : decode cX6_comes 74 = .ok (.getfield 85, 3) := by decide +kernel
theorem dX6_comes_77 : decode cX6_comes 77 = .ok (.iload_n 2, 1) := by decide +kernel
theorem dX6_comes_78 : decode cX6_comes 78 = .ok (.iastore, 1) := by decide +kernel
theorem dX6_comes_79 : decode cX6_comes 79 = .ok (.aload_n 0, 1) := by decide +kernel
theorem dX6_comes_80 : decode cX6_comes 80 = .ok (.getfield 39, 3) := by decide +kernel
theorem dX6_comes_83 : decode cX6_comes 83 = .ok (.aload_n 0, 1) := by decide +kernel
theorem dX6_comes_84 : decode cX6_comes 84 = .ok (.getfield 85, 3) := by decide +kernel
theorem dX6_comes_87 : decode cX6_comes 87 = .ok (.iload_n 3, 1) := by decide +kernel
theorem dX6_comes_88 : decode cX6_comes 88 = .ok (.iastore, 1) := by decide +kernel
theorem dX6_comes_89 : decode cX6_comes 89 = .ok (.aload_n 0, 1) := by decide +kernel
theorem dX6_comes_90 : decode cX6_comes 90 = .ok (.dup, 1) := by decide +kernel
theorem dX6_comes_91 : decode cX6_comes 91 = .ok (.getfield 85, 3) := by decide +kernel
theorem dX6_comes_94 : decode cX6_comes 94 = .ok (.iconst 1, 1) := by decide +kernel
theorem dX6_comes_95 : decode cX6_comes 95 = .ok (.iadd, 1) := by decide +kernel
theorem dX6_comes_96 : decode cX6_comes 96 = .ok (.putfield 85, 3) := by decide +kernel
theorem dX6_comes_99 : decode cX6_comes 99 = .ok (.return_, 1) := by decide +kernel
set_option maxRecDepth 20000 in
theorem ggX6_spread_X6_ticksOf : GoodIn wsX6_spread wsX6_ticksOf := goodIn_r _ [12] (by decide +kernel) (by decide +kernel)
set_option maxRecDepth 20000 in
theorem gX6_spread_X6_ticksOf : GoodIn wsX6_spread (va_wsS RX6 77 yX6_ticksOf wsX6_ticksOf) := goodIn_app (goodIn_of _ (by decide +kernel)) ggX6_spread_X6_ticksOf
set_option maxRecDepth 20000 in
theorem ggX6_spread_X6_comes : GoodIn wsX6_spread wsX6_comes := goodIn_r _ [16, 1, 2, 3, 4, 6, 5, 17, 18, 11, 19, 20, 21, 22, 23, 24, 25, 26, 27, 28, 29, 30, 31, 32, 33, 34, 35, 36, 37, 38] (by decide +kernel) (by decide +kernel)
set_option maxRecDepth 20000 in
theorem gX6_spread_X6_comes : GoodIn wsX6_spread (wsV RX6 88 RX6 yX6_comes wsX6_comes) := goodIn_app (goodIn_of _ (by decide +kernel)) ggX6_spread_X6_comes
theorem dX6_spread_0 : decode cX6_spread 0 = .ok (.iconst 0, 1) := by decide +kernel
theorem dX6_spread_1 : decode cX6_spread 1 = .ok (.istore_n 3, 1) := by decide +kernel
theorem dX6_spread_2 : decode cX6_spread 2 = .ok (.iload_n 3, 1) := by decide +kernel
theorem dX6_spread_3 : decode cX6_spread 3 = .ok (.bipush 7, 2) := by decide +kernel
theorem dX6_spread_5 : decode cX6_spread 5 = .ok (.if_icmp .ge 16, 3) := by decide +kernel
theorem dX6_spread_8 : decode cX6_spread 8 = .ok (.aload_n 0, 1) := by decide +kernel
theorem dX6_spread_9 : decode cX6_spread 9 = .ok (.getfield 26, 3) := by decide +kernel
theorem dX6_spread_12 : decode cX6_spread 12 = .ok (.iload_n 3, 1) := by decide +kernel
theorem dX6_spread_13 : decode cX6_spread 13 = .ok (.lconst 0, 1) := by decide +kernel
theorem dX6_spread_14 : decode cX6_spread 14 = .ok (.lastore, 1) := by decide +kernel
theorem dX6_spread_15 : decode cX6_spread 15 = .ok (.iinc 3 1, 3) := by decide +kernel
theorem dX6_spread_18 : decode cX6_spread 18 = .ok (.goto (-16), 3) := by decide +kernel
theorem dX6_spread_21 : decode cX6_spread 21 = .ok (.aload_n 0, 1) := by decide +kernel
theorem dX6_spread_22 : decode cX6_spread 22 = .ok (.getfield 26, 3) := by decide +kernel
theorem dX6_spread_25 : decode cX6_spread 25 = .ok (.iload_n 1, 1) := by decide +kernel
theorem dX6_spread_26 : decode cX6_spread 26 = .ok (.lconst 1, 1) := by decide +kernel
theorem dX6_spread_27 : decode cX6_spread 27 = .ok (.lastore, 1) := by decide +kernel
theorem dX6_spread_28 : decode cX6_spread 28 = .ok (.aload_n 0, 1) := by decide +kernel
theorem dX6_spread_29 : decode cX6_spread 29 = .ok (.getfield 30, 3) := by decide +kernel
theorem dX6_spread_32 : decode cX6_spread 32 = .ok (.iload_n 1, 1) := by decide +kernel
theorem dX6_spread_33 : decode cX6_spread 33 = .ok (.lconst 1, 1) := by decide +kernel
theorem dX6_spread_34 : decode cX6_spread 34 = .ok (.lastore, 1) := by decide +kernel
theorem dX6_spread_35 : decode cX6_spread 35 = .ok (.aload_n 0, 1) := by decide +kernel
theorem dX6_spread_36 : decode cX6_spread 36 = .ok (.getfield 33, 3) := by decide +kernel
theorem dX6_spread_39 : decode cX6_spread 39 = .ok (.iload_n 1, 1) := by decide +kernel
theorem dX6_spread_40 : decode cX6_spread 40 = .ok (.iconst 0, 1) := by decide +kernel
theorem dX6_spread_41 : decode cX6_spread 41 = .ok (.iastore, 1) := by decide +kernel
theorem dX6_spread_42 : decode cX6_spread 42 = .ok (.aload_n 0, 1) := by decide +kernel
theorem dX6_spread_43 : decode cX6_spread 43 = .ok (.getfield 36, 3) := by decide +kernel
theorem dX6_spread_46 : decode cX6_spread 46 = .ok (.iconst 0, 1) := by decide +kernel
theorem dX6_spread_47 : decode cX6_spread 47 = .ok (.iload_n 1, 1) := by decide +kernel
theorem dX6_spread_48 : decode cX6_spread 48 = .ok (.iastore, 1) := by decide +kernel
theorem dX6_spread_49 : decode cX6_spread 49 = .ok (.aload_n 0, 1) := by decide +kernel
theorem dX6_spread_50 : decode cX6_spread 50 = .ok (.getfield 39, 3) := by decide +kernel
theorem dX6_spread_53 : decode cX6_spread 53 = .ok (.iconst 0, 1) := by decide +kernel
theorem dX6_spread_54 : decode cX6_spread 54 = .ok (.bipush (-9), 2) := by decide +kernel
theorem dX6_spread_56 : decode cX6_spread 56 = .ok (.iastore, 1) := by decide +kernel
theorem dX6_spread_57 : decode cX6_spread 57 = .ok (.aload_n 0, 1) := by decide +kernel
theorem dX6_spread_58 : decode cX6_spread 58 = .ok (.iconst 1, 1) := by decide +kernel
theorem dX6_spread_59 : decode cX6_spread 59 = .ok (.putfield 85, 3) := by decide +kernel
theorem dX6_spread_62 : decode cX6_spread 62 = .ok (.iconst 0, 1) := by decide +kernel
theorem dX6_spread_63 : decode cX6_spread 63 = .ok (.istore_n 3, 1) := by decide +kernel
theorem dX6_spread_64 : decode cX6_spread 64 = .ok (.iload_n 3, 1) := by decide +kernel
theorem dX6_spread_65 : decode cX6_spread 65 = .ok (.aload_n 0, 1) := by decide +kernel
theorem dX6_spread_66 : decode cX6_spread 66 = .ok (.getfield 85, 3) := by decide +kernel
theorem dX6_spread_69 : decode cX6_spread 69 = .ok (.if_icmp .ge 183, 3) := by decide +kernel
theorem dX6_spread_72 : decode cX6_spread 72 = .ok (.aload_n 0, 1) := by decide +kernel
theorem dX6_spread_73 : decode cX6_spread 73 = .ok (.getfield 85, 3) := by decide +kernel
theorem dX6_spread_76 : decode cX6_spread 76 = .ok (.istore_n 3, 1) := by decide +kernel
theorem dX6_spread_77 : decode cX6_spread 77 = .ok (.iconst 0, 1) := by decide +kernel
theorem dX6_spread_78 : decode cX6_spread 78 = .ok (.istore 4, 2) := by decide +kernel
theorem dX6_spread_80 : decode cX6_spread 80 = .ok (.iload 4, 2) := by decide +kernel
theorem dX6_spread_82 : decode cX6_spread 82 = .ok (.iload_n 2, 1) := by decide +kernel
theorem dX6_spread_83 : decode cX6_spread 83 = .ok (.if_icmp .ge 166, 3) := by decide +kernel
theorem dX6_spread_86 : decode cX6_spread 86 = .ok (.aload_n 0, 1) := by decide +kernel
theorem dX6_spread_87 : decode cX6_spread 87 = .ok (.getfield 20, 3) := by decide +kernel
theorem dX6_spread_90 : decode cX6_spread 90 = .ok (.iconst 5, 1) := by decide +kernel
theorem dX6_spread_91 : decode cX6_spread 91 = .ok (.iload 4, 2) := by decide +kernel
theorem dX6_spread_93 : decode cX6_spread 93 = .ok (.imul, 1) := by decide +kernel
theorem dX6_spread_94 : decode cX6_spread 94 = .ok (.iaload, 1) := by decide +kernel
theorem dX6_spread_95 : decode cX6_spread 95 = .ok (.istore 5, 2) := by decide +kernel
theorem dX6_spread_97 : decode cX6_spread 97 = .ok (.aload_n 0, 1) := by decide +kernel
theorem dX6_spread_98 : decode cX6_spread 98 = .ok (.getfield 20, 3) := by decide +kernel
theorem dX6_spread_101 : decode cX6_spread 101 = .ok (.iconst 5, 1) := by decide +kernel
theorem dX6_spread_102 : decode cX6_spread 102 = .ok (.iload 4, 2) := by decide +kernel
theorem dX6_spread_104 : decode cX6_spread 104 = .ok (.imul, 1) := by decide +kernel
theorem dX6_spread_105 : decode cX6_spread 105 = .ok (.iconst 2, 1) := by decide +kernel
theorem dX6_spread_106 : decode cX6_spread 106 = .ok (.iadd, 1) := by decide +kernel
theorem dX6_spread_107 : decode cX6_spread 107 = .ok (.iaload, 1) := by decide +kernel
theorem dX6_spread_108 : decode cX6_spread 108 = .ok (.istore 6, 2) := by decide +kernel
theorem dX6_spread_110 : decode cX6_spread 110 = .ok (.aload_n 0, 1) := by decide +kernel
theorem dX6_spread_111 : decode cX6_spread 111 = .ok (.getfield 20, 3) := by decide +kernel
theorem dX6_spread_114 : decode cX6_spread 114 = .ok (.iconst 5, 1) := by decide +kernel
theorem dX6_spread_115 : decode cX6_spread 115 = .ok (.iload 4, 2) := by decide +kernel
theorem dX6_spread_117 : decode cX6_spread 117 = .ok (.imul, 1) := by decide +kernel
theorem dX6_spread_118 : decode cX6_spread 118 = .ok (.iconst 1, 1) := by decide +kernel
theorem dX6_spread_119 : decode cX6_spread 119 = .ok (.iadd, 1) := by decide +kernel
theorem dX6_spread_120 : decode cX6_spread 120 = .ok (.iaload, 1) := by decide +kernel
theorem dX6_spread_121 : decode cX6_spread 121 = .ok (.invokestatic 77, 3) := by decide +kernel
theorem dX6_spread_124 : decode cX6_spread 124 = .ok (.i2l, 1) := by decide +kernel
theorem dX6_spread_125 : decode cX6_spread 125 = .ok (.lstore 7, 2) := by decide +kernel
theorem dX6_spread_127 : decode cX6_spread 127 = .ok (.aload_n 0, 1) := by decide +kernel
theorem dX6_spread_128 : decode cX6_spread 128 = .ok (.getfield 20, 3) := by decide +kernel
theorem dX6_spread_131 : decode cX6_spread 131 = .ok (.iconst 5, 1) := by decide +kernel
theorem dX6_spread_132 : decode cX6_spread 132 = .ok (.iload 4, 2) := by decide +kernel
theorem dX6_spread_134 : decode cX6_spread 134 = .ok (.imul, 1) := by decide +kernel
theorem dX6_spread_135 : decode cX6_spread 135 = .ok (.iconst 3, 1) := by decide +kernel
theorem dX6_spread_136 : decode cX6_spread 136 = .ok (.iadd, 1) := by decide +kernel
theorem dX6_spread_137 : decode cX6_spread 137 = .ok (.iaload, 1) := by decide +kernel
theorem dX6_spread_138 : decode cX6_spread 138 = .ok (.invokestatic 77, 3) := by decide +kernel
theorem dX6_spread_141 : decode cX6_spread 141 = .ok (.i2l, 1) := by decide +kernel
theorem dX6_spread_142 : decode cX6_spread 142 = .ok (.lstore 9, 2) := by decide +kernel
theorem dX6_spread_144 : decode cX6_spread 144 = .ok (.aload_n 0, 1) := by decide +kernel
theorem dX6_spread_145 : decode cX6_spread 145 = .ok (.getfield 23, 3) := by decide +kernel
theorem dX6_spread_148 : decode cX6_spread 148 = .ok (.iload 4, 2) := by decide +kernel
theorem dX6_spread_150 : decode cX6_spread 150 = .ok (.iaload, 1) := by decide +kernel
theorem dX6_spread_151 : decode cX6_spread 151 = .ok (.ifCond .ne 44, 3) := by decide +kernel
theorem dX6_spread_154 : decode cX6_spread 154 = .ok (.aload_n 0, 1) := by decide +kernel
theorem dX6_spread_155 : decode cX6_spread 155 = .ok (.getfield 26, 3) := by decide +kernel
theorem dX6_spread_158 : decode cX6_spread 158 = .ok (.iload 5, 2) := by decide +kernel
theorem dX6_spread_160 : decode cX6_spread 160 = .ok (.laload, 1) := by decide +kernel
theorem dX6_spread_161 : decode cX6_spread 161 = .ok (.lconst 0, 1) := by decide +kernel
theorem dX6_spread_162 : decode cX6_spread 162 = .ok (.lcmp, 1) := by decide +kernel
theorem dX6_spread_163 : decode cX6_spread 163 = .ok (.ifCond .le 32, 3) := by decide +kernel
theorem dX6_spread_166 : decode cX6_spread 166 = .ok (.aload_n 0, 1) := by decide +kernel
theorem dX6_spread_167 : decode cX6_spread 167 = .ok (.getfield 26, 3) := by decide +kernel
theorem dX6_spread_170 : decode cX6_spread 170 = .ok (.iload 6, 2) := by decide +kernel
theorem dX6_spread_172 : decode cX6_spread 172 = .ok (.laload, 1) := by decide +kernel
theorem dX6_spread_173 : decode cX6_spread 173 = .ok (.lconst 0, 1) := by decide +kernel
theorem dX6_spread_174 : decode cX6_spread 174 = .ok (.lcmp, 1) := by decide +kernel
theorem dX6_spread_175 : decode cX6_spread 175 = .ok (.ifCond .ne 20, 3) := by decide +kernel
theorem dX6_spread_178 : decode cX6_spread 178 = .ok (.aload_n 0, 1) := by decide +kernel
theorem dX6_spread_179 : decode cX6_spread 179 = .ok (.iload 5, 2) := by decide +kernel
theorem dX6_spread_181 : decode cX6_spread 181 = .ok (.iload 6, 2) := by decide +kernel
theorem dX6_spread_183 : decode cX6_spread 183 = .ok (.iload 4, 2) := by decide +kernel
theorem dX6_spread_185 : decode cX6_spread 185 = .ok (.lload 9, 2) := by decide +kernel
theorem dX6_spread_187 : decode cX6_spread 187 = .ok (.lload 7, 2) := by decide +kernel
theorem dX6_spread_189 : decode cX6_spread 189 = .ok (.invokevirtual 88, 3) := by decide +kernel
theorem dX6_spread_192 : decode cX6_spread 192 = .ok (.goto 51, 3) := by decide +kernel
theorem dX6_spread_195 : decode cX6_spread 195 = .ok (.aload_n 0, 1) := by decide +kernel
theorem dX6_spread_196 : decode cX6_spread 196 = .ok (.getfield 23, 3) := by decide +kernel
theorem dX6_spread_199 : decode cX6_spread 199 = .ok (.iload 4, 2) := by decide +kernel
theorem dX6_spread_201 : decode cX6_spread 201 = .ok (.iaload, 1) := by decide +kernel
theorem dX6_spread_202 : decode cX6_spread 202 = .ok (.ifCond .ne 41, 3) := by decide +kernel
theorem dX6_spread_205 : decode cX6_spread 205 = .ok (.aload_n 0, 1) := by decide +kernel
theorem dX6_spread_206 : decode cX6_spread 206 = .ok (.getfield 26, 3) := by decide +kernel
theorem dX6_spread_209 : decode cX6_spread 209 = .ok (.iload 6, 2) := by decide +kernel
theorem dX6_spread_211 : decode cX6_spread 211 = .ok (.laload, 1) := by decide +kernel
theorem dX6_spread_212 : decode cX6_spread 212 = .ok (.lconst 0, 1) := by decide +kernel
theorem dX6_spread_213 : decode cX6_spread 213 = .ok (.lcmp, 1) := by decide +kernel
theorem dX6_spread_214 : decode cX6_spread 214 = .ok (.ifCond .le 29, 3) := by decide +kernel
theorem dX6_spread_217 : decode cX6_spread 217 = .ok (.aload_n 0, 1) := by decide +kernel
theorem dX6_spread_218 : decode cX6_spread 218 = .ok (.getfield 26, 3) := by decide +kernel
theorem dX6_spread_221 : decode cX6_spread 221 = .ok (.iload 5, 2) := by decide +kernel
theorem dX6_spread_223 : decode cX6_spread 223 = .ok (.laload, 1) := by decide +kernel
theorem dX6_spread_224 : decode cX6_spread 224 = .ok (.lconst 0, 1) := by decide +kernel
theorem dX6_spread_225 : decode cX6_spread 225 = .ok (.lcmp, 1) := by decide +kernel
theorem dX6_spread_226 : decode cX6_spread 226 = .ok (.ifCond .ne 17, 3) := by decide +kernel
theorem dX6_spread_229 : decode cX6_spread 229 = .ok (.aload_n 0, 1) := by decide +kernel
theorem dX6_spread_230 : decode cX6_spread 230 = .ok (.iload 6, 2) := by decide +kernel
theorem dX6_spread_232 : decode cX6_spread 232 = .ok (.iload 5, 2) := by decide +kernel
theorem dX6_spread_234 : decode cX6_spread 234 = .ok (.iload 4, 2) := by decide +kernel
theorem dX6_spread_236 : decode cX6_spread 236 = .ok (.lload 7, 2) := by decide +kernel
theorem dX6_spread_238 : decode cX6_spread 238 = .ok (.lload 9, 2) := by decide +kernel
theorem dX6_spread_240 : decode cX6_spread 240 = .ok (.invokevirtual 88, 3) := by decide +kernel
theorem dX6_spread_243 : decode cX6_spread 243 = .ok (.iinc 4 1, 3) := by decide +kernel
theorem dX6_spread_246 : decode cX6_spread 246 = .ok (.goto (-166), 3) := by decide +kernel
theorem dX6_spread_249 : decode cX6_spread 249 = .ok (.goto (-185), 3) := by decide +kernel
theorem dX6_spread_252 : decode cX6_spread 252 = .ok (.return_, 1) := by decide +kernel
set_option maxRecDepth 20000 in
theorem ggX6_findSorts_X6_ticksOf : GoodIn wsX6_findSorts wsX6_ticksOf := goodIn_r _ [9] (by decide +kernel) (by decide +kernel)
set_option maxRecDepth 20000 in
theorem gX6_findSorts_X6_ticksOf : GoodIn wsX6_findSorts (va_wsS RX6 77 yX6_ticksOf wsX6_ticksOf) := goodIn_app (goodIn_of _ (by decide +kernel)) ggX6_findSorts_X6_ticksOf
set_option maxRecDepth 20000 in
theorem ggX6_findSorts_X6_spread : GoodIn wsX6_findSorts wsX6_spread := goodIn_r _ [13, 4, 5, 14, 15, 16, 17, 2, 3, 6, 7, 8, 9, 18, 19, 20, 21, 22, 23, 24, 25, 26, 27, 28, 29, 30, 31, 32, 33, 34, 35, 36, 37, 38, 39, 40, 41, 42, 43] (by decide +kernel) (by decide +kernel)
set_option maxRecDepth 20000 in
theorem gX6_findSorts_X6_spread : GoodIn wsX6_findSorts (wsV RX6 92 RX6 yX6_spread wsX6_spread) := goodIn_app (goodIn_of _ (by decide +kernel)) ggX6_findSorts_X6_spread
theorem dX6_findSorts_0 : decode cX6_findSorts 0 = .ok (.iconst 0, 1) := by decide +kernel
theorem dX6_findSorts_1 : decode cX6_findSorts 1 = .ok (.istore_n 1, 1) := by decide +kernel
theorem dX6_findSorts_2 : decode cX6_findSorts 2 = .ok (.iload_n 1, 1) := by decide +kernel
theorem dX6_findSorts_3 : decode cX6_findSorts 3 = .ok (.aload_n 0, 1) := by decide +kernel
theorem dX6_findSorts_4 : decode cX6_findSorts 4 = .ok (.getfield 64, 3) := by decide +kernel
theorem dX6_findSorts_7 : decode cX6_findSorts 7 = .ok (.if_icmp .ge 111, 3) := by decide +kernel
theorem dX6_findSorts_10 : decode cX6_findSorts 10 = .ok (.aload_n 0, 1) := by decide +kernel
theorem dX6_findSorts_11 : decode cX6_findSorts 11 = .ok (.getfield 20, 3) := by decide +kernel
theorem dX6_findSorts_14 : decode cX6_findSorts 14 = .ok (.iconst 5, 1) := by decide +kernel
theorem dX6_findSorts_15 : decode cX6_findSorts 15 = .ok (.iload_n 1, 1) := by decide +kernel
theorem dX6_findSorts_16 : decode cX6_findSorts 16 = .ok (.imul, 1) := by decide +kernel
theorem dX6_findSorts_17 : decode cX6_findSorts 17 = .ok (.iconst 2, 1) := by decide +kernel
theorem dX6_findSorts_18 : decode cX6_findSorts 18 = .ok (.iadd, 1) := by decide +kernel
theorem dX6_findSorts_19 : decode cX6_findSorts 19 = .ok (.iaload, 1) := by decide +kernel
theorem dX6_findSorts_20 : decode cX6_findSorts 20 = .ok (.istore_n 2, 1) := by decide +kernel
theorem dX6_findSorts_21 : decode cX6_findSorts 21 = .ok (.aload_n 0, 1) := by decide +kernel
theorem dX6_findSorts_22 : decode cX6_findSorts 22 = .ok (.getfield 20, 3) := by decide +kernel
theorem dX6_findSorts_25 : decode cX6_findSorts 25 = .ok (.iconst 5, 1) := by decide +kernel
theorem dX6_findSorts_26 : decode cX6_findSorts 26 = .ok (.iload_n 1, 1) := by decide +kernel
theorem dX6_findSorts_27 : decode cX6_findSorts 27 = .ok (.imul, 1) := by decide +kernel
theorem dX6_findSorts_28 : decode cX6_findSorts 28 = .ok (.iconst 1, 1) := by decide +kernel
theorem dX6_findSorts_29 : decode cX6_findSorts 29 = .ok (.iadd, 1) := by decide +kernel
theorem dX6_findSorts_30 : decode cX6_findSorts 30 = .ok (.iaload, 1) := by decide +kernel
theorem dX6_findSorts_31 : decode cX6_findSorts 31 = .ok (.invokestatic 77, 3) := by decide +kernel
theorem dX6_findSorts_34 : decode cX6_findSorts 34 = .ok (.i2l, 1) := by decide +kernel
theorem dX6_findSorts_35 : decode cX6_findSorts 35 = .ok (.lstore_n 3, 1) := by decide +kernel
theorem dX6_findSorts_36 : decode cX6_findSorts 36 = .ok (.aload_n 0, 1) := by decide +kernel
theorem dX6_findSorts_37 : decode cX6_findSorts 37 = .ok (.getfield 20, 3) := by decide +kernel
theorem dX6_findSorts_40 : decode cX6_findSorts 40 = .ok (.iconst 5, 1) := by decide +kernel
theorem dX6_findSorts_41 : decode cX6_findSorts 41 = .ok (.iload_n 1, 1) := by decide +kernel
theorem dX6_findSorts_42 : decode cX6_findSorts 42 = .ok (.imul, 1) := by decide +kernel
theorem dX6_findSorts_43 : decode cX6_findSorts 43 = .ok (.iconst 3, 1) := by decide +kernel
theorem dX6_findSorts_44 : decode cX6_findSorts 44 = .ok (.iadd, 1) := by decide +kernel
theorem dX6_findSorts_45 : decode cX6_findSorts 45 = .ok (.iaload, 1) := by decide +kernel
theorem dX6_findSorts_46 : decode cX6_findSorts 46 = .ok (.invokestatic 77, 3) := by decide +kernel
theorem dX6_findSorts_49 : decode cX6_findSorts 49 = .ok (.i2l, 1) := by decide +kernel
theorem dX6_findSorts_50 : decode cX6_findSorts 50 = .ok (.lstore 5, 2) := by decide +kernel
theorem dX6_findSorts_52 : decode cX6_findSorts 52 = .ok (.aload_n 0, 1) := by decide +kernel
theorem dX6_findSorts_53 : decode cX6_findSorts 53 = .ok (.aload_n 0, 1) := by decide +kernel
theorem dX6_findSorts_54 : decode cX6_findSorts 54 = .ok (.getfield 20, 3) := by decide +kernel
theorem dX6_findSorts_57 : decode cX6_findSorts 57 = .ok (.iconst 5, 1) := by decide +kernel
theorem dX6_findSorts_58 : decode cX6_findSorts 58 = .ok (.iload_n 1, 1) := by decide +kernel
theorem dX6_findSorts_59 : decode cX6_findSorts 59 = .ok (.imul, 1) := by decide +kernel
theorem dX6_findSorts_60 : decode cX6_findSorts 60 = .ok (.iaload, 1) := by decide +kernel
theorem dX6_findSorts_61 : decode cX6_findSorts 61 = .ok (.iload_n 1, 1) := by decide +kernel
theorem dX6_findSorts_62 : decode cX6_findSorts 62 = .ok (.invokevirtual 92, 3) := by decide +kernel
theorem dX6_findSorts_65 : decode cX6_findSorts 65 = .ok (.aload_n 0, 1) := by decide +kernel
theorem dX6_findSorts_66 : decode cX6_findSorts 66 = .ok (.getfield 23, 3) := by decide +kernel
theorem dX6_findSorts_69 : decode cX6_findSorts 69 = .ok (.iload_n 1, 1) := by decide +kernel
theorem dX6_findSorts_70 : decode cX6_findSorts 70 = .ok (.aload_n 0, 1) := by decide +kernel
theorem dX6_findSorts_71 : decode cX6_findSorts 71 = .ok (.getfield 26, 3) := by decide +kernel
theorem dX6_findSorts_74 : decode cX6_findSorts 74 = .ok (.iload_n 2, 1) := by decide +kernel
theorem dX6_findSorts_75 : decode cX6_findSorts 75 = .ok (.laload, 1) := by decide +kernel
theorem dX6_findSorts_76 : decode cX6_findSorts 76 = .ok (.lconst 0, 1) := by decide +kernel
theorem dX6_findSorts_77 : decode cX6_findSorts 77 = .ok (.lcmp, 1) := by decide +kernel
theorem dX6_findSorts_78 : decode cX6_findSorts 78 = .ok (.ifCond .ne 7, 3) := by decide +kernel
theorem dX6_findSorts_81 : decode cX6_findSorts 81 = .ok (.iconst 0, 1) := by decide +kernel
theorem dX6_findSorts_82 : decode cX6_findSorts 82 = .ok (.goto 29, 3) := by decide +kernel
theorem dX6_findSorts_85 : decode cX6_findSorts 85 = .ok (.aload_n 0, 1) := by decide +kernel
theorem dX6_findSorts_86 : decode cX6_findSorts 86 = .ok (.getfield 26, 3) := by decide +kernel
theorem dX6_findSorts_89 : decode cX6_findSorts 89 = .ok (.iload_n 2, 1) := by decide +kernel
theorem dX6_findSorts_90 : decode cX6_findSorts 90 = .ok (.laload, 1) := by decide +kernel
theorem dX6_findSorts_91 : decode cX6_findSorts 91 = .ok (.lload_n 3, 1) := by decide +kernel
theorem dX6_findSorts_92 : decode cX6_findSorts 92 = .ok (.lmul, 1) := by decide +kernel
theorem dX6_findSorts_93 : decode cX6_findSorts 93 = .ok (.aload_n 0, 1) := by decide +kernel
theorem dX6_findSorts_94 : decode cX6_findSorts 94 = .ok (.getfield 30, 3) := by decide +kernel
theorem dX6_findSorts_97 : decode cX6_findSorts 97 = .ok (.iload_n 2, 1) := by decide +kernel
theorem dX6_findSorts_98 : decode cX6_findSorts 98 = .ok (.laload, 1) := by decide +kernel
theorem dX6_findSorts_99 : decode cX6_findSorts 99 = .ok (.lload 5, 2) := by decide +kernel
theorem dX6_findSorts_101 : decode cX6_findSorts 101 = .ok (.lmul, 1) := by decide +kernel
theorem dX6_findSorts_102 : decode cX6_findSorts 102 = .ok (.lcmp, 1) := by decide +kernel
theorem dX6_findSorts_103 : decode cX6_findSorts 103 = .ok (.ifCond .ne 7, 3) := by decide +kernel
theorem dX6_findSorts_106 : decode cX6_findSorts 106 = .ok (.iconst 1, 1) := by decide +kernel
theorem dX6_findSorts_107 : decode cX6_findSorts 107 = .ok (.goto 4, 3) := by decide +kernel
theorem dX6_findSorts_110 : decode cX6_findSorts 110 = .ok (.iconst 2, 1) := by decide +kernel
theorem dX6_findSorts_111 : decode cX6_findSorts 111 = .ok (.iastore, 1) := by decide +kernel
theorem dX6_findSorts_112 : decode cX6_findSorts 112 = .ok (.iinc 1 1, 3) := by decide +kernel
theorem dX6_findSorts_115 : decode cX6_findSorts 115 = .ok (.goto (-113), 3) := by decide +kernel
theorem dX6_findSorts_118 : decode cX6_findSorts 118 = .ok (.return_, 1) := by decide +kernel
set_option maxRecDepth 20000 in
theorem ggX6_spreadAll_X6_findSorts : GoodIn wsX6_spreadAll wsX6_findSorts := goodIn_r _ [6, 1, 7, 8, 9, 10, 11, 12, 5, 13, 14, 15, 16, 17, 18, 19, 20, 21, 22, 23, 24, 25, 26, 27, 28, 29, 30, 31, 32, 33, 34, 35, 36, 37, 38, 39, 40, 41, 42, 43, 44, 45, 46, 47] (by decide +kernel) (by decide +kernel)
set_option maxRecDepth 20000 in
theorem gX6_spreadAll_X6_findSorts : GoodIn wsX6_spreadAll (wsV RX6 96 RX6 yX6_findSorts wsX6_findSorts) := goodIn_app (goodIn_of _ (by decide +kernel)) ggX6_spreadAll_X6_findSorts
set_option maxRecDepth 20000 in
theorem ggX6_spreadAll_X6_spread : GoodIn wsX6_spreadAll wsX6_spread := goodIn_r _ [17, 9, 10, 18, 19, 20, 21, 7, 8, 11, 12, 5, 13, 22, 23, 24, 25, 26, 27, 28, 29, 30, 31, 32, 33, 34, 35, 36, 37, 38, 39, 40, 41, 42, 43, 44, 45, 46, 47] (by decide +kernel) (by decide +kernel)
set_option maxRecDepth 20000 in
theorem gX6_spreadAll_X6_spread : GoodIn wsX6_spreadAll (wsV RX6 92 RX6 yX6_spread wsX6_spread) := goodIn_app (goodIn_of _ (by decide +kernel)) ggX6_spreadAll_X6_spread
theorem dX6_spreadAll_0 : decode cX6_spreadAll 0 = .ok (.aload_n 0, 1) := by decide +kernel
theorem dX6_spreadAll_1 : decode cX6_spreadAll 1 = .ok (.invokevirtual 96, 3) := by decide +kernel
theorem dX6_spreadAll_4 : decode cX6_spreadAll 4 = .ok (.aload_n 0, 1) := by decide +kernel
theorem dX6_spreadAll_5 : decode cX6_spreadAll 5 = .ok (.iload_n 1, 1) := by decide +kernel
theorem dX6_spreadAll_6 : decode cX6_spreadAll 6 = .ok (.aload_n 0, 1) := by decide +kernel
theorem dX6_spreadAll_7 : decode cX6_spreadAll 7 = .ok (.getfield 64, 3) := by decide +kernel
theorem dX6_spreadAll_10 : decode cX6_spreadAll 10 = .ok (.invokevirtual 92, 3) := by decide +kernel
theorem dX6_spreadAll_13 : decode cX6_spreadAll 13 = .ok (.return_, 1) := by decide +kernel
set_option maxRecDepth 20000 in
theorem ggX6_isPinHeld_X6_placeOf : GoodIn wsX6_isPinHeld wsX6_placeOf := goodIn_r _ [6, 7, 8, 9, 10, 11, 12, 13, 14, 15, 16, 17, 18, 19, 20, 21, 22, 23, 24, 25, 26, 27] (by decide +kernel) (by decide +kernel)
set_option maxRecDepth 20000 in
theorem gX6_isPinHeld_X6_placeOf : GoodIn wsX6_isPinHeld (wsV RX6 99 RX6 yX6_placeOf wsX6_placeOf) := goodIn_app (goodIn_of _ (by decide +kernel)) ggX6_isPinHeld_X6_placeOf
theorem dX6_isPinHeld_0 : decode cX6_isPinHeld 0 = .ok (.aload_n 0, 1) := by decide +kernel
theorem dX6_isPinHeld_1 : decode cX6_isPinHeld 1 = .ok (.getfield 13, 3) := by decide +kernel
theorem dX6_isPinHeld_4 : decode cX6_isPinHeld 4 = .ok (.iload_n 1, 1) := by decide +kernel
theorem dX6_isPinHeld_5 : decode cX6_isPinHeld 5 = .ok (.iaload, 1) := by decide +kernel
theorem dX6_isPinHeld_6 : decode cX6_isPinHeld 6 = .ok (.bipush (-9), 2) := by decide +kernel
theorem dX6_isPinHeld_8 : decode cX6_isPinHeld 8 = .ok (.if_icmp .eq 22, 3) := by decide +kernel
theorem dX6_isPinHeld_11 : decode cX6_isPinHeld 11 = .ok (.aload_n 0, 1) := by decide +kernel
theorem dX6_isPinHeld_12 : decode cX6_isPinHeld 12 = .ok (.aload_n 0, 1) := by decide +kernel
theorem dX6_isPinHeld_13 : decode cX6_isPinHeld 13 = .ok (.getfield 13, 3) := by decide +kernel
theorem dX6_isPinHeld_16 : decode cX6_isPinHeld 16 = .ok (.iload_n 1, 1) := by decide +kernel
theorem dX6_isPinHeld_17 : decode cX6_isPinHeld 17 = .ok (.iaload, 1) := by decide +kernel
theorem dX6_isPinHeld_18 : decode cX6_isPinHeld 18 = .ok (.invokevirtual 99, 3) := by decide +kernel
theorem dX6_isPinHeld_21 : decode cX6_isPinHeld 21 = .ok (.bipush (-9), 2) := by decide +kernel
theorem dX6_isPinHeld_23 : decode cX6_isPinHeld 23 = .ok (.if_icmp .eq 7, 3) := by decide +kernel
theorem dX6_isPinHeld_26 : decode cX6_isPinHeld 26 = .ok (.iconst 1, 1) := by decide +kernel
theorem dX6_isPinHeld_27 : decode cX6_isPinHeld 27 = .ok (.goto 4, 3) := by decide +kernel
theorem dX6_isPinHeld_30 : decode cX6_isPinHeld 30 = .ok (.iconst 0, 1) := by decide +kernel
theorem dX6_isPinHeld_31 : decode cX6_isPinHeld 31 = .ok (.ireturn, 1) := by decide +kernel
theorem dX6_tiesAt_0 : decode cX6_tiesAt 0 = .ok (.iconst 0, 1) := by decide +kernel
theorem dX6_tiesAt_1 : decode cX6_tiesAt 1 = .ok (.istore_n 2, 1) := by decide +kernel
theorem dX6_tiesAt_2 : decode cX6_tiesAt 2 = .ok (.iconst 0, 1) := by decide +kernel
theorem dX6_tiesAt_3 : decode cX6_tiesAt 3 = .ok (.istore_n 3, 1) := by decide +kernel
theorem dX6_tiesAt_4 : decode cX6_tiesAt 4 = .ok (.iload_n 3, 1) := by decide +kernel
theorem dX6_tiesAt_5 : decode cX6_tiesAt 5 = .ok (.aload_n 0, 1) := by decide +kernel
theorem dX6_tiesAt_6 : decode cX6_tiesAt 6 = .ok (.getfield 64, 3) := by decide +kernel
theorem dX6_tiesAt_9 : decode cX6_tiesAt 9 = .ok (.if_icmp .ge 43, 3) := by decide +kernel
theorem dX6_tiesAt_12 : decode cX6_tiesAt 12 = .ok (.iload_n 2, 1) := by decide +kernel
theorem dX6_tiesAt_13 : decode cX6_tiesAt 13 = .ok (.aload_n 0, 1) := by decide +kernel
theorem dX6_tiesAt_14 : decode cX6_tiesAt 14 = .ok (.getfield 20, 3) := by decide +kernel
theorem dX6_tiesAt_17 : decode cX6_tiesAt 17 = .ok (.iconst 5, 1) := by decide +kernel
theorem dX6_tiesAt_18 : decode cX6_tiesAt 18 = .ok (.iload_n 3, 1) := by decide +kernel
theorem dX6_tiesAt_19 : decode cX6_tiesAt 19 = .ok (.imul, 1) := by decide +kernel
theorem dX6_tiesAt_20 : decode cX6_tiesAt 20 = .ok (.iaload, 1) := by decide +kernel
theorem dX6_tiesAt_21 : decode cX6_tiesAt 21 = .ok (.iload_n 1, 1) := by decide +kernel
theorem dX6_tiesAt_22 : decode cX6_tiesAt 22 = .ok (.if_icmp .eq 17, 3) := by decide +kernel
theorem dX6_tiesAt_25 : decode cX6_tiesAt 25 = .ok (.aload_n 0, 1) := by decide +kernel
theorem dX6_tiesAt_26 : decode cX6_tiesAt 26 = .ok (.getfield 20, 3) := by decide +kernel
theorem dX6_tiesAt_29 : decode cX6_tiesAt 29 = .ok (.iconst 5, 1) := by decide +kernel
theorem dX6_tiesAt_30 : decode cX6_tiesAt 30 = .ok (.iload_n 3, 1) := by decide +kernel
theorem dX6_tiesAt_31 : decode cX6_tiesAt 31 = .ok (.imul, 1) := by decide +kernel
theorem dX6_tiesAt_32 : decode cX6_tiesAt 32 = .ok (.iconst 2, 1) := by decide +kernel
theorem dX6_tiesAt_33 : decode cX6_tiesAt 33 = .ok (.iadd, 1) := by decide +kernel
theorem dX6_tiesAt_34 : decode cX6_tiesAt 34 = .ok (.iaload, 1) := by decide +kernel
theorem dX6_tiesAt_35 : decode cX6_tiesAt 35 = .ok (.iload_n 1, 1) := by decide +kernel
theorem dX6_tiesAt_36 : decode cX6_tiesAt 36 = .ok (.if_icmp .ne 7, 3) := by decide +kernel
theorem dX6_tiesAt_39 : decode cX6_tiesAt 39 = .ok (.iconst 1, 1) := by decide +kernel
theorem dX6_tiesAt_40 : decode cX6_tiesAt 40 = .ok (.goto 4, 3) := by decide +kernel
theorem dX6_tiesAt_43 : decode cX6_tiesAt 43 = .ok (.iconst 0, 1) := by decide +kernel
theorem dX6_tiesAt_44 : decode cX6_tiesAt 44 = .ok (.iadd, 1) := by decide +kernel
theorem dX6_tiesAt_45 : decode cX6_tiesAt 45 = .ok (.istore_n 2, 1) := by decide +kernel
theorem dX6_tiesAt_46 : decode cX6_tiesAt 46 = .ok (.iinc 3 1, 3) := by decide +kernel
theorem dX6_tiesAt_49 : decode cX6_tiesAt 49 = .ok (.goto (-45), 3) := by decide +kernel
theorem dX6_tiesAt_52 : decode cX6_tiesAt 52 = .ok (.iload_n 2, 1) := by decide +kernel
theorem dX6_tiesAt_53 : decode cX6_tiesAt 53 = .ok (.ireturn, 1) := by decide +kernel
theorem dX6_leastMet_0 : decode cX6_leastMet 0 = .ok (.bipush 7, 2) := by decide +kernel
theorem dX6_leastMet_2 : decode cX6_leastMet 2 = .ok (.istore_n 1, 1) := by decide +kernel
theorem dX6_leastMet_3 : decode cX6_leastMet 3 = .ok (.iconst 0, 1) := by decide +kernel
theorem dX6_leastMet_4 : decode cX6_leastMet 4 = .ok (.istore_n 2, 1) := by decide +kernel
theorem dX6_leastMet_5 : decode cX6_leastMet 5 = .ok (.iload_n 2, 1) := by decide +kernel
theorem dX6_leastMet_6 : decode cX6_leastMet 6 = .ok (.aload_n 0, 1) := by decide +kernel
theorem dX6_leastMet_7 : decode cX6_leastMet 7 = .ok (.getfield 85, 3) := by decide +kernel
theorem dX6_leastMet_10 : decode cX6_leastMet 10 = .ok (.if_icmp .ge 30, 3) := by decide +kernel
theorem dX6_leastMet_13 : decode cX6_leastMet 13 = .ok (.aload_n 0, 1) := by decide +kernel
theorem dX6_leastMet_14 : decode cX6_leastMet 14 = .ok (.getfield 36, 3) := by decide +kernel
theorem dX6_leastMet_17 : decode cX6_leastMet 17 = .ok (.iload_n 2, 1) := by decide +kernel
theorem dX6_leastMet_18 : decode cX6_leastMet 18 = .ok (.iaload, 1) := by decide +kernel
theorem dX6_leastMet_19 : decode cX6_leastMet 19 = .ok (.iload_n 1, 1) := by decide +kernel
theorem dX6_leastMet_20 : decode cX6_leastMet 20 = .ok (.if_icmp .ge 12, 3) := by decide +kernel
theorem dX6_leastMet_23 : decode cX6_leastMet 23 = .ok (.aload_n 0, 1) := by decide +kernel
theorem dX6_leastMet_24 : decode cX6_leastMet 24 = .ok (.getfield 36, 3) := by decide +kernel
theorem dX6_leastMet_27 : decode cX6_leastMet 27 = .ok (.iload_n 2, 1) := by decide +kernel
theorem dX6_leastMet_28 : decode cX6_leastMet 28 = .ok (.iaload, 1) := by decide +kernel
theorem dX6_leastMet_29 : decode cX6_leastMet 29 = .ok (.goto 4, 3) := by decide +kernel
theorem dX6_leastMet_32 : decode cX6_leastMet 32 = .ok (.iload_n 1, 1) := by decide +kernel
theorem dX6_leastMet_33 : decode cX6_leastMet 33 = .ok (.istore_n 1, 1) := by decide +kernel
theorem dX6_leastMet_34 : decode cX6_leastMet 34 = .ok (.iinc 2 1, 3) := by decide +kernel
theorem dX6_leastMet_37 : decode cX6_leastMet 37 = .ok (.goto (-32), 3) := by decide +kernel
theorem dX6_leastMet_40 : decode cX6_leastMet 40 = .ok (.iload_n 1, 1) := by decide +kernel
theorem dX6_leastMet_41 : decode cX6_leastMet 41 = .ok (.ireturn, 1) := by decide +kernel
set_option maxRecDepth 20000 in
theorem ggX6_ofSection_X6_isSection : GoodIn wsX6_ofSection wsX6_isSection := goodIn_r _ [8, 9, 10, 11, 7, 12, 61, 62, 63, 64, 65, 66, 67, 68, 69, 70, 71, 72, 73, 74, 75, 76, 77, 78, 79] (by decide +kernel) (by decide +kernel)
set_option maxRecDepth 20000 in
theorem gX6_ofSection_X6_isSection : GoodIn wsX6_ofSection (wsV RX6 67 RX6 yX6_isSection wsX6_isSection) := goodIn_app (goodIn_of _ (by decide +kernel)) ggX6_ofSection_X6_isSection
set_option maxRecDepth 20000 in
theorem ggX6_ofSection_X6_spreadAll : GoodIn wsX6_ofSection wsX6_spreadAll := goodIn_r _ [16, 17, 18, 19, 20, 7, 21, 22, 23, 24, 25, 26, 27, 28, 29, 30, 31, 32, 33, 34, 35, 2, 36, 37, 38, 39, 40, 41, 42, 61, 62, 63, 64, 65, 66, 67, 68, 69, 70, 71, 72, 73, 74, 75, 76, 77, 78, 79] (by decide +kernel) (by decide +kernel)
set_option maxRecDepth 20000 in
theorem gX6_ofSection_X6_spreadAll : GoodIn wsX6_ofSection (wsV RX6 102 RX6 yX6_spreadAll wsX6_spreadAll) := goodIn_app (goodIn_of _ (by decide +kernel)) ggX6_ofSection_X6_spreadAll
set_option maxRecDepth 20000 in
theorem ggX6_ofSection_X6_tiesAt : GoodIn wsX6_ofSection wsX6_tiesAt := goodIn_r _ [46, 17, 22, 61, 62, 63, 64, 65, 66, 67, 68, 69, 70, 71, 72, 73, 74, 75, 76, 77, 78, 79] (by decide +kernel) (by decide +kernel)
set_option maxRecDepth 20000 in
theorem gX6_ofSection_X6_tiesAt : GoodIn wsX6_ofSection (wsV RX6 106 RX6 yX6_tiesAt wsX6_tiesAt) := goodIn_app (goodIn_of _ (by decide +kernel)) ggX6_ofSection_X6_tiesAt
set_option maxRecDepth 20000 in
theorem ggX6_ofSection_X6_leastMet : GoodIn wsX6_ofSection wsX6_leastMet := goodIn_r _ [50, 2, 34, 61, 62, 63, 64, 65, 66, 67, 68, 69, 70, 71, 72, 73, 74, 75, 76, 77, 78, 79] (by decide +kernel) (by decide +kernel)
set_option maxRecDepth 20000 in
theorem gX6_ofSection_X6_leastMet : GoodIn wsX6_ofSection (wsV RX6 109 RX6 yX6_leastMet wsX6_leastMet) := goodIn_app (goodIn_of _ (by decide +kernel)) ggX6_ofSection_X6_leastMet
set_option maxRecDepth 20000 in
theorem ggX6_ofSection_X6_isPinHeld : GoodIn wsX6_ofSection wsX6_isPinHeld := goodIn_r _ [54, 3, 55, 56, 57, 7, 58, 59, 60, 61, 62, 63, 64, 65, 66, 67, 68, 69, 70, 71, 72, 73, 74, 75, 76, 77, 78, 79] (by decide +kernel) (by decide +kernel)
set_option maxRecDepth 20000 in
theorem gX6_ofSection_X6_isPinHeld : GoodIn wsX6_ofSection (wsV RX6 113 RX6 yX6_isPinHeld wsX6_isPinHeld) := goodIn_app (goodIn_of _ (by decide +kernel)) ggX6_ofSection_X6_isPinHeld
theorem dX6_ofSection_0 : decode cX6_ofSection 0 = .ok (.aload_n 0, 1) := by decide +kernel
theorem dX6_ofSection_1 : decode cX6_ofSection 1 = .ok (.iload_n 1, 1) := by decide +kernel
theorem dX6_ofSection_2 : decode cX6_ofSection 2 = .ok (.invokevirtual 67, 3) := by decide +kernel
theorem dX6_ofSection_5 : decode cX6_ofSection 5 = .ok (.ifCond .ne 5, 3) := by decide +kernel
theorem dX6_ofSection_8 : decode cX6_ofSection 8 = .ok (.iconst (-1), 1) := by decide +kernel
theorem dX6_ofSection_9 : decode cX6_ofSection 9 = .ok (.ireturn, 1) := by decide +kernel
theorem dX6_ofSection_10 : decode cX6_ofSection 10 = .ok (.aload_n 0, 1) := by decide +kernel
theorem dX6_ofSection_11 : decode cX6_ofSection 11 = .ok (.iload_n 1, 1) := by decide +kernel
theorem dX6_ofSection_12 : decode cX6_ofSection 12 = .ok (.invokevirtual 102, 3) := by decide +kernel
theorem dX6_ofSection_15 : decode cX6_ofSection 15 = .ok (.iload_n 2, 1) := by decide +kernel
theorem dX6_ofSection_16 : decode cX6_ofSection 16 = .ok (.tableswitch 84 0 5 #[40, 47, 53, 58, 63, 70], 40) := by decide +kernel
theorem dX6_ofSection_56 : decode cX6_ofSection 56 = .ok (.aload_n 0, 1) := by decide +kernel
theorem dX6_ofSection_57 : decode cX6_ofSection 57 = .ok (.getfield 7, 3) := by decide +kernel
theorem dX6_ofSection_60 : decode cX6_ofSection 60 = .ok (.iload_n 1, 1) := by decide +kernel
theorem dX6_ofSection_61 : decode cX6_ofSection 61 = .ok (.iaload, 1) := by decide +kernel
theorem dX6_ofSection_62 : decode cX6_ofSection 62 = .ok (.ireturn, 1) := by decide +kernel
theorem dX6_ofSection_63 : decode cX6_ofSection 63 = .ok (.aload_n 0, 1) := by decide +kernel
theorem dX6_ofSection_64 : decode cX6_ofSection 64 = .ok (.iload_n 1, 1) := by decide +kernel
theorem dX6_ofSection_65 : decode cX6_ofSection 65 = .ok (.invokevirtual 106, 3) := by decide +kernel
theorem dX6_ofSection_68 : decode cX6_ofSection 68 = .ok (.ireturn, 1) := by decide +kernel
theorem dX6_ofSection_69 : decode cX6_ofSection 69 = .ok (.aload_n 0, 1) := by decide +kernel
theorem dX6_ofSection_70 : decode cX6_ofSection 70 = .ok (.getfield 85, 3) := by decide +kernel
theorem dX6_ofSection_73 : decode cX6_ofSection 73 = .ok (.ireturn, 1) := by decide +kernel
theorem dX6_ofSection_74 : decode cX6_ofSection 74 = .ok (.aload_n 0, 1) := by decide +kernel
theorem dX6_ofSection_75 : decode cX6_ofSection 75 = .ok (.invokevirtual 109, 3) := by decide +kernel
theorem dX6_ofSection_78 : decode cX6_ofSection 78 = .ok (.ireturn, 1) := by decide +kernel
theorem dX6_ofSection_79 : decode cX6_ofSection 79 = .ok (.aload_n 0, 1) := by decide +kernel
theorem dX6_ofSection_80 : decode cX6_ofSection 80 = .ok (.getfield 13, 3) := by decide +kernel
theorem dX6_ofSection_83 : decode cX6_ofSection 83 = .ok (.iload_n 1, 1) := by decide +kernel
theorem dX6_ofSection_84 : decode cX6_ofSection 84 = .ok (.iaload, 1) := by decide +kernel
theorem dX6_ofSection_85 : decode cX6_ofSection 85 = .ok (.ireturn, 1) := by decide +kernel
theorem dX6_ofSection_86 : decode cX6_ofSection 86 = .ok (.aload_n 0, 1) := by decide +kernel
theorem dX6_ofSection_87 : decode cX6_ofSection 87 = .ok (.iload_n 1, 1) := by decide +kernel
theorem dX6_ofSection_88 : decode cX6_ofSection 88 = .ok (.invokevirtual 113, 3) := by decide +kernel
theorem dX6_ofSection_91 : decode cX6_ofSection 91 = .ok (.ifCond .eq 7, 3) := by decide +kernel
theorem dX6_ofSection_94 : decode cX6_ofSection 94 = .ok (.iconst 1, 1) := by decide +kernel
theorem dX6_ofSection_95 : decode cX6_ofSection 95 = .ok (.goto 4, 3) := by decide +kernel
theorem dX6_ofSection_98 : decode cX6_ofSection 98 = .ok (.iconst 0, 1) := by decide +kernel
theorem dX6_ofSection_99 : decode cX6_ofSection 99 = .ok (.ireturn, 1) := by decide +kernel
theorem dX6_ofSection_100 : decode cX6_ofSection 100 = .ok (.bipush (-2), 2) := by decide +kernel
theorem dX6_ofSection_102 : decode cX6_ofSection 102 = .ok (.ireturn, 1) := by decide +kernel
set_option maxRecDepth 20000 in
theorem ggX6_ofTie_X6_isTie : GoodIn wsX6_ofTie wsX6_isTie := goodIn_r _ [7, 8, 9, 10, 6, 11, 36, 37, 38, 39, 40, 41, 42, 43, 44, 45, 46, 47, 48, 49, 50, 51, 52, 53, 54] (by decide +kernel) (by decide +kernel)
set_option maxRecDepth 20000 in
theorem gX6_ofTie_X6_isTie : GoodIn wsX6_ofTie (wsV RX6 74 RX6 yX6_isTie wsX6_isTie) := goodIn_app (goodIn_of _ (by decide +kernel)) ggX6_ofTie_X6_isTie
set_option maxRecDepth 20000 in
theorem ggX6_ofTie_X6_isIn : GoodIn wsX6_ofTie wsX6_isIn := goodIn_r _ [11] (by decide +kernel) (by decide +kernel)
set_option maxRecDepth 20000 in
theorem gX6_ofTie_X6_isIn : GoodIn wsX6_ofTie (va_wsS RX6 60 yX6_isIn wsX6_isIn) := goodIn_app (goodIn_of _ (by decide +kernel)) ggX6_ofTie_X6_isIn
set_option maxRecDepth 20000 in
theorem ggX6_ofTie_X6_findSorts : GoodIn wsX6_ofTie wsX6_findSorts := goodIn_r _ [15, 8, 2, 1, 16, 17, 18, 19, 6, 20, 21, 22, 23, 24, 25, 26, 27, 28, 29, 30, 31, 32, 33, 34, 35, 36, 37, 38, 39, 40, 41, 42, 43, 44, 45, 46, 47, 48, 49, 50, 51, 52, 53, 54] (by decide +kernel) (by decide +kernel)
set_option maxRecDepth 20000 in
theorem gX6_ofTie_X6_findSorts : GoodIn wsX6_ofTie (wsV RX6 96 RX6 yX6_findSorts wsX6_findSorts) := goodIn_app (goodIn_of _ (by decide +kernel)) ggX6_ofTie_X6_findSorts
theorem dX6_ofTie_0 : decode cX6_ofTie 0 = .ok (.aload_n 0, 1) := by decide +kernel
theorem dX6_ofTie_1 : decode cX6_ofTie 1 = .ok (.iload_n 1, 1) := by decide +kernel
theorem dX6_ofTie_2 : decode cX6_ofTie 2 = .ok (.invokevirtual 74, 3) := by decide +kernel
theorem dX6_ofTie_5 : decode cX6_ofTie 5 = .ok (.ifCond .ne 5, 3) := by decide +kernel
theorem dX6_ofTie_8 : decode cX6_ofTie 8 = .ok (.iconst (-1), 1) := by decide +kernel
theorem dX6_ofTie_9 : decode cX6_ofTie 9 = .ok (.ireturn, 1) := by decide +kernel
theorem dX6_ofTie_10 : decode cX6_ofTie 10 = .ok (.iload_n 2, 1) := by decide +kernel
theorem dX6_ofTie_11 : decode cX6_ofTie 11 = .ok (.iconst 0, 1) := by decide +kernel
theorem dX6_ofTie_12 : decode cX6_ofTie 12 = .ok (.iconst 5, 1) := by decide +kernel
theorem dX6_ofTie_13 : decode cX6_ofTie 13 = .ok (.invokestatic 60, 3) := by decide +kernel
theorem dX6_ofTie_16 : decode cX6_ofTie 16 = .ok (.ifCond .ne 6, 3) := by decide +kernel
theorem dX6_ofTie_19 : decode cX6_ofTie 19 = .ok (.bipush (-2), 2) := by decide +kernel
theorem dX6_ofTie_21 : decode cX6_ofTie 21 = .ok (.ireturn, 1) := by decide +kernel
theorem dX6_ofTie_22 : decode cX6_ofTie 22 = .ok (.aload_n 0, 1) := by decide +kernel
theorem dX6_ofTie_23 : decode cX6_ofTie 23 = .ok (.invokevirtual 96, 3) := by decide +kernel
theorem dX6_ofTie_26 : decode cX6_ofTie 26 = .ok (.iload_n 2, 1) := by decide +kernel
theorem dX6_ofTie_27 : decode cX6_ofTie 27 = .ok (.iconst 5, 1) := by decide +kernel
theorem dX6_ofTie_28 : decode cX6_ofTie 28 = .ok (.if_icmp .ne 12, 3) := by decide +kernel
theorem dX6_ofTie_31 : decode cX6_ofTie 31 = .ok (.aload_n 0, 1) := by decide +kernel
theorem dX6_ofTie_32 : decode cX6_ofTie 32 = .ok (.getfield 23, 3) := by decide +kernel
theorem dX6_ofTie_35 : decode cX6_ofTie 35 = .ok (.iload_n 1, 1) := by decide +kernel
theorem dX6_ofTie_36 : decode cX6_ofTie 36 = .ok (.iaload, 1) := by decide +kernel
theorem dX6_ofTie_37 : decode cX6_ofTie 37 = .ok (.goto 13, 3) := by decide +kernel
theorem dX6_ofTie_40 : decode cX6_ofTie 40 = .ok (.aload_n 0, 1) := by decide +kernel
theorem dX6_ofTie_41 : decode cX6_ofTie 41 = .ok (.getfield 20, 3) := by decide +kernel
theorem dX6_ofTie_44 : decode cX6_ofTie 44 = .ok (.iconst 5, 1) := by decide +kernel
theorem dX6_ofTie_45 : decode cX6_ofTie 45 = .ok (.iload_n 1, 1) := by decide +kernel
theorem dX6_ofTie_46 : decode cX6_ofTie 46 = .ok (.imul, 1) := by decide +kernel
theorem dX6_ofTie_47 : decode cX6_ofTie 47 = .ok (.iload_n 2, 1) := by decide +kernel
theorem dX6_ofTie_48 : decode cX6_ofTie 48 = .ok (.iadd, 1) := by decide +kernel
theorem dX6_ofTie_49 : decode cX6_ofTie 49 = .ok (.iaload, 1) := by decide +kernel
theorem dX6_ofTie_50 : decode cX6_ofTie 50 = .ok (.ireturn, 1) := by decide +kernel
set_option maxRecDepth 20000 in
theorem ggX6_told_X6_common : GoodIn wsX6_told wsX6_common := goodIn_r _ [4] (by decide +kernel) (by decide +kernel)
set_option maxRecDepth 20000 in
theorem gX6_told_X6_common : GoodIn wsX6_told (va_wsS RX6 81 yX6_common wsX6_common) := goodIn_app (goodIn_of _ (by decide +kernel)) ggX6_told_X6_common
theorem dX6_told_0 : decode cX6_told 0 = .ok (.lload_n 0, 1) := by decide +kernel
theorem dX6_told_1 : decode cX6_told 1 = .ok (.lload_n 2, 1) := by decide +kernel
theorem dX6_told_2 : decode cX6_told 2 = .ok (.invokestatic 81, 3) := by decide +kernel
theorem dX6_told_5 : decode cX6_told 5 = .ok (.lstore 5, 2) := by decide +kernel
theorem dX6_told_7 : decode cX6_told 7 = .ok (.iload 4, 2) := by decide +kernel
theorem dX6_told_9 : decode cX6_told 9 = .ok (.ifCond .ne 10, 3) := by decide +kernel
theorem dX6_told_12 : decode cX6_told 12 = .ok (.lload_n 0, 1) := by decide +kernel
theorem dX6_told_13 : decode cX6_told 13 = .ok (.lload 5, 2) := by decide +kernel
theorem dX6_told_15 : decode cX6_told 15 = .ok (.ldiv, 1) := by decide +kernel
theorem dX6_told_16 : decode cX6_told 16 = .ok (.goto 7, 3) := by decide +kernel
theorem dX6_told_19 : decode cX6_told 19 = .ok (.lload_n 2, 1) := by decide +kernel
theorem dX6_told_20 : decode cX6_told 20 = .ok (.lload 5, 2) := by decide +kernel
theorem dX6_told_22 : decode cX6_told 22 = .ok (.ldiv, 1) := by decide +kernel
theorem dX6_told_23 : decode cX6_told 23 = .ok (.lreturn, 1) := by decide +kernel
set_option maxRecDepth 20000 in
theorem ggX6_tempo_X6_isSection : GoodIn wsX6_tempo wsX6_isSection := goodIn_r _ [11, 12, 13, 14, 10, 15, 48, 49, 50, 51, 52, 53, 54, 55, 56, 57, 58, 59, 60, 61, 62, 63, 64, 65, 66] (by decide +kernel) (by decide +kernel)
set_option maxRecDepth 20000 in
theorem gX6_tempo_X6_isSection : GoodIn wsX6_tempo (wsV RX6 67 RX6 yX6_isSection wsX6_isSection) := goodIn_app (goodIn_of _ (by decide +kernel)) ggX6_tempo_X6_isSection
set_option maxRecDepth 20000 in
theorem ggX6_tempo_X6_isIn : GoodIn wsX6_tempo wsX6_isIn := goodIn_r _ [15] (by decide +kernel) (by decide +kernel)
set_option maxRecDepth 20000 in
theorem gX6_tempo_X6_isIn : GoodIn wsX6_tempo (va_wsS RX6 60 yX6_isIn wsX6_isIn) := goodIn_app (goodIn_of _ (by decide +kernel)) ggX6_tempo_X6_isIn
set_option maxRecDepth 20000 in
theorem ggX6_tempo_X6_spreadAll : GoodIn wsX6_tempo wsX6_spreadAll := goodIn_r _ [19, 20, 21, 22, 23, 10, 24, 25, 26, 3, 6, 27, 28, 29, 30, 31, 32, 33, 34, 35, 36, 37, 38, 39, 40, 41, 42, 43, 44, 48, 49, 50, 51, 52, 53, 54, 55, 56, 57, 58, 59, 60, 61, 62, 63, 64, 65, 66] (by decide +kernel) (by decide +kernel)
set_option maxRecDepth 20000 in
theorem gX6_tempo_X6_spreadAll : GoodIn wsX6_tempo (wsV RX6 102 RX6 yX6_spreadAll wsX6_spreadAll) := goodIn_app (goodIn_of _ (by decide +kernel)) ggX6_tempo_X6_spreadAll
set_option maxRecDepth 20000 in
theorem ggX6_tempo_X6_told : GoodIn wsX6_tempo wsX6_told := goodIn_r _ [47, 42, 43, 10, 44] (by decide +kernel) (by decide +kernel)
set_option maxRecDepth 20000 in
theorem gX6_tempo_X6_told : GoodIn wsX6_tempo (va_wsS RX6 122 yX6_told wsX6_told) := goodIn_app (goodIn_of _ (by decide +kernel)) ggX6_tempo_X6_told
theorem dX6_tempo_0 : decode cX6_tempo 0 = .ok (.aload_n 0, 1) := by decide +kernel
theorem dX6_tempo_1 : decode cX6_tempo 1 = .ok (.iload_n 1, 1) := by decide +kernel
theorem dX6_tempo_2 : decode cX6_tempo 2 = .ok (.invokevirtual 67, 3) := by decide +kernel
theorem dX6_tempo_5 : decode cX6_tempo 5 = .ok (.ifCond .ne 7, 3) := by decide +kernel
theorem dX6_tempo_8 : decode cX6_tempo 8 = .ok (.ldc2_w 116, 3) := by decide +kernel
theorem dX6_tempo_11 : decode cX6_tempo 11 = .ok (.lreturn, 1) := by decide +kernel
theorem dX6_tempo_12 : decode cX6_tempo 12 = .ok (.iload_n 2, 1) := by decide +kernel
theorem dX6_tempo_13 : decode cX6_tempo 13 = .ok (.iconst 0, 1) := by decide +kernel
theorem dX6_tempo_14 : decode cX6_tempo 14 = .ok (.iconst 1, 1) := by decide +kernel
theorem dX6_tempo_15 : decode cX6_tempo 15 = .ok (.invokestatic 60, 3) := by decide +kernel
theorem dX6_tempo_18 : decode cX6_tempo 18 = .ok (.ifCond .ne 7, 3) := by decide +kernel
theorem dX6_tempo_21 : decode cX6_tempo 21 = .ok (.ldc2_w 118, 3) := by decide +kernel
theorem dX6_tempo_24 : decode cX6_tempo 24 = .ok (.lreturn, 1) := by decide +kernel
theorem dX6_tempo_25 : decode cX6_tempo 25 = .ok (.aload_n 0, 1) := by decide +kernel
theorem dX6_tempo_26 : decode cX6_tempo 26 = .ok (.iconst 0, 1) := by decide +kernel
theorem dX6_tempo_27 : decode cX6_tempo 27 = .ok (.invokevirtual 102, 3) := by decide +kernel
theorem dX6_tempo_30 : decode cX6_tempo 30 = .ok (.aload_n 0, 1) := by decide +kernel
theorem dX6_tempo_31 : decode cX6_tempo 31 = .ok (.getfield 26, 3) := by decide +kernel
theorem dX6_tempo_34 : decode cX6_tempo 34 = .ok (.iload_n 1, 1) := by decide +kernel
theorem dX6_tempo_35 : decode cX6_tempo 35 = .ok (.laload, 1) := by decide +kernel
theorem dX6_tempo_36 : decode cX6_tempo 36 = .ok (.lconst 0, 1) := by decide +kernel
theorem dX6_tempo_37 : decode cX6_tempo 37 = .ok (.lcmp, 1) := by decide +kernel
theorem dX6_tempo_38 : decode cX6_tempo 38 = .ok (.ifCond .ne 9, 3) := by decide +kernel
theorem dX6_tempo_41 : decode cX6_tempo 41 = .ok (.ldc2_w 120, 3) := by decide +kernel
theorem dX6_tempo_44 : decode cX6_tempo 44 = .ok (.goto 25, 3) := by decide +kernel
theorem dX6_tempo_47 : decode cX6_tempo 47 = .ok (.aload_n 0, 1) := by decide +kernel
theorem dX6_tempo_48 : decode cX6_tempo 48 = .ok (.getfield 16, 3) := by decide +kernel
theorem dX6_tempo_51 : decode cX6_tempo 51 = .ok (.i2l, 1) := by decide +kernel
theorem dX6_tempo_52 : decode cX6_tempo 52 = .ok (.aload_n 0, 1) := by decide +kernel
theorem dX6_tempo_53 : decode cX6_tempo 53 = .ok (.getfield 26, 3) := by decide +kernel
theorem dX6_tempo_56 : decode cX6_tempo 56 = .ok (.iload_n 1, 1) := by decide +kernel
theorem dX6_tempo_57 : decode cX6_tempo 57 = .ok (.laload, 1) := by decide +kernel
theorem dX6_tempo_58 : decode cX6_tempo 58 = .ok (.lmul, 1) := by decide +kernel
theorem dX6_tempo_59 : decode cX6_tempo 59 = .ok (.aload_n 0, 1) := by decide +kernel
theorem dX6_tempo_60 : decode cX6_tempo 60 = .ok (.getfield 30, 3) := by decide +kernel
theorem dX6_tempo_63 : decode cX6_tempo 63 = .ok (.iload_n 1, 1) := by decide +kernel
theorem dX6_tempo_64 : decode cX6_tempo 64 = .ok (.laload, 1) := by decide +kernel
theorem dX6_tempo_65 : decode cX6_tempo 65 = .ok (.iload_n 2, 1) := by decide +kernel
theorem dX6_tempo_66 : decode cX6_tempo 66 = .ok (.invokestatic 122, 3) := by decide +kernel
theorem dX6_tempo_69 : decode cX6_tempo 69 = .ok (.lreturn, 1) := by decide +kernel
set_option maxRecDepth 20000 in
theorem ggX6_ratio_X6_isSection : GoodIn wsX6_ratio wsX6_isSection := goodIn_r _ [10, 11, 12, 13, 9, 14, 47, 48, 49, 50, 51, 52, 53, 54, 55, 56, 57, 58, 59, 60, 61, 62, 63, 64, 65] (by decide +kernel) (by decide +kernel)
set_option maxRecDepth 20000 in
theorem gX6_ratio_X6_isSection : GoodIn wsX6_ratio (wsV RX6 67 RX6 yX6_isSection wsX6_isSection) := goodIn_app (goodIn_of _ (by decide +kernel)) ggX6_ratio_X6_isSection
set_option maxRecDepth 20000 in
theorem ggX6_ratio_X6_isIn : GoodIn wsX6_ratio wsX6_isIn := goodIn_r _ [14] (by decide +kernel) (by decide +kernel)
set_option maxRecDepth 20000 in
theorem gX6_ratio_X6_isIn : GoodIn wsX6_ratio (va_wsS RX6 60 yX6_isIn wsX6_isIn) := goodIn_app (goodIn_of _ (by decide +kernel)) ggX6_ratio_X6_isIn
set_option maxRecDepth 20000 in
theorem ggX6_ratio_X6_spreadAll : GoodIn wsX6_ratio wsX6_spreadAll := goodIn_r _ [18, 19, 20, 21, 22, 9, 23, 24, 25, 3, 5, 26, 27, 28, 29, 30, 31, 32, 33, 34, 35, 36, 37, 38, 39, 40, 41, 42, 43, 47, 48, 49, 50, 51, 52, 53, 54, 55, 56, 57, 58, 59, 60, 61, 62, 63, 64, 65] (by decide +kernel) (by decide +kernel)
set_option maxRecDepth 20000 in
theorem gX6_ratio_X6_spreadAll : GoodIn wsX6_ratio (wsV RX6 102 RX6 yX6_spreadAll wsX6_spreadAll) := goodIn_app (goodIn_of _ (by decide +kernel)) ggX6_ratio_X6_spreadAll
set_option maxRecDepth 20000 in
theorem ggX6_ratio_X6_told : GoodIn wsX6_ratio wsX6_told := goodIn_r _ [46, 41, 42, 9, 43] (by decide +kernel) (by decide +kernel)
set_option maxRecDepth 20000 in
theorem gX6_ratio_X6_told : GoodIn wsX6_ratio (va_wsS RX6 122 yX6_told wsX6_told) := goodIn_app (goodIn_of _ (by decide +kernel)) ggX6_ratio_X6_told
theorem dX6_ratio_0 : decode cX6_ratio 0 = .ok (.aload_n 0, 1) := by decide +kernel
theorem dX6_ratio_1 : decode cX6_ratio 1 = .ok (.iload_n 1, 1) := by decide +kernel
theorem dX6_ratio_2 : decode cX6_ratio 2 = .ok (.invokevirtual 67, 3) := by decide +kernel
theorem dX6_ratio_5 : decode cX6_ratio 5 = .ok (.ifCond .eq 11, 3) := by decide +kernel
theorem dX6_ratio_8 : decode cX6_ratio 8 = .ok (.aload_n 0, 1) := by decide +kernel
theorem dX6_ratio_9 : decode cX6_ratio 9 = .ok (.iload_n 2, 1) := by decide +kernel
theorem dX6_ratio_10 : decode cX6_ratio 10 = .ok (.invokevirtual 67, 3) := by decide +kernel
theorem dX6_ratio_13 : decode cX6_ratio 13 = .ok (.ifCond .ne 7, 3) := by decide +kernel
theorem dX6_ratio_16 : decode cX6_ratio 16 = .ok (.ldc2_w 116, 3) := by decide +kernel
theorem dX6_ratio_19 : decode cX6_ratio 19 = .ok (.lreturn, 1) := by decide +kernel
theorem dX6_ratio_20 : decode cX6_ratio 20 = .ok (.iload_n 3, 1) := by decide +kernel
theorem dX6_ratio_21 : decode cX6_ratio 21 = .ok (.iconst 0, 1) := by decide +kernel
theorem dX6_ratio_22 : decode cX6_ratio 22 = .ok (.iconst 1, 1) := by decide +kernel
theorem dX6_ratio_23 : decode cX6_ratio 23 = .ok (.invokestatic 60, 3) := by decide +kernel
theorem dX6_ratio_26 : decode cX6_ratio 26 = .ok (.ifCond .ne 7, 3) := by decide +kernel
theorem dX6_ratio_29 : decode cX6_ratio 29 = .ok (.ldc2_w 118, 3) := by decide +kernel
theorem dX6_ratio_32 : decode cX6_ratio 32 = .ok (.lreturn, 1) := by decide +kernel
theorem dX6_ratio_33 : decode cX6_ratio 33 = .ok (.aload_n 0, 1) := by decide +kernel
theorem dX6_ratio_34 : decode cX6_ratio 34 = .ok (.iload_n 1, 1) := by decide +kernel
theorem dX6_ratio_35 : decode cX6_ratio 35 = .ok (.invokevirtual 102, 3) := by decide +kernel
theorem dX6_ratio_38 : decode cX6_ratio 38 = .ok (.aload_n 0, 1) := by decide +kernel
theorem dX6_ratio_39 : decode cX6_ratio 39 = .ok (.getfield 26, 3) := by decide +kernel
theorem dX6_ratio_42 : decode cX6_ratio 42 = .ok (.iload_n 2, 1) := by decide +kernel
theorem dX6_ratio_43 : decode cX6_ratio 43 = .ok (.laload, 1) := by decide +kernel
theorem dX6_ratio_44 : decode cX6_ratio 44 = .ok (.lconst 0, 1) := by decide +kernel
theorem dX6_ratio_45 : decode cX6_ratio 45 = .ok (.lcmp, 1) := by decide +kernel
theorem dX6_ratio_46 : decode cX6_ratio 46 = .ok (.ifCond .ne 9, 3) := by decide +kernel
theorem dX6_ratio_49 : decode cX6_ratio 49 = .ok (.ldc2_w 120, 3) := by decide +kernel
theorem dX6_ratio_52 : decode cX6_ratio 52 = .ok (.goto 19, 3) := by decide +kernel
theorem dX6_ratio_55 : decode cX6_ratio 55 = .ok (.aload_n 0, 1) := by decide +kernel
theorem dX6_ratio_56 : decode cX6_ratio 56 = .ok (.getfield 26, 3) := by decide +kernel
theorem dX6_ratio_59 : decode cX6_ratio 59 = .ok (.iload_n 2, 1) := by decide +kernel
theorem dX6_ratio_60 : decode cX6_ratio 60 = .ok (.laload, 1) := by decide +kernel
theorem dX6_ratio_61 : decode cX6_ratio 61 = .ok (.aload_n 0, 1) := by decide +kernel
theorem dX6_ratio_62 : decode cX6_ratio 62 = .ok (.getfield 30, 3) := by decide +kernel
theorem dX6_ratio_65 : decode cX6_ratio 65 = .ok (.iload_n 2, 1) := by decide +kernel
theorem dX6_ratio_66 : decode cX6_ratio 66 = .ok (.laload, 1) := by decide +kernel
theorem dX6_ratio_67 : decode cX6_ratio 67 = .ok (.iload_n 3, 1) := by decide +kernel
theorem dX6_ratio_68 : decode cX6_ratio 68 = .ok (.invokestatic 122, 3) := by decide +kernel
theorem dX6_ratio_71 : decode cX6_ratio 71 = .ok (.lreturn, 1) := by decide +kernel
set_option maxRecDepth 20000 in
theorem ggX6_off_X6_isTie : GoodIn wsX6_off wsX6_isTie := goodIn_r _ [12, 13, 14, 15, 11, 16, 46, 47, 48, 49, 50, 51, 52, 53, 54, 55, 56, 57, 58, 59, 60, 61, 62, 63, 64] (by decide +kernel) (by decide +kernel)
set_option maxRecDepth 20000 in
theorem gX6_off_X6_isTie : GoodIn wsX6_off (wsV RX6 74 RX6 yX6_isTie wsX6_isTie) := goodIn_app (goodIn_of _ (by decide +kernel)) ggX6_off_X6_isTie
set_option maxRecDepth 20000 in
theorem ggX6_off_X6_isIn : GoodIn wsX6_off wsX6_isIn := goodIn_r _ [16] (by decide +kernel) (by decide +kernel)
set_option maxRecDepth 20000 in
theorem gX6_off_X6_isIn : GoodIn wsX6_off (va_wsS RX6 60 yX6_isIn wsX6_isIn) := goodIn_app (goodIn_of _ (by decide +kernel)) ggX6_off_X6_isIn
set_option maxRecDepth 20000 in
theorem ggX6_off_X6_spreadAll : GoodIn wsX6_off wsX6_spreadAll := goodIn_r _ [20, 13, 21, 22, 23, 11, 24, 3, 4, 6, 7, 25, 26, 27, 28, 29, 30, 31, 32, 33, 34, 35, 36, 37, 38, 39, 40, 41, 42, 46, 47, 48, 49, 50, 51, 52, 53, 54, 55, 56, 57, 58, 59, 60, 61, 62, 63, 64] (by decide +kernel) (by decide +kernel)
set_option maxRecDepth 20000 in
theorem gX6_off_X6_spreadAll : GoodIn wsX6_off (wsV RX6 102 RX6 yX6_spreadAll wsX6_spreadAll) := goodIn_app (goodIn_of _ (by decide +kernel)) ggX6_off_X6_spreadAll
set_option maxRecDepth 20000 in
theorem ggX6_off_X6_ticksOf : GoodIn wsX6_off wsX6_ticksOf := goodIn_r _ [27] (by decide +kernel) (by decide +kernel)
set_option maxRecDepth 20000 in
theorem gX6_off_X6_ticksOf : GoodIn wsX6_off (va_wsS RX6 77 yX6_ticksOf wsX6_ticksOf) := goodIn_app (goodIn_of _ (by decide +kernel)) ggX6_off_X6_ticksOf
set_option maxRecDepth 20000 in
theorem ggX6_off_X6_told : GoodIn wsX6_off wsX6_told := goodIn_r _ [45, 40, 41, 11, 42] (by decide +kernel) (by decide +kernel)
set_option maxRecDepth 20000 in
theorem gX6_off_X6_told : GoodIn wsX6_off (va_wsS RX6 122 yX6_told wsX6_told) := goodIn_app (goodIn_of _ (by decide +kernel)) ggX6_off_X6_told
theorem dX6_off_0 : decode cX6_off 0 = .ok (.aload_n 0, 1) := by decide +kernel
theorem dX6_off_1 : decode cX6_off 1 = .ok (.iload_n 1, 1) := by decide +kernel
theorem dX6_off_2 : decode cX6_off 2 = .ok (.invokevirtual 74, 3) := by decide +kernel
theorem dX6_off_5 : decode cX6_off 5 = .ok (.ifCond .ne 7, 3) := by decide +kernel
theorem dX6_off_8 : decode cX6_off 8 = .ok (.ldc2_w 116, 3) := by decide +kernel
theorem dX6_off_11 : decode cX6_off 11 = .ok (.lreturn, 1) := by decide +kernel
theorem dX6_off_12 : decode cX6_off 12 = .ok (.iload_n 2, 1) := by decide +kernel
theorem dX6_off_13 : decode cX6_off 13 = .ok (.iconst 0, 1) := by decide +kernel
theorem dX6_off_14 : decode cX6_off 14 = .ok (.iconst 1, 1) := by decide +kernel
theorem dX6_off_15 : decode cX6_off 15 = .ok (.invokestatic 60, 3) := by decide +kernel
theorem dX6_off_18 : decode cX6_off 18 = .ok (.ifCond .ne 7, 3) := by decide +kernel
theorem dX6_off_21 : decode cX6_off 21 = .ok (.ldc2_w 118, 3) := by decide +kernel
theorem dX6_off_24 : decode cX6_off 24 = .ok (.lreturn, 1) := by decide +kernel
theorem dX6_off_25 : decode cX6_off 25 = .ok (.aload_n 0, 1) := by decide +kernel
theorem dX6_off_26 : decode cX6_off 26 = .ok (.aload_n 0, 1) := by decide +kernel
theorem dX6_off_27 : decode cX6_off 27 = .ok (.getfield 20, 3) := by decide +kernel
theorem dX6_off_30 : decode cX6_off 30 = .ok (.iconst 5, 1) := by decide +kernel
theorem dX6_off_31 : decode cX6_off 31 = .ok (.iload_n 1, 1) := by decide +kernel
theorem dX6_off_32 : decode cX6_off 32 = .ok (.imul, 1) := by decide +kernel
theorem dX6_off_33 : decode cX6_off 33 = .ok (.iaload, 1) := by decide +kernel
theorem dX6_off_34 : decode cX6_off 34 = .ok (.invokevirtual 102, 3) := by decide +kernel
theorem dX6_off_37 : decode cX6_off 37 = .ok (.aload_n 0, 1) := by decide +kernel
theorem dX6_off_38 : decode cX6_off 38 = .ok (.getfield 20, 3) := by decide +kernel
theorem dX6_off_41 : decode cX6_off 41 = .ok (.iconst 5, 1) := by decide +kernel
theorem dX6_off_42 : decode cX6_off 42 = .ok (.iload_n 1, 1) := by decide +kernel
theorem dX6_off_43 : decode cX6_off 43 = .ok (.imul, 1) := by decide +kernel
theorem dX6_off_44 : decode cX6_off 44 = .ok (.iconst 2, 1) := by decide +kernel
theorem dX6_off_45 : decode cX6_off 45 = .ok (.iadd, 1) := by decide +kernel
theorem dX6_off_46 : decode cX6_off 46 = .ok (.iaload, 1) := by decide +kernel
theorem dX6_off_47 : decode cX6_off 47 = .ok (.istore_n 3, 1) := by decide +kernel
theorem dX6_off_48 : decode cX6_off 48 = .ok (.aload_n 0, 1) := by decide +kernel
theorem dX6_off_49 : decode cX6_off 49 = .ok (.getfield 23, 3) := by decide +kernel
theorem dX6_off_52 : decode cX6_off 52 = .ok (.iload_n 1, 1) := by decide +kernel
theorem dX6_off_53 : decode cX6_off 53 = .ok (.iaload, 1) := by decide +kernel
theorem dX6_off_54 : decode cX6_off 54 = .ok (.ifCond .ne 7, 3) := by decide +kernel
theorem dX6_off_57 : decode cX6_off 57 = .ok (.ldc2_w 120, 3) := by decide +kernel
theorem dX6_off_60 : decode cX6_off 60 = .ok (.lreturn, 1) := by decide +kernel
theorem dX6_off_61 : decode cX6_off 61 = .ok (.aload_n 0, 1) := by decide +kernel
theorem dX6_off_62 : decode cX6_off 62 = .ok (.getfield 26, 3) := by decide +kernel
theorem dX6_off_65 : decode cX6_off 65 = .ok (.iload_n 3, 1) := by decide +kernel
theorem dX6_off_66 : decode cX6_off 66 = .ok (.laload, 1) := by decide +kernel
theorem dX6_off_67 : decode cX6_off 67 = .ok (.aload_n 0, 1) := by decide +kernel
theorem dX6_off_68 : decode cX6_off 68 = .ok (.getfield 20, 3) := by decide +kernel
theorem dX6_off_71 : decode cX6_off 71 = .ok (.iconst 5, 1) := by decide +kernel
theorem dX6_off_72 : decode cX6_off 72 = .ok (.iload_n 1, 1) := by decide +kernel
theorem dX6_off_73 : decode cX6_off 73 = .ok (.imul, 1) := by decide +kernel
theorem dX6_off_74 : decode cX6_off 74 = .ok (.iconst 1, 1) := by decide +kernel
theorem dX6_off_75 : decode cX6_off 75 = .ok (.iadd, 1) := by decide +kernel
theorem dX6_off_76 : decode cX6_off 76 = .ok (.iaload, 1) := by decide +kernel
theorem dX6_off_77 : decode cX6_off 77 = .ok (.invokestatic 77, 3) := by decide +kernel
theorem dX6_off_80 : decode cX6_off 80 = .ok (.i2l, 1) := by decide +kernel
theorem dX6_off_81 : decode cX6_off 81 = .ok (.lmul, 1) := by decide +kernel
theorem dX6_off_82 : decode cX6_off 82 = .ok (.aload_n 0, 1) := by decide +kernel
theorem dX6_off_83 : decode cX6_off 83 = .ok (.getfield 30, 3) := by decide +kernel
theorem dX6_off_86 : decode cX6_off 86 = .ok (.iload_n 3, 1) := by decide +kernel
theorem dX6_off_87 : decode cX6_off 87 = .ok (.laload, 1) := by decide +kernel
theorem dX6_off_88 : decode cX6_off 88 = .ok (.aload_n 0, 1) := by decide +kernel
theorem dX6_off_89 : decode cX6_off 89 = .ok (.getfield 20, 3) := by decide +kernel
theorem dX6_off_92 : decode cX6_off 92 = .ok (.iconst 5, 1) := by decide +kernel
theorem dX6_off_93 : decode cX6_off 93 = .ok (.iload_n 1, 1) := by decide +kernel
theorem dX6_off_94 : decode cX6_off 94 = .ok (.imul, 1) := by decide +kernel
theorem dX6_off_95 : decode cX6_off 95 = .ok (.iconst 3, 1) := by decide +kernel
theorem dX6_off_96 : decode cX6_off 96 = .ok (.iadd, 1) := by decide +kernel
theorem dX6_off_97 : decode cX6_off 97 = .ok (.iaload, 1) := by decide +kernel
theorem dX6_off_98 : decode cX6_off 98 = .ok (.invokestatic 77, 3) := by decide +kernel
theorem dX6_off_101 : decode cX6_off 101 = .ok (.i2l, 1) := by decide +kernel
theorem dX6_off_102 : decode cX6_off 102 = .ok (.lmul, 1) := by decide +kernel
theorem dX6_off_103 : decode cX6_off 103 = .ok (.iload_n 2, 1) := by decide +kernel
theorem dX6_off_104 : decode cX6_off 104 = .ok (.invokestatic 122, 3) := by decide +kernel
theorem dX6_off_107 : decode cX6_off 107 = .ok (.lreturn, 1) := by decide +kernel
set_option maxRecDepth 20000 in
theorem ggX6_ring_X6_isTie : GoodIn wsX6_ring wsX6_isTie := goodIn_r _ [8, 9, 10, 11, 7, 12, 40, 41, 42, 43, 44, 45, 46, 47, 48, 49, 50, 51, 52, 53, 54, 55, 56, 57, 58] (by decide +kernel) (by decide +kernel)
set_option maxRecDepth 20000 in
theorem gX6_ring_X6_isTie : GoodIn wsX6_ring (wsV RX6 74 RX6 yX6_isTie wsX6_isTie) := goodIn_app (goodIn_of _ (by decide +kernel)) ggX6_ring_X6_isTie
set_option maxRecDepth 20000 in
theorem ggX6_ring_X6_spreadAll : GoodIn wsX6_ring wsX6_spreadAll := goodIn_r _ [16, 9, 17, 18, 19, 7, 20, 1, 2, 21, 22, 23, 24, 25, 26, 27, 28, 29, 3, 30, 31, 32, 33, 34, 35, 36, 37, 38, 39, 40, 41, 42, 43, 44, 45, 46, 47, 48, 49, 50, 51, 52, 53, 54, 55, 56, 57, 58] (by decide +kernel) (by decide +kernel)
set_option maxRecDepth 20000 in
theorem gX6_ring_X6_spreadAll : GoodIn wsX6_ring (wsV RX6 102 RX6 yX6_spreadAll wsX6_spreadAll) := goodIn_app (goodIn_of _ (by decide +kernel)) ggX6_ring_X6_spreadAll
theorem dX6_ring_0 : decode cX6_ring 0 = .ok (.aload_n 0, 1) := by decide +kernel
theorem dX6_ring_1 : decode cX6_ring 1 = .ok (.iload_n 1, 1) := by decide +kernel
theorem dX6_ring_2 : decode cX6_ring 2 = .ok (.invokevirtual 74, 3) := by decide +kernel
theorem dX6_ring_5 : decode cX6_ring 5 = .ok (.ifCond .ne 5, 3) := by decide +kernel
theorem dX6_ring_8 : decode cX6_ring 8 = .ok (.iconst (-1), 1) := by decide +kernel
theorem dX6_ring_9 : decode cX6_ring 9 = .ok (.ireturn, 1) := by decide +kernel
theorem dX6_ring_10 : decode cX6_ring 10 = .ok (.aload_n 0, 1) := by decide +kernel
theorem dX6_ring_11 : decode cX6_ring 11 = .ok (.aload_n 0, 1) := by decide +kernel
theorem dX6_ring_12 : decode cX6_ring 12 = .ok (.getfield 20, 3) := by decide +kernel
theorem dX6_ring_15 : decode cX6_ring 15 = .ok (.iconst 5, 1) := by decide +kernel
theorem dX6_ring_16 : decode cX6_ring 16 = .ok (.iload_n 1, 1) := by decide +kernel
theorem dX6_ring_17 : decode cX6_ring 17 = .ok (.imul, 1) := by decide +kernel
theorem dX6_ring_18 : decode cX6_ring 18 = .ok (.iaload, 1) := by decide +kernel
theorem dX6_ring_19 : decode cX6_ring 19 = .ok (.invokevirtual 102, 3) := by decide +kernel
theorem dX6_ring_22 : decode cX6_ring 22 = .ok (.aload_n 0, 1) := by decide +kernel
theorem dX6_ring_23 : decode cX6_ring 23 = .ok (.getfield 23, 3) := by decide +kernel
theorem dX6_ring_26 : decode cX6_ring 26 = .ok (.iload_n 1, 1) := by decide +kernel
theorem dX6_ring_27 : decode cX6_ring 27 = .ok (.iaload, 1) := by decide +kernel
theorem dX6_ring_28 : decode cX6_ring 28 = .ok (.ifCond .ne 8, 3) := by decide +kernel
theorem dX6_ring_31 : decode cX6_ring 31 = .ok (.bipush (-9), 2) := by decide +kernel
theorem dX6_ring_33 : decode cX6_ring 33 = .ok (.goto 22, 3) := by decide +kernel
theorem dX6_ring_36 : decode cX6_ring 36 = .ok (.aload_n 0, 1) := by decide +kernel
theorem dX6_ring_37 : decode cX6_ring 37 = .ok (.getfield 33, 3) := by decide +kernel
theorem dX6_ring_40 : decode cX6_ring 40 = .ok (.aload_n 0, 1) := by decide +kernel
theorem dX6_ring_41 : decode cX6_ring 41 = .ok (.getfield 20, 3) := by decide +kernel
theorem dX6_ring_44 : decode cX6_ring 44 = .ok (.iconst 5, 1) := by decide +kernel
theorem dX6_ring_45 : decode cX6_ring 45 = .ok (.iload_n 1, 1) := by decide +kernel
theorem dX6_ring_46 : decode cX6_ring 46 = .ok (.imul, 1) := by decide +kernel
theorem dX6_ring_47 : decode cX6_ring 47 = .ok (.iconst 2, 1) := by decide +kernel
theorem dX6_ring_48 : decode cX6_ring 48 = .ok (.iadd, 1) := by decide +kernel
theorem dX6_ring_49 : decode cX6_ring 49 = .ok (.iaload, 1) := by decide +kernel
theorem dX6_ring_50 : decode cX6_ring 50 = .ok (.iaload, 1) := by decide +kernel
theorem dX6_ring_51 : decode cX6_ring 51 = .ok (.iconst 1, 1) := by decide +kernel
theorem dX6_ring_52 : decode cX6_ring 52 = .ok (.iload_n 1, 1) := by decide +kernel
theorem dX6_ring_53 : decode cX6_ring 53 = .ok (.ishl, 1) := by decide +kernel
theorem dX6_ring_54 : decode cX6_ring 54 = .ok (.ior, 1) := by decide +kernel
theorem dX6_ring_55 : decode cX6_ring 55 = .ok (.ireturn, 1) := by decide +kernel
theorem dX6_placeOf_0 : decode cX6_placeOf 0 = .ok (.iconst 0, 1) := by decide +kernel
theorem dX6_placeOf_1 : decode cX6_placeOf 1 = .ok (.istore_n 2, 1) := by decide +kernel
theorem dX6_placeOf_2 : decode cX6_placeOf 2 = .ok (.iload_n 2, 1) := by decide +kernel
theorem dX6_placeOf_3 : decode cX6_placeOf 3 = .ok (.aload_n 0, 1) := by decide +kernel
theorem dX6_placeOf_4 : decode cX6_placeOf 4 = .ok (.getfield 42, 3) := by decide +kernel
theorem dX6_placeOf_7 : decode cX6_placeOf 7 = .ok (.if_icmp .ge 21, 3) := by decide +kernel
theorem dX6_placeOf_10 : decode cX6_placeOf 10 = .ok (.aload_n 0, 1) := by decide +kernel
theorem dX6_placeOf_11 : decode cX6_placeOf 11 = .ok (.getfield 45, 3) := by decide +kernel
theorem dX6_placeOf_14 : decode cX6_placeOf 14 = .ok (.iload_n 2, 1) := by decide +kernel
theorem dX6_placeOf_15 : decode cX6_placeOf 15 = .ok (.iaload, 1) := by decide +kernel
theorem dX6_placeOf_16 : decode cX6_placeOf 16 = .ok (.iload_n 1, 1) := by decide +kernel
theorem dX6_placeOf_17 : decode cX6_placeOf 17 = .ok (.if_icmp .ne 5, 3) := by decide +kernel
theorem dX6_placeOf_20 : decode cX6_placeOf 20 = .ok (.iload_n 2, 1) := by decide +kernel
theorem dX6_placeOf_21 : decode cX6_placeOf 21 = .ok (.ireturn, 1) := by decide +kernel
theorem dX6_placeOf_22 : decode cX6_placeOf 22 = .ok (.iinc 2 1, 3) := by decide +kernel
theorem dX6_placeOf_25 : decode cX6_placeOf 25 = .ok (.goto (-23), 3) := by decide +kernel
theorem dX6_placeOf_28 : decode cX6_placeOf 28 = .ok (.bipush (-9), 2) := by decide +kernel
theorem dX6_placeOf_30 : decode cX6_placeOf 30 = .ok (.ireturn, 1) := by decide +kernel
theorem dX6_takesMark_0 : decode cX6_takesMark 0 = .ok (.aload_n 0, 1) := by decide +kernel
theorem dX6_takesMark_1 : decode cX6_takesMark 1 = .ok (.getfield 42, 3) := by decide +kernel
theorem dX6_takesMark_4 : decode cX6_takesMark 4 = .ok (.istore_n 2, 1) := by decide +kernel
theorem dX6_takesMark_5 : decode cX6_takesMark 5 = .ok (.iload_n 2, 1) := by decide +kernel
theorem dX6_takesMark_6 : decode cX6_takesMark 6 = .ok (.ifCond .le 35, 3) := by decide +kernel
theorem dX6_takesMark_9 : decode cX6_takesMark 9 = .ok (.aload_n 0, 1) := by decide +kernel
theorem dX6_takesMark_10 : decode cX6_takesMark 10 = .ok (.getfield 45, 3) := by decide +kernel
theorem dX6_takesMark_13 : decode cX6_takesMark 13 = .ok (.iload_n 2, 1) := by decide +kernel
theorem dX6_takesMark_14 : decode cX6_takesMark 14 = .ok (.iconst 1, 1) := by decide +kernel
theorem dX6_takesMark_15 : decode cX6_takesMark 15 = .ok (.isub, 1) := by decide +kernel
theorem dX6_takesMark_16 : decode cX6_takesMark 16 = .ok (.iaload, 1) := by decide +kernel
theorem dX6_takesMark_17 : decode cX6_takesMark 17 = .ok (.iload_n 1, 1) := by decide +kernel
theorem dX6_takesMark_18 : decode cX6_takesMark 18 = .ok (.if_icmp .le 23, 3) := by decide +kernel
theorem dX6_takesMark_21 : decode cX6_takesMark 21 = .ok (.aload_n 0, 1) := by decide +kernel
theorem dX6_takesMark_22 : decode cX6_takesMark 22 = .ok (.getfield 45, 3) := by decide +kernel
theorem dX6_takesMark_25 : decode cX6_takesMark 25 = .ok (.iload_n 2, 1) := by decide +kernel
theorem dX6_takesMark_26 : decode cX6_takesMark 26 = .ok (.aload_n 0, 1) := by decide +kernel
theorem dX6_takesMark_27 : decode cX6_takesMark 27 = .ok (.getfield 45, 3) := by decide +kernel
theorem dX6_takesMark_30 : decode cX6_takesMark 30 = .ok (.iload_n 2, 1) := by decide +kernel
theorem dX6_takesMark_31 : decode cX6_takesMark 31 = .ok (.iconst 1, 1) := by decide +kernel
theorem dX6_takesMark_32 : decode cX6_takesMark 32 = .ok (.isub, 1) := by decide +kernel
theorem dX6_takesMark_33 : decode cX6_takesMark 33 = .ok (.iaload, 1) := by decide +kernel
theorem dX6_takesMark_34 : decode cX6_takesMark 34 = .ok (.iastore, 1) := by decide +kernel
theorem dX6_takesMark_35 : decode cX6_takesMark 35 = .ok (.iinc 2 (-1), 3) := by decide +kernel
theorem dX6_takesMark_38 : decode cX6_takesMark 38 = .ok (.goto (-33), 3) := by decide +kernel
theorem dX6_takesMark_41 : decode cX6_takesMark 41 = .ok (.aload_n 0, 1) := by decide +kernel
theorem dX6_takesMark_42 : decode cX6_takesMark 42 = .ok (.getfield 45, 3) := by decide +kernel
theorem dX6_takesMark_45 : decode cX6_takesMark 45 = .ok (.iload_n 2, 1) := by decide +kernel
theorem dX6_takesMark_46 : decode cX6_takesMark 46 = .ok (.iload_n 1, 1) := by decide +kernel
theorem dX6_takesMark_47 : decode cX6_takesMark 47 = .ok (.iastore, 1) := by decide +kernel
theorem dX6_takesMark_48 : decode cX6_takesMark 48 = .ok (.aload_n 0, 1) := by decide +kernel
theorem dX6_takesMark_49 : decode cX6_takesMark 49 = .ok (.dup, 1) := by decide +kernel
theorem dX6_takesMark_50 : decode cX6_takesMark 50 = .ok (.getfield 42, 3) := by decide +kernel
theorem dX6_takesMark_53 : decode cX6_takesMark 53 = .ok (.iconst 1, 1) := by decide +kernel
theorem dX6_takesMark_54 : decode cX6_takesMark 54 = .ok (.iadd, 1) := by decide +kernel
theorem dX6_takesMark_55 : decode cX6_takesMark 55 = .ok (.putfield 42, 3) := by decide +kernel
theorem dX6_takesMark_58 : decode cX6_takesMark 58 = .ok (.return_, 1) := by decide +kernel
theorem dX6_losesMark_0 : decode cX6_losesMark 0 = .ok (.aload_n 0, 1) := by decide +kernel
theorem dX6_losesMark_1 : decode cX6_losesMark 1 = .ok (.dup, 1) := by decide +kernel
theorem dX6_losesMark_2 : decode cX6_losesMark 2 = .ok (.getfield 42, 3) := by decide +kernel
theorem dX6_losesMark_5 : decode cX6_losesMark 5 = .ok (.iconst 1, 1) := by decide +kernel
theorem dX6_losesMark_6 : decode cX6_losesMark 6 = .ok (.isub, 1) := by decide +kernel
theorem dX6_losesMark_7 : decode cX6_losesMark 7 = .ok (.putfield 42, 3) := by decide +kernel
theorem dX6_losesMark_10 : decode cX6_losesMark 10 = .ok (.iload_n 1, 1) := by decide +kernel
theorem dX6_losesMark_11 : decode cX6_losesMark 11 = .ok (.istore_n 2, 1) := by decide +kernel
theorem dX6_losesMark_12 : decode cX6_losesMark 12 = .ok (.iload_n 2, 1) := by decide +kernel
theorem dX6_losesMark_13 : decode cX6_losesMark 13 = .ok (.aload_n 0, 1) := by decide +kernel
theorem dX6_losesMark_14 : decode cX6_losesMark 14 = .ok (.getfield 42, 3) := by decide +kernel
theorem dX6_losesMark_17 : decode cX6_losesMark 17 = .ok (.if_icmp .ge 23, 3) := by decide +kernel
theorem dX6_losesMark_20 : decode cX6_losesMark 20 = .ok (.aload_n 0, 1) := by decide +kernel
theorem dX6_losesMark_21 : decode cX6_losesMark 21 = .ok (.getfield 45, 3) := by decide +kernel
theorem dX6_losesMark_24 : decode cX6_losesMark 24 = .ok (.iload_n 2, 1) := by decide +kernel
theorem dX6_losesMark_25 : decode cX6_losesMark 25 = .ok (.aload_n 0, 1) := by decide +kernel
theorem dX6_losesMark_26 : decode cX6_losesMark 26 = .ok (.getfield 45, 3) := by decide +kernel
theorem dX6_losesMark_29 : decode cX6_losesMark 29 = .ok (.iload_n 2, 1) := by decide +kernel
theorem dX6_losesMark_30 : decode cX6_losesMark 30 = .ok (.iconst 1, 1) := by decide +kernel
theorem dX6_losesMark_31 : decode cX6_losesMark 31 = .ok (.iadd, 1) := by decide +kernel
theorem dX6_losesMark_32 : decode cX6_losesMark 32 = .ok (.iaload, 1) := by decide +kernel
theorem dX6_losesMark_33 : decode cX6_losesMark 33 = .ok (.iastore, 1) := by decide +kernel
theorem dX6_losesMark_34 : decode cX6_losesMark 34 = .ok (.iinc 2 1, 3) := by decide +kernel
theorem dX6_losesMark_37 : decode cX6_losesMark 37 = .ok (.goto (-25), 3) := by decide +kernel
theorem dX6_losesMark_40 : decode cX6_losesMark 40 = .ok (.return_, 1) := by decide +kernel
set_option maxRecDepth 20000 in
theorem ggX6_mark_X6_isIn : GoodIn wsX6_mark wsX6_isIn := goodIn_r _ [5] (by decide +kernel) (by decide +kernel)
set_option maxRecDepth 20000 in
theorem gX6_mark_X6_isIn : GoodIn wsX6_mark (va_wsS RX6 60 yX6_isIn wsX6_isIn) := goodIn_app (goodIn_of _ (by decide +kernel)) ggX6_mark_X6_isIn
set_option maxRecDepth 20000 in
theorem ggX6_mark_X6_placeOf : GoodIn wsX6_mark wsX6_placeOf := goodIn_r _ [9, 1, 10, 19, 20, 21, 22, 23, 24, 25, 26, 27, 28, 29, 30, 31, 32, 33, 34, 35, 36, 37] (by decide +kernel) (by decide +kernel)
set_option maxRecDepth 20000 in
theorem gX6_mark_X6_placeOf : GoodIn wsX6_mark (wsV RX6 99 RX6 yX6_placeOf wsX6_placeOf) := goodIn_app (goodIn_of _ (by decide +kernel)) ggX6_mark_X6_placeOf
set_option maxRecDepth 20000 in
theorem ggX6_mark_X6_takesMark : GoodIn wsX6_mark wsX6_takesMark := goodIn_r _ [14, 1, 10, 19, 20, 21, 22, 23, 24, 25, 26, 27, 28, 29, 30, 31, 32, 33, 34, 35, 36, 37] (by decide +kernel) (by decide +kernel)
set_option maxRecDepth 20000 in
theorem gX6_mark_X6_takesMark : GoodIn wsX6_mark (wsV RX6 126 RX6 yX6_takesMark wsX6_takesMark) := goodIn_app (goodIn_of _ (by decide +kernel)) ggX6_mark_X6_takesMark
set_option maxRecDepth 20000 in
theorem ggX6_mark_X6_losesMark : GoodIn wsX6_mark wsX6_losesMark := goodIn_r _ [18, 1, 10, 19, 20, 21, 22, 23, 24, 25, 26, 27, 28, 29, 30, 31, 32, 33, 34, 35, 36, 37] (by decide +kernel) (by decide +kernel)
set_option maxRecDepth 20000 in
theorem gX6_mark_X6_losesMark : GoodIn wsX6_mark (wsV RX6 129 RX6 yX6_losesMark wsX6_losesMark) := goodIn_app (goodIn_of _ (by decide +kernel)) ggX6_mark_X6_losesMark
theorem dX6_mark_0 : decode cX6_mark 0 = .ok (.iload_n 1, 1) := by decide +kernel
theorem dX6_mark_1 : decode cX6_mark 1 = .ok (.bipush 20, 2) := by decide +kernel
theorem dX6_mark_3 : decode cX6_mark 3 = .ok (.sipush 400, 3) := by decide +kernel
theorem dX6_mark_6 : decode cX6_mark 6 = .ok (.invokestatic 60, 3) := by decide +kernel
theorem dX6_mark_9 : decode cX6_mark 9 = .ok (.ifCond .ne 6, 3) := by decide +kernel
theorem dX6_mark_12 : decode cX6_mark 12 = .ok (.bipush (-2), 2) := by decide +kernel
theorem dX6_mark_14 : decode cX6_mark 14 = .ok (.ireturn, 1) := by decide +kernel
theorem dX6_mark_15 : decode cX6_mark 15 = .ok (.aload_n 0, 1) := by decide +kernel
theorem dX6_mark_16 : decode cX6_mark 16 = .ok (.iload_n 1, 1) := by decide +kernel
theorem dX6_mark_17 : decode cX6_mark 17 = .ok (.invokevirtual 99, 3) := by decide +kernel
theorem dX6_mark_20 : decode cX6_mark 20 = .ok (.istore_n 3, 1) := by decide +kernel
theorem dX6_mark_21 : decode cX6_mark 21 = .ok (.iload_n 2, 1) := by decide +kernel
theorem dX6_mark_22 : decode cX6_mark 22 = .ok (.iload_n 3, 1) := by decide +kernel
theorem dX6_mark_23 : decode cX6_mark 23 = .ok (.bipush (-9), 2) := by decide +kernel
theorem dX6_mark_25 : decode cX6_mark 25 = .ok (.if_icmp .eq 7, 3) := by decide +kernel
theorem dX6_mark_28 : decode cX6_mark 28 = .ok (.iconst 1, 1) := by decide +kernel
theorem dX6_mark_29 : decode cX6_mark 29 = .ok (.goto 4, 3) := by decide +kernel
theorem dX6_mark_32 : decode cX6_mark 32 = .ok (.iconst 0, 1) := by decide +kernel
theorem dX6_mark_33 : decode cX6_mark 33 = .ok (.if_icmp .ne 5, 3) := by decide +kernel
theorem dX6_mark_36 : decode cX6_mark 36 = .ok (.iconst 0, 1) := by decide +kernel
theorem dX6_mark_37 : decode cX6_mark 37 = .ok (.ireturn, 1) := by decide +kernel
theorem dX6_mark_38 : decode cX6_mark 38 = .ok (.iload_n 2, 1) := by decide +kernel
theorem dX6_mark_39 : decode cX6_mark 39 = .ok (.ifCond .eq 15, 3) := by decide +kernel
theorem dX6_mark_42 : decode cX6_mark 42 = .ok (.aload_n 0, 1) := by decide +kernel
theorem dX6_mark_43 : decode cX6_mark 43 = .ok (.getfield 42, 3) := by decide +kernel
theorem dX6_mark_46 : decode cX6_mark 46 = .ok (.bipush 16, 2) := by decide +kernel
theorem dX6_mark_48 : decode cX6_mark 48 = .ok (.if_icmp .ne 6, 3) := by decide +kernel
theorem dX6_mark_51 : decode cX6_mark 51 = .ok (.bipush (-4), 2) := by decide +kernel
theorem dX6_mark_53 : decode cX6_mark 53 = .ok (.ireturn, 1) := by decide +kernel
theorem dX6_mark_54 : decode cX6_mark 54 = .ok (.iload_n 2, 1) := by decide +kernel
theorem dX6_mark_55 : decode cX6_mark 55 = .ok (.ifCond .eq 11, 3) := by decide +kernel
theorem dX6_mark_58 : decode cX6_mark 58 = .ok (.aload_n 0, 1) := by decide +kernel
theorem dX6_mark_59 : decode cX6_mark 59 = .ok (.iload_n 1, 1) := by decide +kernel
theorem dX6_mark_60 : decode cX6_mark 60 = .ok (.invokevirtual 126, 3) := by decide +kernel
theorem dX6_mark_63 : decode cX6_mark 63 = .ok (.goto 8, 3) := by decide +kernel
theorem dX6_mark_66 : decode cX6_mark 66 = .ok (.aload_n 0, 1) := by decide +kernel
theorem dX6_mark_67 : decode cX6_mark 67 = .ok (.iload_n 3, 1) := by decide +kernel
theorem dX6_mark_68 : decode cX6_mark 68 = .ok (.invokevirtual 129, 3) := by decide +kernel
theorem dX6_mark_71 : decode cX6_mark 71 = .ok (.iconst 1, 1) := by decide +kernel
theorem dX6_mark_72 : decode cX6_mark 72 = .ok (.ireturn, 1) := by decide +kernel
set_option maxRecDepth 20000 in
theorem ggX6_markAt_X6_isIn : GoodIn wsX6_markAt wsX6_isIn := goodIn_r _ [6] (by decide +kernel) (by decide +kernel)
set_option maxRecDepth 20000 in
theorem gX6_markAt_X6_isIn : GoodIn wsX6_markAt (va_wsS RX6 60 yX6_isIn wsX6_isIn) := goodIn_app (goodIn_of _ (by decide +kernel)) ggX6_markAt_X6_isIn
theorem dX6_markAt_0 : decode cX6_markAt 0 = .ok (.iload_n 1, 1) := by decide +kernel
theorem dX6_markAt_1 : decode cX6_markAt 1 = .ok (.iconst 0, 1) := by decide +kernel
theorem dX6_markAt_2 : decode cX6_markAt 2 = .ok (.bipush 15, 2) := by decide +kernel
theorem dX6_markAt_4 : decode cX6_markAt 4 = .ok (.invokestatic 60, 3) := by decide +kernel
theorem dX6_markAt_7 : decode cX6_markAt 7 = .ok (.ifCond .ne 6, 3) := by decide +kernel
theorem dX6_markAt_10 : decode cX6_markAt 10 = .ok (.bipush (-2), 2) := by decide +kernel
theorem dX6_markAt_12 : decode cX6_markAt 12 = .ok (.ireturn, 1) := by decide +kernel
theorem dX6_markAt_13 : decode cX6_markAt 13 = .ok (.iload_n 1, 1) := by decide +kernel
theorem dX6_markAt_14 : decode cX6_markAt 14 = .ok (.aload_n 0, 1) := by decide +kernel
theorem dX6_markAt_15 : decode cX6_markAt 15 = .ok (.getfield 42, 3) := by decide +kernel
theorem dX6_markAt_18 : decode cX6_markAt 18 = .ok (.if_icmp .ge 12, 3) := by decide +kernel
theorem dX6_markAt_21 : decode cX6_markAt 21 = .ok (.aload_n 0, 1) := by decide +kernel
theorem dX6_markAt_22 : decode cX6_markAt 22 = .ok (.getfield 45, 3) := by decide +kernel
theorem dX6_markAt_25 : decode cX6_markAt 25 = .ok (.iload_n 1, 1) := by decide +kernel
theorem dX6_markAt_26 : decode cX6_markAt 26 = .ok (.iaload, 1) := by decide +kernel
theorem dX6_markAt_27 : decode cX6_markAt 27 = .ok (.goto 5, 3) := by decide +kernel
theorem dX6_markAt_30 : decode cX6_markAt 30 = .ok (.bipush (-9), 2) := by decide +kernel
theorem dX6_markAt_32 : decode cX6_markAt 32 = .ok (.ireturn, 1) := by decide +kernel
theorem dX6_apart_0 : decode cX6_apart 0 = .ok (.lload_n 0, 1) := by decide +kernel
theorem dX6_apart_1 : decode cX6_apart 1 = .ok (.lload_n 2, 1) := by decide +kernel
theorem dX6_apart_2 : decode cX6_apart 2 = .ok (.lcmp, 1) := by decide +kernel
theorem dX6_apart_3 : decode cX6_apart 3 = .ok (.ifCond .le 9, 3) := by decide +kernel
theorem dX6_apart_6 : decode cX6_apart 6 = .ok (.lload_n 0, 1) := by decide +kernel
theorem dX6_apart_7 : decode cX6_apart 7 = .ok (.lload_n 2, 1) := by decide +kernel
theorem dX6_apart_8 : decode cX6_apart 8 = .ok (.lsub, 1) := by decide +kernel
theorem dX6_apart_9 : decode cX6_apart 9 = .ok (.goto 6, 3) := by decide +kernel
theorem dX6_apart_12 : decode cX6_apart 12 = .ok (.lload_n 2, 1) := by decide +kernel
theorem dX6_apart_13 : decode cX6_apart 13 = .ok (.lload_n 0, 1) := by decide +kernel
theorem dX6_apart_14 : decode cX6_apart 14 = .ok (.lsub, 1) := by decide +kernel
theorem dX6_apart_15 : decode cX6_apart 15 = .ok (.lreturn, 1) := by decide +kernel
set_option maxRecDepth 20000 in
theorem ggX6_nearestTo_X6_apart : GoodIn wsX6_nearestTo wsX6_apart := goodIn_r _ [9] (by decide +kernel) (by decide +kernel)
set_option maxRecDepth 20000 in
theorem gX6_nearestTo_X6_apart : GoodIn wsX6_nearestTo (va_wsS RX6 132 yX6_apart wsX6_apart) := goodIn_app (goodIn_of _ (by decide +kernel)) ggX6_nearestTo_X6_apart
theorem dX6_nearestTo_0 : decode cX6_nearestTo 0 = .ok (.bipush (-9), 2) := by decide +kernel
theorem dX6_nearestTo_2 : decode cX6_nearestTo 2 = .ok (.istore_n 2, 1) := by decide +kernel
theorem dX6_nearestTo_3 : decode cX6_nearestTo 3 = .ok (.lconst 0, 1) := by decide +kernel
theorem dX6_nearestTo_4 : decode cX6_nearestTo 4 = .ok (.lstore_n 3, 1) := by decide +kernel
theorem dX6_nearestTo_5 : decode cX6_nearestTo 5 = .ok (.iconst 0, 1) := by decide +kernel
theorem dX6_nearestTo_6 : decode cX6_nearestTo 6 = .ok (.istore 5, 2) := by decide +kernel
theorem dX6_nearestTo_8 : decode cX6_nearestTo 8 = .ok (.iload 5, 2) := by decide +kernel
theorem dX6_nearestTo_10 : decode cX6_nearestTo 10 = .ok (.aload_n 0, 1) := by decide +kernel
theorem dX6_nearestTo_11 : decode cX6_nearestTo 11 = .ok (.getfield 42, 3) := by decide +kernel
theorem dX6_nearestTo_14 : decode cX6_nearestTo 14 = .ok (.if_icmp .ge 71, 3) := by decide +kernel
theorem dX6_nearestTo_17 : decode cX6_nearestTo 17 = .ok (.aload_n 0, 1) := by decide +kernel
theorem dX6_nearestTo_18 : decode cX6_nearestTo 18 = .ok (.getfield 26, 3) := by decide +kernel
theorem dX6_nearestTo_21 : decode cX6_nearestTo 21 = .ok (.iload_n 1, 1) := by decide +kernel
theorem dX6_nearestTo_22 : decode cX6_nearestTo 22 = .ok (.laload, 1) := by decide +kernel
theorem dX6_nearestTo_23 : decode cX6_nearestTo 23 = .ok (.lconst 0, 1) := by decide +kernel
theorem dX6_nearestTo_24 : decode cX6_nearestTo 24 = .ok (.lcmp, 1) := by decide +kernel
theorem dX6_nearestTo_25 : decode cX6_nearestTo 25 = .ok (.ifCond .le 60, 3) := by decide +kernel
theorem dX6_nearestTo_28 : decode cX6_nearestTo 28 = .ok (.aload_n 0, 1) := by decide +kernel
theorem dX6_nearestTo_29 : decode cX6_nearestTo 29 = .ok (.getfield 45, 3) := by decide +kernel
theorem dX6_nearestTo_32 : decode cX6_nearestTo 32 = .ok (.iload 5, 2) := by decide +kernel
theorem dX6_nearestTo_34 : decode cX6_nearestTo 34 = .ok (.iaload, 1) := by decide +kernel
theorem dX6_nearestTo_35 : decode cX6_nearestTo 35 = .ok (.i2l, 1) := by decide +kernel
theorem dX6_nearestTo_36 : decode cX6_nearestTo 36 = .ok (.aload_n 0, 1) := by decide +kernel
theorem dX6_nearestTo_37 : decode cX6_nearestTo 37 = .ok (.getfield 30, 3) := by decide +kernel
theorem dX6_nearestTo_40 : decode cX6_nearestTo 40 = .ok (.iload_n 1, 1) := by decide +kernel
theorem dX6_nearestTo_41 : decode cX6_nearestTo 41 = .ok (.laload, 1) := by decide +kernel
theorem dX6_nearestTo_42 : decode cX6_nearestTo 42 = .ok (.lmul, 1) := by decide +kernel
theorem dX6_nearestTo_43 : decode cX6_nearestTo 43 = .ok (.aload_n 0, 1) := by decide +kernel
theorem dX6_nearestTo_44 : decode cX6_nearestTo 44 = .ok (.getfield 16, 3) := by decide +kernel
theorem dX6_nearestTo_47 : decode cX6_nearestTo 47 = .ok (.i2l, 1) := by decide +kernel
theorem dX6_nearestTo_48 : decode cX6_nearestTo 48 = .ok (.aload_n 0, 1) := by decide +kernel
theorem dX6_nearestTo_49 : decode cX6_nearestTo 49 = .ok (.getfield 26, 3) := by decide +kernel
theorem dX6_nearestTo_52 : decode cX6_nearestTo 52 = .ok (.iload_n 1, 1) := by decide +kernel
theorem dX6_nearestTo_53 : decode cX6_nearestTo 53 = .ok (.laload, 1) := by decide +kernel
theorem dX6_nearestTo_54 : decode cX6_nearestTo 54 = .ok (.lmul, 1) := by decide +kernel
theorem dX6_nearestTo_55 : decode cX6_nearestTo 55 = .ok (.invokestatic 132, 3) := by decide +kernel
theorem dX6_nearestTo_58 : decode cX6_nearestTo 58 = .ok (.lstore 6, 2) := by decide +kernel
theorem dX6_nearestTo_60 : decode cX6_nearestTo 60 = .ok (.iload_n 2, 1) := by decide +kernel
theorem dX6_nearestTo_61 : decode cX6_nearestTo 61 = .ok (.bipush (-9), 2) := by decide +kernel
theorem dX6_nearestTo_63 : decode cX6_nearestTo 63 = .ok (.if_icmp .eq 10, 3) := by decide +kernel
theorem dX6_nearestTo_66 : decode cX6_nearestTo 66 = .ok (.lload 6, 2) := by decide +kernel
theorem dX6_nearestTo_68 : decode cX6_nearestTo 68 = .ok (.lload_n 3, 1) := by decide +kernel
theorem dX6_nearestTo_69 : decode cX6_nearestTo 69 = .ok (.lcmp, 1) := by decide +kernel
theorem dX6_nearestTo_70 : decode cX6_nearestTo 70 = .ok (.ifCond .ge 9, 3) := by decide +kernel
theorem dX6_nearestTo_73 : decode cX6_nearestTo 73 = .ok (.iload 5, 2) := by decide +kernel
theorem dX6_nearestTo_75 : decode cX6_nearestTo 75 = .ok (.istore_n 2, 1) := by decide +kernel
theorem dX6_nearestTo_76 : decode cX6_nearestTo 76 = .ok (.lload 6, 2) := by decide +kernel
theorem dX6_nearestTo_78 : decode cX6_nearestTo 78 = .ok (.lstore_n 3, 1) := by decide +kernel
theorem dX6_nearestTo_79 : decode cX6_nearestTo 79 = .ok (.iinc 5 1, 3) := by decide +kernel
theorem dX6_nearestTo_82 : decode cX6_nearestTo 82 = .ok (.goto (-74), 3) := by decide +kernel
theorem dX6_nearestTo_85 : decode cX6_nearestTo 85 = .ok (.iload_n 2, 1) := by decide +kernel
theorem dX6_nearestTo_86 : decode cX6_nearestTo 86 = .ok (.ireturn, 1) := by decide +kernel
set_option maxRecDepth 20000 in
theorem ggX6_nearest_X6_isSection : GoodIn wsX6_nearest wsX6_isSection := goodIn_r _ [6, 7, 8, 9, 5, 10, 51, 52, 53, 54, 55, 56, 57, 58, 59, 60, 61, 62, 63, 64, 65, 66, 67, 68, 69] (by decide +kernel) (by decide +kernel)
set_option maxRecDepth 20000 in
theorem gX6_nearest_X6_isSection : GoodIn wsX6_nearest (wsV RX6 67 RX6 yX6_isSection wsX6_isSection) := goodIn_app (goodIn_of _ (by decide +kernel)) ggX6_nearest_X6_isSection
set_option maxRecDepth 20000 in
theorem ggX6_nearest_X6_spreadAll : GoodIn wsX6_nearest wsX6_spreadAll := goodIn_r _ [14, 15, 16, 17, 18, 5, 19, 20, 21, 22, 23, 24, 25, 26, 27, 28, 29, 30, 31, 32, 33, 34, 35, 36, 37, 38, 39, 40, 41, 51, 52, 53, 54, 55, 56, 57, 58, 59, 60, 61, 62, 63, 64, 65, 66, 67, 68, 69] (by decide +kernel) (by decide +kernel)
set_option maxRecDepth 20000 in
theorem gX6_nearest_X6_spreadAll : GoodIn wsX6_nearest (wsV RX6 102 RX6 yX6_spreadAll wsX6_spreadAll) := goodIn_app (goodIn_of _ (by decide +kernel)) ggX6_nearest_X6_spreadAll
set_option maxRecDepth 20000 in
theorem ggX6_nearest_X6_nearestTo : GoodIn wsX6_nearest wsX6_nearestTo := goodIn_r _ [45, 46, 22, 1, 23, 47, 48, 49, 5, 50, 51, 52, 53, 54, 55, 56, 57, 58, 59, 60, 61, 62, 63, 64, 65, 66, 67, 68, 69] (by decide +kernel) (by decide +kernel)
set_option maxRecDepth 20000 in
theorem gX6_nearest_X6_nearestTo : GoodIn wsX6_nearest (wsV RX6 135 RX6 yX6_nearestTo wsX6_nearestTo) := goodIn_app (goodIn_of _ (by decide +kernel)) ggX6_nearest_X6_nearestTo
theorem dX6_nearest_0 : decode cX6_nearest 0 = .ok (.aload_n 0, 1) := by decide +kernel
theorem dX6_nearest_1 : decode cX6_nearest 1 = .ok (.iload_n 1, 1) := by decide +kernel
theorem dX6_nearest_2 : decode cX6_nearest 2 = .ok (.invokevirtual 67, 3) := by decide +kernel
theorem dX6_nearest_5 : decode cX6_nearest 5 = .ok (.ifCond .ne 5, 3) := by decide +kernel
theorem dX6_nearest_8 : decode cX6_nearest 8 = .ok (.iconst (-1), 1) := by decide +kernel
theorem dX6_nearest_9 : decode cX6_nearest 9 = .ok (.ireturn, 1) := by decide +kernel
theorem dX6_nearest_10 : decode cX6_nearest 10 = .ok (.aload_n 0, 1) := by decide +kernel
theorem dX6_nearest_11 : decode cX6_nearest 11 = .ok (.iconst 0, 1) := by decide +kernel
theorem dX6_nearest_12 : decode cX6_nearest 12 = .ok (.invokevirtual 102, 3) := by decide +kernel
theorem dX6_nearest_15 : decode cX6_nearest 15 = .ok (.aload_n 0, 1) := by decide +kernel
theorem dX6_nearest_16 : decode cX6_nearest 16 = .ok (.iload_n 1, 1) := by decide +kernel
theorem dX6_nearest_17 : decode cX6_nearest 17 = .ok (.invokevirtual 135, 3) := by decide +kernel
theorem dX6_nearest_20 : decode cX6_nearest 20 = .ok (.istore_n 2, 1) := by decide +kernel
theorem dX6_nearest_21 : decode cX6_nearest 21 = .ok (.iload_n 2, 1) := by decide +kernel
theorem dX6_nearest_22 : decode cX6_nearest 22 = .ok (.bipush (-9), 2) := by decide +kernel
theorem dX6_nearest_24 : decode cX6_nearest 24 = .ok (.if_icmp .ne 8, 3) := by decide +kernel
theorem dX6_nearest_27 : decode cX6_nearest 27 = .ok (.bipush (-9), 2) := by decide +kernel
theorem dX6_nearest_29 : decode cX6_nearest 29 = .ok (.goto 9, 3) := by decide +kernel
theorem dX6_nearest_32 : decode cX6_nearest 32 = .ok (.aload_n 0, 1) := by decide +kernel
theorem dX6_nearest_33 : decode cX6_nearest 33 = .ok (.getfield 45, 3) := by decide +kernel
theorem dX6_nearest_36 : decode cX6_nearest 36 = .ok (.iload_n 2, 1) := by decide +kernel
theorem dX6_nearest_37 : decode cX6_nearest 37 = .ok (.iaload, 1) := by decide +kernel
theorem dX6_nearest_38 : decode cX6_nearest 38 = .ok (.ireturn, 1) := by decide +kernel
set_option maxRecDepth 20000 in
theorem ggX6_away_X6_isSection : GoodIn wsX6_away wsX6_isSection := goodIn_r _ [12, 13, 14, 15, 11, 16, 57, 58, 59, 60, 61, 62, 63, 64, 65, 66, 67, 68, 69, 70, 71, 72, 73, 74, 75] (by decide +kernel) (by decide +kernel)
set_option maxRecDepth 20000 in
theorem gX6_away_X6_isSection : GoodIn wsX6_away (wsV RX6 67 RX6 yX6_isSection wsX6_isSection) := goodIn_app (goodIn_of _ (by decide +kernel)) ggX6_away_X6_isSection
set_option maxRecDepth 20000 in
theorem ggX6_away_X6_isIn : GoodIn wsX6_away wsX6_isIn := goodIn_r _ [16] (by decide +kernel) (by decide +kernel)
set_option maxRecDepth 20000 in
theorem gX6_away_X6_isIn : GoodIn wsX6_away (va_wsS RX6 60 yX6_isIn wsX6_isIn) := goodIn_app (goodIn_of _ (by decide +kernel)) ggX6_away_X6_isIn
set_option maxRecDepth 20000 in
theorem ggX6_away_X6_spreadAll : GoodIn wsX6_away wsX6_spreadAll := goodIn_r _ [20, 21, 22, 23, 24, 11, 25, 26, 27, 7, 5, 28, 29, 30, 31, 32, 33, 34, 35, 36, 37, 38, 39, 40, 41, 42, 43, 44, 45, 57, 58, 59, 60, 61, 62, 63, 64, 65, 66, 67, 68, 69, 70, 71, 72, 73, 74, 75] (by decide +kernel) (by decide +kernel)
set_option maxRecDepth 20000 in
theorem gX6_away_X6_spreadAll : GoodIn wsX6_away (wsV RX6 102 RX6 yX6_spreadAll wsX6_spreadAll) := goodIn_app (goodIn_of _ (by decide +kernel)) ggX6_away_X6_spreadAll
set_option maxRecDepth 20000 in
theorem ggX6_away_X6_nearestTo : GoodIn wsX6_away wsX6_nearestTo := goodIn_r _ [49, 50, 7, 4, 5, 6, 51, 52, 11, 53, 57, 58, 59, 60, 61, 62, 63, 64, 65, 66, 67, 68, 69, 70, 71, 72, 73, 74, 75] (by decide +kernel) (by decide +kernel)
set_option maxRecDepth 20000 in
theorem gX6_away_X6_nearestTo : GoodIn wsX6_away (wsV RX6 135 RX6 yX6_nearestTo wsX6_nearestTo) := goodIn_app (goodIn_of _ (by decide +kernel)) ggX6_away_X6_nearestTo
set_option maxRecDepth 20000 in
theorem ggX6_away_X6_apart : GoodIn wsX6_away wsX6_apart := goodIn_r _ [53] (by decide +kernel) (by decide +kernel)
set_option maxRecDepth 20000 in
theorem gX6_away_X6_apart : GoodIn wsX6_away (va_wsS RX6 132 yX6_apart wsX6_apart) := goodIn_app (goodIn_of _ (by decide +kernel)) ggX6_away_X6_apart
set_option maxRecDepth 20000 in
theorem ggX6_away_X6_told : GoodIn wsX6_away wsX6_told := goodIn_r _ [56, 43, 44, 11, 45] (by decide +kernel) (by decide +kernel)
set_option maxRecDepth 20000 in
theorem gX6_away_X6_told : GoodIn wsX6_away (va_wsS RX6 122 yX6_told wsX6_told) := goodIn_app (goodIn_of _ (by decide +kernel)) ggX6_away_X6_told
theorem dX6_away_0 : decode cX6_away 0 = .ok (.aload_n 0, 1) := by decide +kernel
theorem dX6_away_1 : decode cX6_away 1 = .ok (.iload_n 1, 1) := by decide +kernel
theorem dX6_away_2 : decode cX6_away 2 = .ok (.invokevirtual 67, 3) := by decide +kernel
theorem dX6_away_5 : decode cX6_away 5 = .ok (.ifCond .ne 7, 3) := by decide +kernel
theorem dX6_away_8 : decode cX6_away 8 = .ok (.ldc2_w 116, 3) := by decide +kernel
theorem dX6_away_11 : decode cX6_away 11 = .ok (.lreturn, 1) := by decide +kernel
theorem dX6_away_12 : decode cX6_away 12 = .ok (.iload_n 2, 1) := by decide +kernel
theorem dX6_away_13 : decode cX6_away 13 = .ok (.iconst 0, 1) := by decide +kernel
theorem dX6_away_14 : decode cX6_away 14 = .ok (.iconst 1, 1) := by decide +kernel
theorem dX6_away_15 : decode cX6_away 15 = .ok (.invokestatic 60, 3) := by decide +kernel
theorem dX6_away_18 : decode cX6_away 18 = .ok (.ifCond .ne 7, 3) := by decide +kernel
theorem dX6_away_21 : decode cX6_away 21 = .ok (.ldc2_w 118, 3) := by decide +kernel
theorem dX6_away_24 : decode cX6_away 24 = .ok (.lreturn, 1) := by decide +kernel
theorem dX6_away_25 : decode cX6_away 25 = .ok (.aload_n 0, 1) := by decide +kernel
theorem dX6_away_26 : decode cX6_away 26 = .ok (.iconst 0, 1) := by decide +kernel
theorem dX6_away_27 : decode cX6_away 27 = .ok (.invokevirtual 102, 3) := by decide +kernel
theorem dX6_away_30 : decode cX6_away 30 = .ok (.aload_n 0, 1) := by decide +kernel
theorem dX6_away_31 : decode cX6_away 31 = .ok (.iload_n 1, 1) := by decide +kernel
theorem dX6_away_32 : decode cX6_away 32 = .ok (.invokevirtual 135, 3) := by decide +kernel
theorem dX6_away_35 : decode cX6_away 35 = .ok (.istore_n 3, 1) := by decide +kernel
theorem dX6_away_36 : decode cX6_away 36 = .ok (.iload_n 3, 1) := by decide +kernel
theorem dX6_away_37 : decode cX6_away 37 = .ok (.bipush (-9), 2) := by decide +kernel
theorem dX6_away_39 : decode cX6_away 39 = .ok (.if_icmp .ne 7, 3) := by decide +kernel
theorem dX6_away_42 : decode cX6_away 42 = .ok (.ldc2_w 120, 3) := by decide +kernel
theorem dX6_away_45 : decode cX6_away 45 = .ok (.lreturn, 1) := by decide +kernel
theorem dX6_away_46 : decode cX6_away 46 = .ok (.aload_n 0, 1) := by decide +kernel
theorem dX6_away_47 : decode cX6_away 47 = .ok (.getfield 45, 3) := by decide +kernel
theorem dX6_away_50 : decode cX6_away 50 = .ok (.iload_n 3, 1) := by decide +kernel
theorem dX6_away_51 : decode cX6_away 51 = .ok (.iaload, 1) := by decide +kernel
theorem dX6_away_52 : decode cX6_away 52 = .ok (.i2l, 1) := by decide +kernel
theorem dX6_away_53 : decode cX6_away 53 = .ok (.aload_n 0, 1) := by decide +kernel
theorem dX6_away_54 : decode cX6_away 54 = .ok (.getfield 30, 3) := by decide +kernel
theorem dX6_away_57 : decode cX6_away 57 = .ok (.iload_n 1, 1) := by decide +kernel
theorem dX6_away_58 : decode cX6_away 58 = .ok (.laload, 1) := by decide +kernel
theorem dX6_away_59 : decode cX6_away 59 = .ok (.lmul, 1) := by decide +kernel
theorem dX6_away_60 : decode cX6_away 60 = .ok (.aload_n 0, 1) := by decide +kernel
theorem dX6_away_61 : decode cX6_away 61 = .ok (.getfield 16, 3) := by decide +kernel
theorem dX6_away_64 : decode cX6_away 64 = .ok (.i2l, 1) := by decide +kernel
theorem dX6_away_65 : decode cX6_away 65 = .ok (.aload_n 0, 1) := by decide +kernel
theorem dX6_away_66 : decode cX6_away 66 = .ok (.getfield 26, 3) := by decide +kernel
theorem dX6_away_69 : decode cX6_away 69 = .ok (.iload_n 1, 1) := by decide +kernel
theorem dX6_away_70 : decode cX6_away 70 = .ok (.laload, 1) := by decide +kernel
theorem dX6_away_71 : decode cX6_away 71 = .ok (.lmul, 1) := by decide +kernel
theorem dX6_away_72 : decode cX6_away 72 = .ok (.invokestatic 132, 3) := by decide +kernel
theorem dX6_away_75 : decode cX6_away 75 = .ok (.lstore 4, 2) := by decide +kernel
theorem dX6_away_77 : decode cX6_away 77 = .ok (.lload 4, 2) := by decide +kernel
theorem dX6_away_79 : decode cX6_away 79 = .ok (.lconst 0, 1) := by decide +kernel
theorem dX6_away_80 : decode cX6_away 80 = .ok (.lcmp, 1) := by decide +kernel
theorem dX6_away_81 : decode cX6_away 81 = .ok (.ifCond .ne 8, 3) := by decide +kernel
theorem dX6_away_84 : decode cX6_away 84 = .ok (.iload_n 2, 1) := by decide +kernel
theorem dX6_away_85 : decode cX6_away 85 = .ok (.i2l, 1) := by decide +kernel
theorem dX6_away_86 : decode cX6_away 86 = .ok (.goto 15, 3) := by decide +kernel
theorem dX6_away_89 : decode cX6_away 89 = .ok (.lload 4, 2) := by decide +kernel
theorem dX6_away_91 : decode cX6_away 91 = .ok (.aload_n 0, 1) := by decide +kernel
theorem dX6_away_92 : decode cX6_away 92 = .ok (.getfield 30, 3) := by decide +kernel
theorem dX6_away_95 : decode cX6_away 95 = .ok (.iload_n 1, 1) := by decide +kernel
theorem dX6_away_96 : decode cX6_away 96 = .ok (.laload, 1) := by decide +kernel
theorem dX6_away_97 : decode cX6_away 97 = .ok (.iload_n 2, 1) := by decide +kernel
theorem dX6_away_98 : decode cX6_away 98 = .ok (.invokestatic 122, 3) := by decide +kernel
theorem dX6_away_101 : decode cX6_away 101 = .ok (.lreturn, 1) := by decide +kernel
set_option maxRecDepth 20000 in
theorem ggX6_pin_X6_isSection : GoodIn wsX6_pin wsX6_isSection := goodIn_r _ [6, 7, 8, 9, 5, 10, 11, 12, 13, 14, 15, 16, 17, 18, 19, 20, 21, 22, 23, 24, 25, 26, 27, 28, 29] (by decide +kernel) (by decide +kernel)
set_option maxRecDepth 20000 in
theorem gX6_pin_X6_isSection : GoodIn wsX6_pin (wsV RX6 67 RX6 yX6_isSection wsX6_isSection) := goodIn_app (goodIn_of _ (by decide +kernel)) ggX6_pin_X6_isSection
set_option maxRecDepth 20000 in
theorem ggX6_pin_X6_isIn : GoodIn wsX6_pin wsX6_isIn := goodIn_r _ [10] (by decide +kernel) (by decide +kernel)
set_option maxRecDepth 20000 in
theorem gX6_pin_X6_isIn : GoodIn wsX6_pin (va_wsS RX6 60 yX6_isIn wsX6_isIn) := goodIn_app (goodIn_of _ (by decide +kernel)) ggX6_pin_X6_isIn
theorem dX6_pin_0 : decode cX6_pin 0 = .ok (.aload_n 0, 1) := by decide +kernel
theorem dX6_pin_1 : decode cX6_pin 1 = .ok (.iload_n 1, 1) := by decide +kernel
theorem dX6_pin_2 : decode cX6_pin 2 = .ok (.invokevirtual 67, 3) := by decide +kernel
theorem dX6_pin_5 : decode cX6_pin 5 = .ok (.ifCond .ne 5, 3) := by decide +kernel
theorem dX6_pin_8 : decode cX6_pin 8 = .ok (.iconst (-1), 1) := by decide +kernel
theorem dX6_pin_9 : decode cX6_pin 9 = .ok (.ireturn, 1) := by decide +kernel
theorem dX6_pin_10 : decode cX6_pin 10 = .ok (.iload_n 2, 1) := by decide +kernel
theorem dX6_pin_11 : decode cX6_pin 11 = .ok (.bipush (-9), 2) := by decide +kernel
theorem dX6_pin_13 : decode cX6_pin 13 = .ok (.if_icmp .eq 18, 3) := by decide +kernel
theorem dX6_pin_16 : decode cX6_pin 16 = .ok (.iload_n 2, 1) := by decide +kernel
theorem dX6_pin_17 : decode cX6_pin 17 = .ok (.bipush 20, 2) := by decide +kernel
theorem dX6_pin_19 : decode cX6_pin 19 = .ok (.sipush 400, 3) := by decide +kernel
theorem dX6_pin_22 : decode cX6_pin 22 = .ok (.invokestatic 60, 3) := by decide +kernel
theorem dX6_pin_25 : decode cX6_pin 25 = .ok (.ifCond .ne 6, 3) := by decide +kernel
theorem dX6_pin_28 : decode cX6_pin 28 = .ok (.bipush (-2), 2) := by decide +kernel
theorem dX6_pin_30 : decode cX6_pin 30 = .ok (.ireturn, 1) := by decide +kernel
theorem dX6_pin_31 : decode cX6_pin 31 = .ok (.aload_n 0, 1) := by decide +kernel
theorem dX6_pin_32 : decode cX6_pin 32 = .ok (.getfield 13, 3) := by decide +kernel
theorem dX6_pin_35 : decode cX6_pin 35 = .ok (.iload_n 1, 1) := by decide +kernel
theorem dX6_pin_36 : decode cX6_pin 36 = .ok (.iaload, 1) := by decide +kernel
theorem dX6_pin_37 : decode cX6_pin 37 = .ok (.istore_n 3, 1) := by decide +kernel
theorem dX6_pin_38 : decode cX6_pin 38 = .ok (.aload_n 0, 1) := by decide +kernel
theorem dX6_pin_39 : decode cX6_pin 39 = .ok (.getfield 13, 3) := by decide +kernel
theorem dX6_pin_42 : decode cX6_pin 42 = .ok (.iload_n 1, 1) := by decide +kernel
theorem dX6_pin_43 : decode cX6_pin 43 = .ok (.iload_n 2, 1) := by decide +kernel
theorem dX6_pin_44 : decode cX6_pin 44 = .ok (.iastore, 1) := by decide +kernel
theorem dX6_pin_45 : decode cX6_pin 45 = .ok (.iload_n 3, 1) := by decide +kernel
theorem dX6_pin_46 : decode cX6_pin 46 = .ok (.ireturn, 1) := by decide +kernel
set_option maxRecDepth 20000 in
theorem ggX6_driftBy_X6_ticksOf : GoodIn wsX6_driftBy wsX6_ticksOf := goodIn_r _ [5] (by decide +kernel) (by decide +kernel)
set_option maxRecDepth 20000 in
theorem gX6_driftBy_X6_ticksOf : GoodIn wsX6_driftBy (va_wsS RX6 77 yX6_ticksOf wsX6_ticksOf) := goodIn_app (goodIn_of _ (by decide +kernel)) ggX6_driftBy_X6_ticksOf
theorem dX6_driftBy_0 : decode cX6_driftBy 0 = .ok (.iload_n 3, 1) := by decide +kernel
theorem dX6_driftBy_1 : decode cX6_driftBy 1 = .ok (.aload_n 0, 1) := by decide +kernel
theorem dX6_driftBy_2 : decode cX6_driftBy 2 = .ok (.getfield 20, 3) := by decide +kernel
theorem dX6_driftBy_5 : decode cX6_driftBy 5 = .ok (.iconst 5, 1) := by decide +kernel
theorem dX6_driftBy_6 : decode cX6_driftBy 6 = .ok (.iload_n 1, 1) := by decide +kernel
theorem dX6_driftBy_7 : decode cX6_driftBy 7 = .ok (.imul, 1) := by decide +kernel
theorem dX6_driftBy_8 : decode cX6_driftBy 8 = .ok (.iconst 1, 1) := by decide +kernel
theorem dX6_driftBy_9 : decode cX6_driftBy 9 = .ok (.iadd, 1) := by decide +kernel
theorem dX6_driftBy_10 : decode cX6_driftBy 10 = .ok (.iaload, 1) := by decide +kernel
theorem dX6_driftBy_11 : decode cX6_driftBy 11 = .ok (.invokestatic 77, 3) := by decide +kernel
theorem dX6_driftBy_14 : decode cX6_driftBy 14 = .ok (.imul, 1) := by decide +kernel
theorem dX6_driftBy_15 : decode cX6_driftBy 15 = .ok (.iload_n 2, 1) := by decide +kernel
theorem dX6_driftBy_16 : decode cX6_driftBy 16 = .ok (.aload_n 0, 1) := by decide +kernel
theorem dX6_driftBy_17 : decode cX6_driftBy 17 = .ok (.getfield 20, 3) := by decide +kernel
theorem dX6_driftBy_20 : decode cX6_driftBy 20 = .ok (.iconst 5, 1) := by decide +kernel
theorem dX6_driftBy_21 : decode cX6_driftBy 21 = .ok (.iload_n 1, 1) := by decide +kernel
theorem dX6_driftBy_22 : decode cX6_driftBy 22 = .ok (.imul, 1) := by decide +kernel
theorem dX6_driftBy_23 : decode cX6_driftBy 23 = .ok (.iconst 3, 1) := by decide +kernel
theorem dX6_driftBy_24 : decode cX6_driftBy 24 = .ok (.iadd, 1) := by decide +kernel
theorem dX6_driftBy_25 : decode cX6_driftBy 25 = .ok (.iaload, 1) := by decide +kernel
theorem dX6_driftBy_26 : decode cX6_driftBy 26 = .ok (.invokestatic 77, 3) := by decide +kernel
theorem dX6_driftBy_29 : decode cX6_driftBy 29 = .ok (.imul, 1) := by decide +kernel
theorem dX6_driftBy_30 : decode cX6_driftBy 30 = .ok (.isub, 1) := by decide +kernel
theorem dX6_driftBy_31 : decode cX6_driftBy 31 = .ok (.istore 4, 2) := by decide +kernel
theorem dX6_driftBy_33 : decode cX6_driftBy 33 = .ok (.iload 4, 2) := by decide +kernel
theorem dX6_driftBy_35 : decode cX6_driftBy 35 = .ok (.ifCond .ge 9, 3) := by decide +kernel
theorem dX6_driftBy_38 : decode cX6_driftBy 38 = .ok (.iload 4, 2) := by decide +kernel
theorem dX6_driftBy_40 : decode cX6_driftBy 40 = .ok (.ineg, 1) := by decide +kernel
theorem dX6_driftBy_41 : decode cX6_driftBy 41 = .ok (.goto 5, 3) := by decide +kernel
theorem dX6_driftBy_44 : decode cX6_driftBy 44 = .ok (.iload 4, 2) := by decide +kernel
theorem dX6_driftBy_46 : decode cX6_driftBy 46 = .ok (.ireturn, 1) := by decide +kernel
set_option maxRecDepth 20000 in
theorem ggX6_hangs_X6_driftBy : GoodIn wsX6_hangs wsX6_driftBy := goodIn_r _ [10, 1, 11, 12, 9, 13, 14, 15, 16, 17, 18, 19, 20, 21, 22, 23, 24, 25, 26, 27, 28, 29, 30, 31, 32] (by decide +kernel) (by decide +kernel)
set_option maxRecDepth 20000 in
theorem gX6_hangs_X6_driftBy : GoodIn wsX6_hangs (wsV RX6 139 RX6 yX6_driftBy wsX6_driftBy) := goodIn_app (goodIn_of _ (by decide +kernel)) ggX6_hangs_X6_driftBy
theorem dX6_hangs_0 : decode cX6_hangs 0 = .ok (.aload_n 0, 1) := by decide +kernel
theorem dX6_hangs_1 : decode cX6_hangs 1 = .ok (.getfield 20, 3) := by decide +kernel
theorem dX6_hangs_4 : decode cX6_hangs 4 = .ok (.iconst 5, 1) := by decide +kernel
theorem dX6_hangs_5 : decode cX6_hangs 5 = .ok (.iload_n 2, 1) := by decide +kernel
theorem dX6_hangs_6 : decode cX6_hangs 6 = .ok (.imul, 1) := by decide +kernel
theorem dX6_hangs_7 : decode cX6_hangs 7 = .ok (.iconst 2, 1) := by decide +kernel
theorem dX6_hangs_8 : decode cX6_hangs 8 = .ok (.iadd, 1) := by decide +kernel
theorem dX6_hangs_9 : decode cX6_hangs 9 = .ok (.iaload, 1) := by decide +kernel
theorem dX6_hangs_10 : decode cX6_hangs 10 = .ok (.iload_n 1, 1) := by decide +kernel
theorem dX6_hangs_11 : decode cX6_hangs 11 = .ok (.if_icmp .ne 7, 3) := by decide +kernel
theorem dX6_hangs_14 : decode cX6_hangs 14 = .ok (.iconst 1, 1) := by decide +kernel
theorem dX6_hangs_15 : decode cX6_hangs 15 = .ok (.goto 4, 3) := by decide +kernel
theorem dX6_hangs_18 : decode cX6_hangs 18 = .ok (.iconst 0, 1) := by decide +kernel
theorem dX6_hangs_19 : decode cX6_hangs 19 = .ok (.istore_n 3, 1) := by decide +kernel
theorem dX6_hangs_20 : decode cX6_hangs 20 = .ok (.iload_n 3, 1) := by decide +kernel
theorem dX6_hangs_21 : decode cX6_hangs 21 = .ok (.ifCond .eq 14, 3) := by decide +kernel
theorem dX6_hangs_24 : decode cX6_hangs 24 = .ok (.aload_n 0, 1) := by decide +kernel
theorem dX6_hangs_25 : decode cX6_hangs 25 = .ok (.getfield 20, 3) := by decide +kernel
theorem dX6_hangs_28 : decode cX6_hangs 28 = .ok (.iconst 5, 1) := by decide +kernel
theorem dX6_hangs_29 : decode cX6_hangs 29 = .ok (.iload_n 2, 1) := by decide +kernel
theorem dX6_hangs_30 : decode cX6_hangs 30 = .ok (.imul, 1) := by decide +kernel
theorem dX6_hangs_31 : decode cX6_hangs 31 = .ok (.iaload, 1) := by decide +kernel
theorem dX6_hangs_32 : decode cX6_hangs 32 = .ok (.goto 13, 3) := by decide +kernel
theorem dX6_hangs_35 : decode cX6_hangs 35 = .ok (.aload_n 0, 1) := by decide +kernel
theorem dX6_hangs_36 : decode cX6_hangs 36 = .ok (.getfield 20, 3) := by decide +kernel
theorem dX6_hangs_39 : decode cX6_hangs 39 = .ok (.iconst 5, 1) := by decide +kernel
theorem dX6_hangs_40 : decode cX6_hangs 40 = .ok (.iload_n 2, 1) := by decide +kernel
theorem dX6_hangs_41 : decode cX6_hangs 41 = .ok (.imul, 1) := by decide +kernel
theorem dX6_hangs_42 : decode cX6_hangs 42 = .ok (.iconst 2, 1) := by decide +kernel
theorem dX6_hangs_43 : decode cX6_hangs 43 = .ok (.iadd, 1) := by decide +kernel
theorem dX6_hangs_44 : decode cX6_hangs 44 = .ok (.iaload, 1) := by decide +kernel
theorem dX6_hangs_45 : decode cX6_hangs 45 = .ok (.istore 4, 2) := by decide +kernel
theorem dX6_hangs_47 : decode cX6_hangs 47 = .ok (.iconst 0, 1) := by decide +kernel
theorem dX6_hangs_48 : decode cX6_hangs 48 = .ok (.istore 5, 2) := by decide +kernel
theorem dX6_hangs_50 : decode cX6_hangs 50 = .ok (.iload 5, 2) := by decide +kernel
theorem dX6_hangs_52 : decode cX6_hangs 52 = .ok (.aload_n 0, 1) := by decide +kernel
theorem dX6_hangs_53 : decode cX6_hangs 53 = .ok (.getfield 42, 3) := by decide +kernel
theorem dX6_hangs_56 : decode cX6_hangs 56 = .ok (.if_icmp .ge 167, 3) := by decide +kernel
theorem dX6_hangs_59 : decode cX6_hangs 59 = .ok (.ldc 138, 2) := by decide +kernel
theorem dX6_hangs_61 : decode cX6_hangs 61 = .ok (.istore 6, 2) := by decide +kernel
theorem dX6_hangs_63 : decode cX6_hangs 63 = .ok (.iconst 0, 1) := by decide +kernel
theorem dX6_hangs_64 : decode cX6_hangs 64 = .ok (.istore 7, 2) := by decide +kernel
theorem dX6_hangs_66 : decode cX6_hangs 66 = .ok (.iload 7, 2) := by decide +kernel
theorem dX6_hangs_68 : decode cX6_hangs 68 = .ok (.aload_n 0, 1) := by decide +kernel
theorem dX6_hangs_69 : decode cX6_hangs 69 = .ok (.getfield 42, 3) := by decide +kernel
theorem dX6_hangs_72 : decode cX6_hangs 72 = .ok (.if_icmp .ge 100, 3) := by decide +kernel
theorem dX6_hangs_75 : decode cX6_hangs 75 = .ok (.iload_n 3, 1) := by decide +kernel
theorem dX6_hangs_76 : decode cX6_hangs 76 = .ok (.ifCond .eq 25, 3) := by decide +kernel
theorem dX6_hangs_79 : decode cX6_hangs 79 = .ok (.aload_n 0, 1) := by decide +kernel
theorem dX6_hangs_80 : decode cX6_hangs 80 = .ok (.iload_n 2, 1) := by decide +kernel
theorem dX6_hangs_81 : decode cX6_hangs 81 = .ok (.aload_n 0, 1) := by decide +kernel
theorem dX6_hangs_82 : decode cX6_hangs 82 = .ok (.getfield 45, 3) := by decide +kernel
theorem dX6_hangs_85 : decode cX6_hangs 85 = .ok (.iload 5, 2) := by decide +kernel
theorem dX6_hangs_87 : decode cX6_hangs 87 = .ok (.iaload, 1) := by decide +kernel
theorem dX6_hangs_88 : decode cX6_hangs 88 = .ok (.aload_n 0, 1) := by decide +kernel
theorem dX6_hangs_89 : decode cX6_hangs 89 = .ok (.getfield 45, 3) := by decide +kernel
theorem dX6_hangs_92 : decode cX6_hangs 92 = .ok (.iload 7, 2) := by decide +kernel
theorem dX6_hangs_94 : decode cX6_hangs 94 = .ok (.iaload, 1) := by decide +kernel
theorem dX6_hangs_95 : decode cX6_hangs 95 = .ok (.invokevirtual 139, 3) := by decide +kernel
theorem dX6_hangs_98 : decode cX6_hangs 98 = .ok (.goto 22, 3) := by decide +kernel
theorem dX6_hangs_101 : decode cX6_hangs 101 = .ok (.aload_n 0, 1) := by decide +kernel
theorem dX6_hangs_102 : decode cX6_hangs 102 = .ok (.iload_n 2, 1) := by decide +kernel
theorem dX6_hangs_103 : decode cX6_hangs 103 = .ok (.aload_n 0, 1) := by decide +kernel
theorem dX6_hangs_104 : decode cX6_hangs 104 = .ok (.getfield 45, 3) := by decide +kernel
theorem dX6_hangs_107 : decode cX6_hangs 107 = .ok (.iload 7, 2) := by decide +kernel
theorem dX6_hangs_109 : decode cX6_hangs 109 = .ok (.iaload, 1) := by decide +kernel
theorem dX6_hangs_110 : decode cX6_hangs 110 = .ok (.aload_n 0, 1) := by decide +kernel
theorem dX6_hangs_111 : decode cX6_hangs 111 = .ok (.getfield 45, 3) := by decide +kernel
theorem dX6_hangs_114 : decode cX6_hangs 114 = .ok (.iload 5, 2) := by decide +kernel
theorem dX6_hangs_116 : decode cX6_hangs 116 = .ok (.iaload, 1) := by decide +kernel
theorem dX6_hangs_117 : decode cX6_hangs 117 = .ok (.invokevirtual 139, 3) := by decide +kernel
theorem dX6_hangs_120 : decode cX6_hangs 120 = .ok (.istore 8, 2) := by decide +kernel
theorem dX6_hangs_122 : decode cX6_hangs 122 = .ok (.aload_n 0, 1) := by decide +kernel
theorem dX6_hangs_123 : decode cX6_hangs 123 = .ok (.getfield 51, 3) := by decide +kernel
theorem dX6_hangs_126 : decode cX6_hangs 126 = .ok (.bipush 16, 2) := by decide +kernel
theorem dX6_hangs_128 : decode cX6_hangs 128 = .ok (.iload_n 1, 1) := by decide +kernel
theorem dX6_hangs_129 : decode cX6_hangs 129 = .ok (.imul, 1) := by decide +kernel
theorem dX6_hangs_130 : decode cX6_hangs 130 = .ok (.iload 7, 2) := by decide +kernel
theorem dX6_hangs_132 : decode cX6_hangs 132 = .ok (.iadd, 1) := by decide +kernel
theorem dX6_hangs_133 : decode cX6_hangs 133 = .ok (.iaload, 1) := by decide +kernel
theorem dX6_hangs_134 : decode cX6_hangs 134 = .ok (.aload_n 0, 1) := by decide +kernel
theorem dX6_hangs_135 : decode cX6_hangs 135 = .ok (.getfield 20, 3) := by decide +kernel
theorem dX6_hangs_138 : decode cX6_hangs 138 = .ok (.iconst 5, 1) := by decide +kernel
theorem dX6_hangs_139 : decode cX6_hangs 139 = .ok (.iload_n 2, 1) := by decide +kernel
theorem dX6_hangs_140 : decode cX6_hangs 140 = .ok (.imul, 1) := by decide +kernel
theorem dX6_hangs_141 : decode cX6_hangs 141 = .ok (.iconst 4, 1) := by decide +kernel
theorem dX6_hangs_142 : decode cX6_hangs 142 = .ok (.iadd, 1) := by decide +kernel
theorem dX6_hangs_143 : decode cX6_hangs 143 = .ok (.iaload, 1) := by decide +kernel
theorem dX6_hangs_144 : decode cX6_hangs 144 = .ok (.iload 8, 2) := by decide +kernel
theorem dX6_hangs_146 : decode cX6_hangs 146 = .ok (.imul, 1) := by decide +kernel
theorem dX6_hangs_147 : decode cX6_hangs 147 = .ok (.iadd, 1) := by decide +kernel
theorem dX6_hangs_148 : decode cX6_hangs 148 = .ok (.istore 9, 2) := by decide +kernel
theorem dX6_hangs_150 : decode cX6_hangs 150 = .ok (.iload 9, 2) := by decide +kernel
theorem dX6_hangs_152 : decode cX6_hangs 152 = .ok (.iload 6, 2) := by decide +kernel
theorem dX6_hangs_154 : decode cX6_hangs 154 = .ok (.if_icmp .ge 8, 3) := by decide +kernel
theorem dX6_hangs_157 : decode cX6_hangs 157 = .ok (.iload 9, 2) := by decide +kernel
theorem dX6_hangs_159 : decode cX6_hangs 159 = .ok (.goto 5, 3) := by decide +kernel
theorem dX6_hangs_162 : decode cX6_hangs 162 = .ok (.iload 6, 2) := by decide +kernel
theorem dX6_hangs_164 : decode cX6_hangs 164 = .ok (.istore 6, 2) := by decide +kernel
theorem dX6_hangs_166 : decode cX6_hangs 166 = .ok (.iinc 7 1, 3) := by decide +kernel
theorem dX6_hangs_169 : decode cX6_hangs 169 = .ok (.goto (-103), 3) := by decide +kernel
theorem dX6_hangs_172 : decode cX6_hangs 172 = .ok (.aload_n 0, 1) := by decide +kernel
theorem dX6_hangs_173 : decode cX6_hangs 173 = .ok (.getfield 51, 3) := by decide +kernel
theorem dX6_hangs_176 : decode cX6_hangs 176 = .ok (.bipush 16, 2) := by decide +kernel
theorem dX6_hangs_178 : decode cX6_hangs 178 = .ok (.iload 4, 2) := by decide +kernel
theorem dX6_hangs_180 : decode cX6_hangs 180 = .ok (.imul, 1) := by decide +kernel
theorem dX6_hangs_181 : decode cX6_hangs 181 = .ok (.iload 5, 2) := by decide +kernel
theorem dX6_hangs_183 : decode cX6_hangs 183 = .ok (.iadd, 1) := by decide +kernel
theorem dX6_hangs_184 : decode cX6_hangs 184 = .ok (.iaload, 1) := by decide +kernel
theorem dX6_hangs_185 : decode cX6_hangs 185 = .ok (.iload 6, 2) := by decide +kernel
theorem dX6_hangs_187 : decode cX6_hangs 187 = .ok (.iadd, 1) := by decide +kernel
theorem dX6_hangs_188 : decode cX6_hangs 188 = .ok (.istore 7, 2) := by decide +kernel
theorem dX6_hangs_190 : decode cX6_hangs 190 = .ok (.aload_n 0, 1) := by decide +kernel
theorem dX6_hangs_191 : decode cX6_hangs 191 = .ok (.getfield 51, 3) := by decide +kernel
theorem dX6_hangs_194 : decode cX6_hangs 194 = .ok (.bipush 16, 2) := by decide +kernel
theorem dX6_hangs_196 : decode cX6_hangs 196 = .ok (.iload 4, 2) := by decide +kernel
theorem dX6_hangs_198 : decode cX6_hangs 198 = .ok (.imul, 1) := by decide +kernel
theorem dX6_hangs_199 : decode cX6_hangs 199 = .ok (.iload 5, 2) := by decide +kernel
theorem dX6_hangs_201 : decode cX6_hangs 201 = .ok (.iadd, 1) := by decide +kernel
theorem dX6_hangs_202 : decode cX6_hangs 202 = .ok (.iload 7, 2) := by decide +kernel
theorem dX6_hangs_204 : decode cX6_hangs 204 = .ok (.ldc 138, 2) := by decide +kernel
theorem dX6_hangs_206 : decode cX6_hangs 206 = .ok (.if_icmp .ge 8, 3) := by decide +kernel
theorem dX6_hangs_209 : decode cX6_hangs 209 = .ok (.iload 7, 2) := by decide +kernel
theorem dX6_hangs_211 : decode cX6_hangs 211 = .ok (.goto 5, 3) := by decide +kernel
theorem dX6_hangs_214 : decode cX6_hangs 214 = .ok (.ldc 138, 2) := by decide +kernel
theorem dX6_hangs_216 : decode cX6_hangs 216 = .ok (.iastore, 1) := by decide +kernel
theorem dX6_hangs_217 : decode cX6_hangs 217 = .ok (.iinc 5 1, 3) := by decide +kernel
theorem dX6_hangs_220 : decode cX6_hangs 220 = .ok (.goto (-170), 3) := by decide +kernel
theorem dX6_hangs_223 : decode cX6_hangs 223 = .ok (.return_, 1) := by decide +kernel
set_option maxRecDepth 20000 in
theorem ggX6_leastHarm_X6_hangs : GoodIn wsX6_leastHarm wsX6_hangs := goodIn_r _ [13, 14, 2, 5, 15, 3, 16, 17, 18, 12, 19, 20, 21, 22, 23, 24, 25, 26, 27, 28, 29, 30, 31, 32, 33, 34, 35, 36, 37, 38, 39, 40, 41] (by decide +kernel) (by decide +kernel)
set_option maxRecDepth 20000 in
theorem gX6_leastHarm_X6_hangs : GoodIn wsX6_leastHarm (wsV RX6 143 RX6 yX6_hangs wsX6_hangs) := goodIn_app (goodIn_of _ (by decide +kernel)) ggX6_leastHarm_X6_hangs
theorem dX6_leastHarm_0 : decode cX6_leastHarm 0 = .ok (.iconst 0, 1) := by decide +kernel
theorem dX6_leastHarm_1 : decode cX6_leastHarm 1 = .ok (.istore_n 1, 1) := by decide +kernel
theorem dX6_leastHarm_2 : decode cX6_leastHarm 2 = .ok (.iload_n 1, 1) := by decide +kernel
theorem dX6_leastHarm_3 : decode cX6_leastHarm 3 = .ok (.aload_n 0, 1) := by decide +kernel
theorem dX6_leastHarm_4 : decode cX6_leastHarm 4 = .ok (.getfield 57, 3) := by decide +kernel
theorem dX6_leastHarm_7 : decode cX6_leastHarm 7 = .ok (.if_icmp .ge 63, 3) := by decide +kernel
theorem dX6_leastHarm_10 : decode cX6_leastHarm 10 = .ok (.iconst 0, 1) := by decide +kernel
theorem dX6_leastHarm_11 : decode cX6_leastHarm 11 = .ok (.istore_n 2, 1) := by decide +kernel
theorem dX6_leastHarm_12 : decode cX6_leastHarm 12 = .ok (.iload_n 2, 1) := by decide +kernel
theorem dX6_leastHarm_13 : decode cX6_leastHarm 13 = .ok (.aload_n 0, 1) := by decide +kernel
theorem dX6_leastHarm_14 : decode cX6_leastHarm 14 = .ok (.getfield 42, 3) := by decide +kernel
theorem dX6_leastHarm_17 : decode cX6_leastHarm 17 = .ok (.if_icmp .ge 47, 3) := by decide +kernel
theorem dX6_leastHarm_20 : decode cX6_leastHarm 20 = .ok (.aload_n 0, 1) := by decide +kernel
theorem dX6_leastHarm_21 : decode cX6_leastHarm 21 = .ok (.getfield 51, 3) := by decide +kernel
theorem dX6_leastHarm_24 : decode cX6_leastHarm 24 = .ok (.bipush 16, 2) := by decide +kernel
theorem dX6_leastHarm_26 : decode cX6_leastHarm 26 = .ok (.iload_n 1, 1) := by decide +kernel
theorem dX6_leastHarm_27 : decode cX6_leastHarm 27 = .ok (.imul, 1) := by decide +kernel
theorem dX6_leastHarm_28 : decode cX6_leastHarm 28 = .ok (.iload_n 2, 1) := by decide +kernel
theorem dX6_leastHarm_29 : decode cX6_leastHarm 29 = .ok (.iadd, 1) := by decide +kernel
theorem dX6_leastHarm_30 : decode cX6_leastHarm 30 = .ok (.aload_n 0, 1) := by decide +kernel
theorem dX6_leastHarm_31 : decode cX6_leastHarm 31 = .ok (.getfield 48, 3) := by decide +kernel
theorem dX6_leastHarm_34 : decode cX6_leastHarm 34 = .ok (.iload_n 1, 1) := by decide +kernel
theorem dX6_leastHarm_35 : decode cX6_leastHarm 35 = .ok (.iaload, 1) := by decide +kernel
theorem dX6_leastHarm_36 : decode cX6_leastHarm 36 = .ok (.bipush (-9), 2) := by decide +kernel
theorem dX6_leastHarm_38 : decode cX6_leastHarm 38 = .ok (.if_icmp .eq 13, 3) := by decide +kernel
theorem dX6_leastHarm_41 : decode cX6_leastHarm 41 = .ok (.aload_n 0, 1) := by decide +kernel
theorem dX6_leastHarm_42 : decode cX6_leastHarm 42 = .ok (.getfield 48, 3) := by decide +kernel
theorem dX6_leastHarm_45 : decode cX6_leastHarm 45 = .ok (.iload_n 1, 1) := by decide +kernel
theorem dX6_leastHarm_46 : decode cX6_leastHarm 46 = .ok (.iaload, 1) := by decide +kernel
theorem dX6_leastHarm_47 : decode cX6_leastHarm 47 = .ok (.iload_n 2, 1) := by decide +kernel
theorem dX6_leastHarm_48 : decode cX6_leastHarm 48 = .ok (.if_icmp .ne 7, 3) := by decide +kernel
theorem dX6_leastHarm_51 : decode cX6_leastHarm 51 = .ok (.iconst 0, 1) := by decide +kernel
theorem dX6_leastHarm_52 : decode cX6_leastHarm 52 = .ok (.goto 5, 3) := by decide +kernel
theorem dX6_leastHarm_55 : decode cX6_leastHarm 55 = .ok (.ldc 138, 2) := by decide +kernel
theorem dX6_leastHarm_57 : decode cX6_leastHarm 57 = .ok (.iastore, 1) := by decide +kernel
theorem dX6_leastHarm_58 : decode cX6_leastHarm 58 = .ok (.iinc 2 1, 3) := by decide +kernel
theorem dX6_leastHarm_61 : decode cX6_leastHarm 61 = .ok (.goto (-49), 3) := by decide +kernel
theorem dX6_leastHarm_64 : decode cX6_leastHarm 64 = .ok (.iinc 1 1, 3) := by decide +kernel
theorem dX6_leastHarm_67 : decode cX6_leastHarm 67 = .ok (.goto (-65), 3) := by decide +kernel
theorem dX6_leastHarm_70 : decode cX6_leastHarm 70 = .ok (.aload_n 0, 1) := by decide +kernel
theorem dX6_leastHarm_71 : decode cX6_leastHarm 71 = .ok (.getfield 85, 3) := by decide +kernel
theorem dX6_leastHarm_74 : decode cX6_leastHarm 74 = .ok (.iconst 1, 1) := by decide +kernel
theorem dX6_leastHarm_75 : decode cX6_leastHarm 75 = .ok (.isub, 1) := by decide +kernel
theorem dX6_leastHarm_76 : decode cX6_leastHarm 76 = .ok (.istore_n 1, 1) := by decide +kernel
theorem dX6_leastHarm_77 : decode cX6_leastHarm 77 = .ok (.iload_n 1, 1) := by decide +kernel
theorem dX6_leastHarm_78 : decode cX6_leastHarm 78 = .ok (.ifCond .le 25, 3) := by decide +kernel
theorem dX6_leastHarm_81 : decode cX6_leastHarm 81 = .ok (.aload_n 0, 1) := by decide +kernel
theorem dX6_leastHarm_82 : decode cX6_leastHarm 82 = .ok (.aload_n 0, 1) := by decide +kernel
theorem dX6_leastHarm_83 : decode cX6_leastHarm 83 = .ok (.getfield 36, 3) := by decide +kernel
theorem dX6_leastHarm_86 : decode cX6_leastHarm 86 = .ok (.iload_n 1, 1) := by decide +kernel
theorem dX6_leastHarm_87 : decode cX6_leastHarm 87 = .ok (.iaload, 1) := by decide +kernel
theorem dX6_leastHarm_88 : decode cX6_leastHarm 88 = .ok (.aload_n 0, 1) := by decide +kernel
theorem dX6_leastHarm_89 : decode cX6_leastHarm 89 = .ok (.getfield 39, 3) := by decide +kernel
theorem dX6_leastHarm_92 : decode cX6_leastHarm 92 = .ok (.iload_n 1, 1) := by decide +kernel
theorem dX6_leastHarm_93 : decode cX6_leastHarm 93 = .ok (.iaload, 1) := by decide +kernel
theorem dX6_leastHarm_94 : decode cX6_leastHarm 94 = .ok (.invokevirtual 143, 3) := by decide +kernel
theorem dX6_leastHarm_97 : decode cX6_leastHarm 97 = .ok (.iinc 1 (-1), 3) := by decide +kernel
theorem dX6_leastHarm_100 : decode cX6_leastHarm 100 = .ok (.goto (-23), 3) := by decide +kernel
theorem dX6_leastHarm_103 : decode cX6_leastHarm 103 = .ok (.ldc 138, 2) := by decide +kernel
theorem dX6_leastHarm_105 : decode cX6_leastHarm 105 = .ok (.istore_n 1, 1) := by decide +kernel
theorem dX6_leastHarm_106 : decode cX6_leastHarm 106 = .ok (.iconst 0, 1) := by decide +kernel
theorem dX6_leastHarm_107 : decode cX6_leastHarm 107 = .ok (.istore_n 2, 1) := by decide +kernel
theorem dX6_leastHarm_108 : decode cX6_leastHarm 108 = .ok (.iload_n 2, 1) := by decide +kernel
theorem dX6_leastHarm_109 : decode cX6_leastHarm 109 = .ok (.aload_n 0, 1) := by decide +kernel
theorem dX6_leastHarm_110 : decode cX6_leastHarm 110 = .ok (.getfield 42, 3) := by decide +kernel
theorem dX6_leastHarm_113 : decode cX6_leastHarm 113 = .ok (.if_icmp .ge 30, 3) := by decide +kernel
theorem dX6_leastHarm_116 : decode cX6_leastHarm 116 = .ok (.aload_n 0, 1) := by decide +kernel
theorem dX6_leastHarm_117 : decode cX6_leastHarm 117 = .ok (.getfield 51, 3) := by decide +kernel
theorem dX6_leastHarm_120 : decode cX6_leastHarm 120 = .ok (.iload_n 2, 1) := by decide +kernel
theorem dX6_leastHarm_121 : decode cX6_leastHarm 121 = .ok (.iaload, 1) := by decide +kernel
theorem dX6_leastHarm_122 : decode cX6_leastHarm 122 = .ok (.iload_n 1, 1) := by decide +kernel
theorem dX6_leastHarm_123 : decode cX6_leastHarm 123 = .ok (.if_icmp .ge 12, 3) := by decide +kernel
theorem dX6_leastHarm_126 : decode cX6_leastHarm 126 = .ok (.aload_n 0, 1) := by decide +kernel
theorem dX6_leastHarm_127 : decode cX6_leastHarm 127 = .ok (.getfield 51, 3) := by decide +kernel
theorem dX6_leastHarm_130 : decode cX6_leastHarm 130 = .ok (.iload_n 2, 1) := by decide +kernel
theorem dX6_leastHarm_131 : decode cX6_leastHarm 131 = .ok (.iaload, 1) := by decide +kernel
theorem dX6_leastHarm_132 : decode cX6_leastHarm 132 = .ok (.goto 4, 3) := by decide +kernel
theorem dX6_leastHarm_135 : decode cX6_leastHarm 135 = .ok (.iload_n 1, 1) := by decide +kernel
theorem dX6_leastHarm_136 : decode cX6_leastHarm 136 = .ok (.istore_n 1, 1) := by decide +kernel
theorem dX6_leastHarm_137 : decode cX6_leastHarm 137 = .ok (.iinc 2 1, 3) := by decide +kernel
theorem dX6_leastHarm_140 : decode cX6_leastHarm 140 = .ok (.goto (-32), 3) := by decide +kernel
theorem dX6_leastHarm_143 : decode cX6_leastHarm 143 = .ok (.iload_n 1, 1) := by decide +kernel
theorem dX6_leastHarm_144 : decode cX6_leastHarm 144 = .ok (.ireturn, 1) := by decide +kernel
set_option maxRecDepth 20000 in
theorem ggX6_findPlay_X6_spreadAll : GoodIn wsX6_findPlay wsX6_spreadAll := goodIn_r _ [10, 11, 12, 13, 14, 9, 15, 16, 17, 5, 18, 19, 20, 21, 22, 23, 24, 25, 26, 27, 28, 29, 30, 31, 32, 33, 34, 35, 36, 60, 61, 62, 63, 64, 65, 66, 67, 68, 69, 70, 71, 72, 73, 74, 75, 76, 77, 78] (by decide +kernel) (by decide +kernel)
set_option maxRecDepth 20000 in
theorem gX6_findPlay_X6_spreadAll : GoodIn wsX6_findPlay (wsV RX6 102 RX6 yX6_spreadAll wsX6_spreadAll) := goodIn_app (goodIn_of _ (by decide +kernel)) ggX6_findPlay_X6_spreadAll
set_option maxRecDepth 20000 in
theorem ggX6_findPlay_X6_isPinHeld : GoodIn wsX6_findPlay wsX6_isPinHeld := goodIn_r _ [40, 4, 41, 42, 43, 9, 44, 2, 45, 60, 61, 62, 63, 64, 65, 66, 67, 68, 69, 70, 71, 72, 73, 74, 75, 76, 77, 78] (by decide +kernel) (by decide +kernel)
set_option maxRecDepth 20000 in
theorem gX6_findPlay_X6_isPinHeld : GoodIn wsX6_findPlay (wsV RX6 113 RX6 yX6_isPinHeld wsX6_isPinHeld) := goodIn_app (goodIn_of _ (by decide +kernel)) ggX6_findPlay_X6_isPinHeld
set_option maxRecDepth 20000 in
theorem ggX6_findPlay_X6_placeOf : GoodIn wsX6_findPlay wsX6_placeOf := goodIn_r _ [44, 2, 45, 60, 61, 62, 63, 64, 65, 66, 67, 68, 69, 70, 71, 72, 73, 74, 75, 76, 77, 78] (by decide +kernel) (by decide +kernel)
set_option maxRecDepth 20000 in
theorem gX6_findPlay_X6_placeOf : GoodIn wsX6_findPlay (wsV RX6 99 RX6 yX6_placeOf wsX6_placeOf) := goodIn_app (goodIn_of _ (by decide +kernel)) ggX6_findPlay_X6_placeOf
set_option maxRecDepth 20000 in
theorem ggX6_findPlay_X6_leastHarm : GoodIn wsX6_findPlay wsX6_leastHarm := goodIn_r _ [49, 1, 2, 50, 3, 51, 29, 27, 28, 52, 53, 54, 9, 55, 16, 45, 56, 57, 58, 59, 19, 20, 21, 60, 61, 62, 63, 64, 65, 66, 67, 68, 69, 70, 71, 72, 73, 74, 75, 76, 77, 78] (by decide +kernel) (by decide +kernel)
set_option maxRecDepth 20000 in
theorem gX6_findPlay_X6_leastHarm : GoodIn wsX6_findPlay (wsV RX6 146 RX6 yX6_leastHarm wsX6_leastHarm) := goodIn_app (goodIn_of _ (by decide +kernel)) ggX6_findPlay_X6_leastHarm
theorem dX6_findPlay_0 : decode cX6_findPlay 0 = .ok (.aload_n 0, 1) := by decide +kernel
theorem dX6_findPlay_1 : decode cX6_findPlay 1 = .ok (.getfield 57, 3) := by decide +kernel
theorem dX6_findPlay_4 : decode cX6_findPlay 4 = .ok (.ifCond .eq 10, 3) := by decide +kernel
theorem dX6_findPlay_7 : decode cX6_findPlay 7 = .ok (.aload_n 0, 1) := by decide +kernel
theorem dX6_findPlay_8 : decode cX6_findPlay 8 = .ok (.getfield 42, 3) := by decide +kernel
theorem dX6_findPlay_11 : decode cX6_findPlay 11 = .ok (.ifCond .ne 5, 3) := by decide +kernel
theorem dX6_findPlay_14 : decode cX6_findPlay 14 = .ok (.iconst 0, 1) := by decide +kernel
theorem dX6_findPlay_15 : decode cX6_findPlay 15 = .ok (.ireturn, 1) := by decide +kernel
theorem dX6_findPlay_16 : decode cX6_findPlay 16 = .ok (.aload_n 0, 1) := by decide +kernel
theorem dX6_findPlay_17 : decode cX6_findPlay 17 = .ok (.iconst 0, 1) := by decide +kernel
theorem dX6_findPlay_18 : decode cX6_findPlay 18 = .ok (.invokevirtual 102, 3) := by decide +kernel
theorem dX6_findPlay_21 : decode cX6_findPlay 21 = .ok (.iconst 0, 1) := by decide +kernel
theorem dX6_findPlay_22 : decode cX6_findPlay 22 = .ok (.istore_n 1, 1) := by decide +kernel
theorem dX6_findPlay_23 : decode cX6_findPlay 23 = .ok (.iload_n 1, 1) := by decide +kernel
theorem dX6_findPlay_24 : decode cX6_findPlay 24 = .ok (.aload_n 0, 1) := by decide +kernel
theorem dX6_findPlay_25 : decode cX6_findPlay 25 = .ok (.getfield 57, 3) := by decide +kernel
theorem dX6_findPlay_28 : decode cX6_findPlay 28 = .ok (.if_icmp .ge 38, 3) := by decide +kernel
theorem dX6_findPlay_31 : decode cX6_findPlay 31 = .ok (.aload_n 0, 1) := by decide +kernel
theorem dX6_findPlay_32 : decode cX6_findPlay 32 = .ok (.getfield 48, 3) := by decide +kernel
theorem dX6_findPlay_35 : decode cX6_findPlay 35 = .ok (.iload_n 1, 1) := by decide +kernel
theorem dX6_findPlay_36 : decode cX6_findPlay 36 = .ok (.aload_n 0, 1) := by decide +kernel
theorem dX6_findPlay_37 : decode cX6_findPlay 37 = .ok (.iload_n 1, 1) := by decide +kernel
theorem dX6_findPlay_38 : decode cX6_findPlay 38 = .ok (.invokevirtual 113, 3) := by decide +kernel
theorem dX6_findPlay_41 : decode cX6_findPlay 41 = .ok (.ifCond .eq 16, 3) := by decide +kernel
theorem dX6_findPlay_44 : decode cX6_findPlay 44 = .ok (.aload_n 0, 1) := by decide +kernel
theorem dX6_findPlay_45 : decode cX6_findPlay 45 = .ok (.aload_n 0, 1) := by decide +kernel
theorem dX6_findPlay_46 : decode cX6_findPlay 46 = .ok (.getfield 13, 3) := by decide +kernel
theorem dX6_findPlay_49 : decode cX6_findPlay 49 = .ok (.iload_n 1, 1) := by decide +kernel
theorem dX6_findPlay_50 : decode cX6_findPlay 50 = .ok (.iaload, 1) := by decide +kernel
theorem dX6_findPlay_51 : decode cX6_findPlay 51 = .ok (.invokevirtual 99, 3) := by decide +kernel
theorem dX6_findPlay_54 : decode cX6_findPlay 54 = .ok (.goto 5, 3) := by decide +kernel
theorem dX6_findPlay_57 : decode cX6_findPlay 57 = .ok (.bipush (-9), 2) := by decide +kernel
theorem dX6_findPlay_59 : decode cX6_findPlay 59 = .ok (.iastore, 1) := by decide +kernel
theorem dX6_findPlay_60 : decode cX6_findPlay 60 = .ok (.iinc 1 1, 3) := by decide +kernel
theorem dX6_findPlay_63 : decode cX6_findPlay 63 = .ok (.goto (-40), 3) := by decide +kernel
theorem dX6_findPlay_66 : decode cX6_findPlay 66 = .ok (.aload_n 0, 1) := by decide +kernel
theorem dX6_findPlay_67 : decode cX6_findPlay 67 = .ok (.invokevirtual 146, 3) := by decide +kernel
theorem dX6_findPlay_70 : decode cX6_findPlay 70 = .ok (.istore_n 1, 1) := by decide +kernel
theorem dX6_findPlay_71 : decode cX6_findPlay 71 = .ok (.iconst 0, 1) := by decide +kernel
theorem dX6_findPlay_72 : decode cX6_findPlay 72 = .ok (.istore_n 2, 1) := by decide +kernel
theorem dX6_findPlay_73 : decode cX6_findPlay 73 = .ok (.iload_n 2, 1) := by decide +kernel
theorem dX6_findPlay_74 : decode cX6_findPlay 74 = .ok (.aload_n 0, 1) := by decide +kernel
theorem dX6_findPlay_75 : decode cX6_findPlay 75 = .ok (.getfield 57, 3) := by decide +kernel
theorem dX6_findPlay_78 : decode cX6_findPlay 78 = .ok (.if_icmp .ge 59, 3) := by decide +kernel
theorem dX6_findPlay_81 : decode cX6_findPlay 81 = .ok (.aload_n 0, 1) := by decide +kernel
theorem dX6_findPlay_82 : decode cX6_findPlay 82 = .ok (.getfield 48, 3) := by decide +kernel
theorem dX6_findPlay_85 : decode cX6_findPlay 85 = .ok (.iload_n 2, 1) := by decide +kernel
theorem dX6_findPlay_86 : decode cX6_findPlay 86 = .ok (.iaload, 1) := by decide +kernel
theorem dX6_findPlay_87 : decode cX6_findPlay 87 = .ok (.bipush (-9), 2) := by decide +kernel
theorem dX6_findPlay_89 : decode cX6_findPlay 89 = .ok (.if_icmp .ne 42, 3) := by decide +kernel
theorem dX6_findPlay_92 : decode cX6_findPlay 92 = .ok (.aload_n 0, 1) := by decide +kernel
theorem dX6_findPlay_93 : decode cX6_findPlay 93 = .ok (.getfield 26, 3) := by decide +kernel
theorem dX6_findPlay_96 : decode cX6_findPlay 96 = .ok (.iload_n 2, 1) := by decide +kernel
theorem dX6_findPlay_97 : decode cX6_findPlay 97 = .ok (.laload, 1) := by decide +kernel
theorem dX6_findPlay_98 : decode cX6_findPlay 98 = .ok (.lconst 0, 1) := by decide +kernel
theorem dX6_findPlay_99 : decode cX6_findPlay 99 = .ok (.lcmp, 1) := by decide +kernel
theorem dX6_findPlay_100 : decode cX6_findPlay 100 = .ok (.ifCond .le 31, 3) := by decide +kernel
theorem dX6_findPlay_103 : decode cX6_findPlay 103 = .ok (.aload_n 0, 1) := by decide +kernel
theorem dX6_findPlay_104 : decode cX6_findPlay 104 = .ok (.getfield 48, 3) := by decide +kernel
theorem dX6_findPlay_107 : decode cX6_findPlay 107 = .ok (.iload_n 2, 1) := by decide +kernel
theorem dX6_findPlay_108 : decode cX6_findPlay 108 = .ok (.iconst 0, 1) := by decide +kernel
theorem dX6_findPlay_109 : decode cX6_findPlay 109 = .ok (.iastore, 1) := by decide +kernel
theorem dX6_findPlay_110 : decode cX6_findPlay 110 = .ok (.aload_n 0, 1) := by decide +kernel
theorem dX6_findPlay_111 : decode cX6_findPlay 111 = .ok (.invokevirtual 146, 3) := by decide +kernel
theorem dX6_findPlay_114 : decode cX6_findPlay 114 = .ok (.iload_n 1, 1) := by decide +kernel
theorem dX6_findPlay_115 : decode cX6_findPlay 115 = .ok (.if_icmp .eq 16, 3) := by decide +kernel
theorem dX6_findPlay_118 : decode cX6_findPlay 118 = .ok (.aload_n 0, 1) := by decide +kernel
theorem dX6_findPlay_119 : decode cX6_findPlay 119 = .ok (.getfield 48, 3) := by decide +kernel
theorem dX6_findPlay_122 : decode cX6_findPlay 122 = .ok (.iload_n 2, 1) := by decide +kernel
theorem dX6_findPlay_123 : decode cX6_findPlay 123 = .ok (.dup2, 1) := by decide +kernel
theorem dX6_findPlay_124 : decode cX6_findPlay 124 = .ok (.iaload, 1) := by decide +kernel
theorem dX6_findPlay_125 : decode cX6_findPlay 125 = .ok (.iconst 1, 1) := by decide +kernel
theorem dX6_findPlay_126 : decode cX6_findPlay 126 = .ok (.iadd, 1) := by decide +kernel
theorem dX6_findPlay_127 : decode cX6_findPlay 127 = .ok (.iastore, 1) := by decide +kernel
theorem dX6_findPlay_128 : decode cX6_findPlay 128 = .ok (.goto (-18), 3) := by decide +kernel
theorem dX6_findPlay_131 : decode cX6_findPlay 131 = .ok (.iinc 2 1, 3) := by decide +kernel
theorem dX6_findPlay_134 : decode cX6_findPlay 134 = .ok (.goto (-61), 3) := by decide +kernel
theorem dX6_findPlay_137 : decode cX6_findPlay 137 = .ok (.iconst 1, 1) := by decide +kernel
theorem dX6_findPlay_138 : decode cX6_findPlay 138 = .ok (.ireturn, 1) := by decide +kernel
set_option maxRecDepth 20000 in
theorem ggX6_harm_X6_findPlay : GoodIn wsX6_harm wsX6_findPlay := goodIn_r _ [5, 6, 7, 8, 9, 10, 11, 12, 13, 4, 14, 15, 16, 17, 18, 19, 20, 21, 22, 23, 24, 25, 26, 27, 28, 29, 30, 31, 32, 33, 34, 35, 36, 37, 38, 39, 40, 41, 42, 43, 44, 45, 46, 47, 48, 49, 50, 51, 52, 53, 54, 55, 56, 57, 58, 59, 60, 61, 62, 63, 64, 65, 66, 67, 68, 69, 70, 71, 72, 73, 74, 75, 76, 77, 78, 79, 80, 81, 82] (by decide +kernel) (by decide +kernel)
set_option maxRecDepth 20000 in
theorem gX6_harm_X6_findPlay : GoodIn wsX6_harm (wsV RX6 149 RX6 yX6_findPlay wsX6_findPlay) := goodIn_app (goodIn_of _ (by decide +kernel)) ggX6_harm_X6_findPlay
set_option maxRecDepth 20000 in
theorem ggX6_harm_X6_leastHarm : GoodIn wsX6_harm wsX6_leastHarm := goodIn_r _ [53, 6, 7, 54, 8, 55, 33, 31, 32, 56, 57, 58, 4, 59, 20, 49, 60, 61, 62, 63, 23, 24, 25, 64, 65, 66, 67, 68, 69, 70, 71, 72, 73, 74, 75, 76, 77, 78, 79, 80, 81, 82] (by decide +kernel) (by decide +kernel)
set_option maxRecDepth 20000 in
theorem gX6_harm_X6_leastHarm : GoodIn wsX6_harm (wsV RX6 146 RX6 yX6_leastHarm wsX6_leastHarm) := goodIn_app (goodIn_of _ (by decide +kernel)) ggX6_harm_X6_leastHarm
theorem dX6_harm_0 : decode cX6_harm 0 = .ok (.aload_n 0, 1) := by decide +kernel
theorem dX6_harm_1 : decode cX6_harm 1 = .ok (.invokevirtual 149, 3) := by decide +kernel
theorem dX6_harm_4 : decode cX6_harm 4 = .ok (.ifCond .eq 10, 3) := by decide +kernel
theorem dX6_harm_7 : decode cX6_harm 7 = .ok (.aload_n 0, 1) := by decide +kernel
theorem dX6_harm_8 : decode cX6_harm 8 = .ok (.invokevirtual 146, 3) := by decide +kernel
theorem dX6_harm_11 : decode cX6_harm 11 = .ok (.goto 5, 3) := by decide +kernel
theorem dX6_harm_14 : decode cX6_harm 14 = .ok (.bipush (-9), 2) := by decide +kernel
theorem dX6_harm_16 : decode cX6_harm 16 = .ok (.ireturn, 1) := by decide +kernel
theorem dX6_markBy_0 : decode cX6_markBy 0 = .ok (.aload_n 0, 1) := by decide +kernel
theorem dX6_markBy_1 : decode cX6_markBy 1 = .ok (.getfield 26, 3) := by decide +kernel
theorem dX6_markBy_4 : decode cX6_markBy 4 = .ok (.iload_n 1, 1) := by decide +kernel
theorem dX6_markBy_5 : decode cX6_markBy 5 = .ok (.laload, 1) := by decide +kernel
theorem dX6_markBy_6 : decode cX6_markBy 6 = .ok (.lconst 0, 1) := by decide +kernel
theorem dX6_markBy_7 : decode cX6_markBy 7 = .ok (.lcmp, 1) := by decide +kernel
theorem dX6_markBy_8 : decode cX6_markBy 8 = .ok (.ifCond .ne 8, 3) := by decide +kernel
theorem dX6_markBy_11 : decode cX6_markBy 11 = .ok (.bipush (-9), 2) := by decide +kernel
theorem dX6_markBy_13 : decode cX6_markBy 13 = .ok (.goto 14, 3) := by decide +kernel
theorem dX6_markBy_16 : decode cX6_markBy 16 = .ok (.aload_n 0, 1) := by decide +kernel
theorem dX6_markBy_17 : decode cX6_markBy 17 = .ok (.getfield 45, 3) := by decide +kernel
theorem dX6_markBy_20 : decode cX6_markBy 20 = .ok (.aload_n 0, 1) := by decide +kernel
theorem dX6_markBy_21 : decode cX6_markBy 21 = .ok (.getfield 48, 3) := by decide +kernel
theorem dX6_markBy_24 : decode cX6_markBy 24 = .ok (.iload_n 1, 1) := by decide +kernel
theorem dX6_markBy_25 : decode cX6_markBy 25 = .ok (.iaload, 1) := by decide +kernel
theorem dX6_markBy_26 : decode cX6_markBy 26 = .ok (.iaload, 1) := by decide +kernel
theorem dX6_markBy_27 : decode cX6_markBy 27 = .ok (.ireturn, 1) := by decide +kernel
set_option maxRecDepth 20000 in
theorem ggX6_play_X6_isSection : GoodIn wsX6_play wsX6_isSection := goodIn_r _ [5, 6, 7, 8, 4, 9, 75, 76, 77, 78, 79, 80, 81, 82, 83, 84, 85, 86, 87, 88, 89, 90, 91, 92, 93] (by decide +kernel) (by decide +kernel)
set_option maxRecDepth 20000 in
theorem gX6_play_X6_isSection : GoodIn wsX6_play (wsV RX6 67 RX6 yX6_isSection wsX6_isSection) := goodIn_app (goodIn_of _ (by decide +kernel)) ggX6_play_X6_isSection
set_option maxRecDepth 20000 in
theorem ggX6_play_X6_findPlay : GoodIn wsX6_play wsX6_findPlay := goodIn_r _ [13, 6, 14, 15, 16, 17, 18, 19, 20, 4, 21, 22, 23, 24, 25, 26, 27, 28, 29, 30, 31, 32, 33, 34, 35, 36, 37, 38, 39, 40, 41, 42, 43, 44, 45, 46, 47, 48, 49, 50, 51, 52, 53, 54, 55, 56, 57, 58, 59, 60, 61, 62, 63, 64, 65, 66, 67, 68, 69, 70, 75, 76, 77, 78, 79, 80, 81, 82, 83, 84, 85, 86, 87, 88, 89, 90, 91, 92, 93] (by decide +kernel) (by decide +kernel)
set_option maxRecDepth 20000 in
theorem gX6_play_X6_findPlay : GoodIn wsX6_play (wsV RX6 149 RX6 yX6_findPlay wsX6_findPlay) := goodIn_app (goodIn_of _ (by decide +kernel)) ggX6_play_X6_findPlay
set_option maxRecDepth 20000 in
theorem ggX6_play_X6_markBy : GoodIn wsX6_play wsX6_markBy := goodIn_r _ [74, 17, 56, 15, 75, 76, 77, 78, 79, 80, 81, 82, 83, 84, 85, 86, 87, 88, 89, 90, 91, 92, 93] (by decide +kernel) (by decide +kernel)
set_option maxRecDepth 20000 in
theorem gX6_play_X6_markBy : GoodIn wsX6_play (wsV RX6 153 RX6 yX6_markBy wsX6_markBy) := goodIn_app (goodIn_of _ (by decide +kernel)) ggX6_play_X6_markBy
theorem dX6_play_0 : decode cX6_play 0 = .ok (.aload_n 0, 1) := by decide +kernel
theorem dX6_play_1 : decode cX6_play 1 = .ok (.iload_n 1, 1) := by decide +kernel
theorem dX6_play_2 : decode cX6_play 2 = .ok (.invokevirtual 67, 3) := by decide +kernel
theorem dX6_play_5 : decode cX6_play 5 = .ok (.ifCond .ne 5, 3) := by decide +kernel
theorem dX6_play_8 : decode cX6_play 8 = .ok (.iconst (-1), 1) := by decide +kernel
theorem dX6_play_9 : decode cX6_play 9 = .ok (.ireturn, 1) := by decide +kernel
theorem dX6_play_10 : decode cX6_play 10 = .ok (.aload_n 0, 1) := by decide +kernel
theorem dX6_play_11 : decode cX6_play 11 = .ok (.invokevirtual 149, 3) := by decide +kernel
theorem dX6_play_14 : decode cX6_play 14 = .ok (.ifCond .eq 11, 3) := by decide +kernel
theorem dX6_play_17 : decode cX6_play 17 = .ok (.aload_n 0, 1) := by decide +kernel
theorem dX6_play_18 : decode cX6_play 18 = .ok (.iload_n 1, 1) := by decide +kernel
theorem dX6_play_19 : decode cX6_play 19 = .ok (.invokevirtual 153, 3) := by decide +kernel
theorem dX6_play_22 : decode cX6_play 22 = .ok (.goto 5, 3) := by decide +kernel
theorem dX6_play_25 : decode cX6_play 25 = .ok (.bipush (-9), 2) := by decide +kernel
theorem dX6_play_27 : decode cX6_play 27 = .ok (.ireturn, 1) := by decide +kernel
set_option maxRecDepth 20000 in
theorem ggX6_drift_X6_isTie : GoodIn wsX6_drift wsX6_isTie := goodIn_r _ [6, 7, 8, 9, 5, 10, 75, 76, 77, 78, 79, 80, 81, 82, 83, 84, 85, 86, 87, 88, 89, 90, 91, 92, 93] (by decide +kernel) (by decide +kernel)
set_option maxRecDepth 20000 in
theorem gX6_drift_X6_isTie : GoodIn wsX6_drift (wsV RX6 74 RX6 yX6_isTie wsX6_isTie) := goodIn_app (goodIn_of _ (by decide +kernel)) ggX6_drift_X6_isTie
set_option maxRecDepth 20000 in
theorem ggX6_drift_X6_findPlay : GoodIn wsX6_drift wsX6_findPlay := goodIn_r _ [14, 15, 16, 17, 18, 19, 20, 21, 22, 5, 23, 7, 24, 25, 26, 27, 1, 28, 29, 30, 31, 32, 33, 34, 35, 36, 37, 38, 39, 40, 41, 42, 43, 44, 45, 46, 47, 48, 49, 50, 51, 52, 53, 54, 55, 56, 57, 58, 59, 60, 61, 62, 63, 64, 65, 66, 67, 68, 69, 70, 75, 76, 77, 78, 79, 80, 81, 82, 83, 84, 85, 86, 87, 88, 89, 90, 91, 92, 93] (by decide +kernel) (by decide +kernel)
set_option maxRecDepth 20000 in
theorem gX6_drift_X6_findPlay : GoodIn wsX6_drift (wsV RX6 149 RX6 yX6_findPlay wsX6_findPlay) := goodIn_app (goodIn_of _ (by decide +kernel)) ggX6_drift_X6_findPlay
set_option maxRecDepth 20000 in
theorem ggX6_drift_X6_markBy : GoodIn wsX6_drift wsX6_markBy := goodIn_r _ [74, 19, 56, 17, 75, 76, 77, 78, 79, 80, 81, 82, 83, 84, 85, 86, 87, 88, 89, 90, 91, 92, 93] (by decide +kernel) (by decide +kernel)
set_option maxRecDepth 20000 in
theorem gX6_drift_X6_markBy : GoodIn wsX6_drift (wsV RX6 153 RX6 yX6_markBy wsX6_markBy) := goodIn_app (goodIn_of _ (by decide +kernel)) ggX6_drift_X6_markBy
set_option maxRecDepth 20000 in
theorem ggX6_drift_X6_driftBy : GoodIn wsX6_drift wsX6_driftBy := goodIn_r _ [70, 1, 30, 31, 5, 32, 75, 76, 77, 78, 79, 80, 81, 82, 83, 84, 85, 86, 87, 88, 89, 90, 91, 92, 93] (by decide +kernel) (by decide +kernel)
set_option maxRecDepth 20000 in
theorem gX6_drift_X6_driftBy : GoodIn wsX6_drift (wsV RX6 139 RX6 yX6_driftBy wsX6_driftBy) := goodIn_app (goodIn_of _ (by decide +kernel)) ggX6_drift_X6_driftBy
theorem dX6_drift_0 : decode cX6_drift 0 = .ok (.aload_n 0, 1) := by decide +kernel
theorem dX6_drift_1 : decode cX6_drift 1 = .ok (.iload_n 1, 1) := by decide +kernel
theorem dX6_drift_2 : decode cX6_drift 2 = .ok (.invokevirtual 74, 3) := by decide +kernel
theorem dX6_drift_5 : decode cX6_drift 5 = .ok (.ifCond .ne 5, 3) := by decide +kernel
theorem dX6_drift_8 : decode cX6_drift 8 = .ok (.iconst (-1), 1) := by decide +kernel
theorem dX6_drift_9 : decode cX6_drift 9 = .ok (.ireturn, 1) := by decide +kernel
theorem dX6_drift_10 : decode cX6_drift 10 = .ok (.aload_n 0, 1) := by decide +kernel
theorem dX6_drift_11 : decode cX6_drift 11 = .ok (.invokevirtual 149, 3) := by decide +kernel
theorem dX6_drift_14 : decode cX6_drift 14 = .ok (.ifCond .ne 6, 3) := by decide +kernel
theorem dX6_drift_17 : decode cX6_drift 17 = .ok (.bipush (-9), 2) := by decide +kernel
theorem dX6_drift_19 : decode cX6_drift 19 = .ok (.ireturn, 1) := by decide +kernel
theorem dX6_drift_20 : decode cX6_drift 20 = .ok (.aload_n 0, 1) := by decide +kernel
theorem dX6_drift_21 : decode cX6_drift 21 = .ok (.aload_n 0, 1) := by decide +kernel
theorem dX6_drift_22 : decode cX6_drift 22 = .ok (.getfield 20, 3) := by decide +kernel
theorem dX6_drift_25 : decode cX6_drift 25 = .ok (.iconst 5, 1) := by decide +kernel
theorem dX6_drift_26 : decode cX6_drift 26 = .ok (.iload_n 1, 1) := by decide +kernel
theorem dX6_drift_27 : decode cX6_drift 27 = .ok (.imul, 1) := by decide +kernel
theorem dX6_drift_28 : decode cX6_drift 28 = .ok (.iaload, 1) := by decide +kernel
theorem dX6_drift_29 : decode cX6_drift 29 = .ok (.invokevirtual 153, 3) := by decide +kernel
theorem dX6_drift_32 : decode cX6_drift 32 = .ok (.istore_n 2, 1) := by decide +kernel
theorem dX6_drift_33 : decode cX6_drift 33 = .ok (.aload_n 0, 1) := by decide +kernel
theorem dX6_drift_34 : decode cX6_drift 34 = .ok (.aload_n 0, 1) := by decide +kernel
theorem dX6_drift_35 : decode cX6_drift 35 = .ok (.getfield 20, 3) := by decide +kernel
theorem dX6_drift_38 : decode cX6_drift 38 = .ok (.iconst 5, 1) := by decide +kernel
theorem dX6_drift_39 : decode cX6_drift 39 = .ok (.iload_n 1, 1) := by decide +kernel
theorem dX6_drift_40 : decode cX6_drift 40 = .ok (.imul, 1) := by decide +kernel
theorem dX6_drift_41 : decode cX6_drift 41 = .ok (.iconst 2, 1) := by decide +kernel
theorem dX6_drift_42 : decode cX6_drift 42 = .ok (.iadd, 1) := by decide +kernel
theorem dX6_drift_43 : decode cX6_drift 43 = .ok (.iaload, 1) := by decide +kernel
theorem dX6_drift_44 : decode cX6_drift 44 = .ok (.invokevirtual 153, 3) := by decide +kernel
theorem dX6_drift_47 : decode cX6_drift 47 = .ok (.istore_n 3, 1) := by decide +kernel
theorem dX6_drift_48 : decode cX6_drift 48 = .ok (.iload_n 2, 1) := by decide +kernel
theorem dX6_drift_49 : decode cX6_drift 49 = .ok (.bipush (-9), 2) := by decide +kernel
theorem dX6_drift_51 : decode cX6_drift 51 = .ok (.if_icmp .eq 9, 3) := by decide +kernel
theorem dX6_drift_54 : decode cX6_drift 54 = .ok (.iload_n 3, 1) := by decide +kernel
theorem dX6_drift_55 : decode cX6_drift 55 = .ok (.bipush (-9), 2) := by decide +kernel
theorem dX6_drift_57 : decode cX6_drift 57 = .ok (.if_icmp .ne 8, 3) := by decide +kernel
theorem dX6_drift_60 : decode cX6_drift 60 = .ok (.bipush (-9), 2) := by decide +kernel
theorem dX6_drift_62 : decode cX6_drift 62 = .ok (.goto 10, 3) := by decide +kernel
theorem dX6_drift_65 : decode cX6_drift 65 = .ok (.aload_n 0, 1) := by decide +kernel
theorem dX6_drift_66 : decode cX6_drift 66 = .ok (.iload_n 1, 1) := by decide +kernel
theorem dX6_drift_67 : decode cX6_drift 67 = .ok (.iload_n 2, 1) := by decide +kernel
theorem dX6_drift_68 : decode cX6_drift 68 = .ok (.iload_n 3, 1) := by decide +kernel
theorem dX6_drift_69 : decode cX6_drift 69 = .ok (.invokevirtual 139, 3) := by decide +kernel
theorem dX6_drift_72 : decode cX6_drift 72 = .ok (.ireturn, 1) := by decide +kernel
set_option maxRecDepth 20000 in
theorem ggX6_lastsBy_X6_common : GoodIn wsX6_lastsBy wsX6_common := goodIn_r _ [8] (by decide +kernel) (by decide +kernel)
set_option maxRecDepth 20000 in
theorem gX6_lastsBy_X6_common : GoodIn wsX6_lastsBy (va_wsS RX6 81 yX6_common wsX6_common) := goodIn_app (goodIn_of _ (by decide +kernel)) ggX6_lastsBy_X6_common
theorem dX6_lastsBy_0 : decode cX6_lastsBy 0 = .ok (.iload_n 2, 1) := by decide +kernel
theorem dX6_lastsBy_1 : decode cX6_lastsBy 1 = .ok (.i2l, 1) := by decide +kernel
theorem dX6_lastsBy_2 : decode cX6_lastsBy 2 = .ok (.aload_n 0, 1) := by decide +kernel
theorem dX6_lastsBy_3 : decode cX6_lastsBy 3 = .ok (.getfield 26, 3) := by decide +kernel
theorem dX6_lastsBy_6 : decode cX6_lastsBy 6 = .ok (.iload_n 1, 1) := by decide +kernel
theorem dX6_lastsBy_7 : decode cX6_lastsBy 7 = .ok (.laload, 1) := by decide +kernel
theorem dX6_lastsBy_8 : decode cX6_lastsBy 8 = .ok (.lmul, 1) := by decide +kernel
theorem dX6_lastsBy_9 : decode cX6_lastsBy 9 = .ok (.lstore_n 3, 1) := by decide +kernel
theorem dX6_lastsBy_10 : decode cX6_lastsBy 10 = .ok (.lload_n 3, 1) := by decide +kernel
theorem dX6_lastsBy_11 : decode cX6_lastsBy 11 = .ok (.aload_n 0, 1) := by decide +kernel
theorem dX6_lastsBy_12 : decode cX6_lastsBy 12 = .ok (.getfield 30, 3) := by decide +kernel
theorem dX6_lastsBy_15 : decode cX6_lastsBy 15 = .ok (.iload_n 1, 1) := by decide +kernel
theorem dX6_lastsBy_16 : decode cX6_lastsBy 16 = .ok (.laload, 1) := by decide +kernel
theorem dX6_lastsBy_17 : decode cX6_lastsBy 17 = .ok (.invokestatic 81, 3) := by decide +kernel
theorem dX6_lastsBy_20 : decode cX6_lastsBy 20 = .ok (.lstore 5, 2) := by decide +kernel
theorem dX6_lastsBy_22 : decode cX6_lastsBy 22 = .ok (.aload_n 0, 1) := by decide +kernel
theorem dX6_lastsBy_23 : decode cX6_lastsBy 23 = .ok (.getfield 7, 3) := by decide +kernel
theorem dX6_lastsBy_26 : decode cX6_lastsBy 26 = .ok (.iload_n 1, 1) := by decide +kernel
theorem dX6_lastsBy_27 : decode cX6_lastsBy 27 = .ok (.iaload, 1) := by decide +kernel
theorem dX6_lastsBy_28 : decode cX6_lastsBy 28 = .ok (.i2l, 1) := by decide +kernel
theorem dX6_lastsBy_29 : decode cX6_lastsBy 29 = .ok (.ldc2_w 156, 3) := by decide +kernel
theorem dX6_lastsBy_32 : decode cX6_lastsBy 32 = .ok (.lmul, 1) := by decide +kernel
theorem dX6_lastsBy_33 : decode cX6_lastsBy 33 = .ok (.aload_n 0, 1) := by decide +kernel
theorem dX6_lastsBy_34 : decode cX6_lastsBy 34 = .ok (.getfield 30, 3) := by decide +kernel
theorem dX6_lastsBy_37 : decode cX6_lastsBy 37 = .ok (.iload_n 1, 1) := by decide +kernel
theorem dX6_lastsBy_38 : decode cX6_lastsBy 38 = .ok (.laload, 1) := by decide +kernel
theorem dX6_lastsBy_39 : decode cX6_lastsBy 39 = .ok (.lload 5, 2) := by decide +kernel
theorem dX6_lastsBy_41 : decode cX6_lastsBy 41 = .ok (.ldiv, 1) := by decide +kernel
theorem dX6_lastsBy_42 : decode cX6_lastsBy 42 = .ok (.lmul, 1) := by decide +kernel
theorem dX6_lastsBy_43 : decode cX6_lastsBy 43 = .ok (.lload_n 3, 1) := by decide +kernel
theorem dX6_lastsBy_44 : decode cX6_lastsBy 44 = .ok (.lload 5, 2) := by decide +kernel
theorem dX6_lastsBy_46 : decode cX6_lastsBy 46 = .ok (.ldiv, 1) := by decide +kernel
theorem dX6_lastsBy_47 : decode cX6_lastsBy 47 = .ok (.ldiv, 1) := by decide +kernel
theorem dX6_lastsBy_48 : decode cX6_lastsBy 48 = .ok (.lreturn, 1) := by decide +kernel
set_option maxRecDepth 20000 in
theorem ggX6_beginsAt_X6_lastsBy : GoodIn wsX6_beginsAt wsX6_lastsBy := goodIn_r _ [7, 1, 8, 9, 10, 11, 12, 6, 13, 14, 15, 16, 17, 18, 19, 20, 21, 22, 23, 24, 25, 26, 27, 28, 29, 30, 31, 32] (by decide +kernel) (by decide +kernel)
set_option maxRecDepth 20000 in
theorem gX6_beginsAt_X6_lastsBy : GoodIn wsX6_beginsAt (wsV RX6 158 RX6 yX6_lastsBy wsX6_lastsBy) := goodIn_app (goodIn_of _ (by decide +kernel)) ggX6_beginsAt_X6_lastsBy
theorem dX6_beginsAt_0 : decode cX6_beginsAt 0 = .ok (.lconst 0, 1) := by decide +kernel
theorem dX6_beginsAt_1 : decode cX6_beginsAt 1 = .ok (.lstore_n 2, 1) := by decide +kernel
theorem dX6_beginsAt_2 : decode cX6_beginsAt 2 = .ok (.iconst 0, 1) := by decide +kernel
theorem dX6_beginsAt_3 : decode cX6_beginsAt 3 = .ok (.istore 4, 2) := by decide +kernel
theorem dX6_beginsAt_5 : decode cX6_beginsAt 5 = .ok (.iload 4, 2) := by decide +kernel
theorem dX6_beginsAt_7 : decode cX6_beginsAt 7 = .ok (.iload_n 1, 1) := by decide +kernel
theorem dX6_beginsAt_8 : decode cX6_beginsAt 8 = .ok (.if_icmp .ge 38, 3) := by decide +kernel
theorem dX6_beginsAt_11 : decode cX6_beginsAt 11 = .ok (.lload_n 2, 1) := by decide +kernel
theorem dX6_beginsAt_12 : decode cX6_beginsAt 12 = .ok (.aload_n 0, 1) := by decide +kernel
theorem dX6_beginsAt_13 : decode cX6_beginsAt 13 = .ok (.getfield 26, 3) := by decide +kernel
theorem dX6_beginsAt_16 : decode cX6_beginsAt 16 = .ok (.iload 4, 2) := by decide +kernel
theorem dX6_beginsAt_18 : decode cX6_beginsAt 18 = .ok (.laload, 1) := by decide +kernel
theorem dX6_beginsAt_19 : decode cX6_beginsAt 19 = .ok (.lconst 0, 1) := by decide +kernel
theorem dX6_beginsAt_20 : decode cX6_beginsAt 20 = .ok (.lcmp, 1) := by decide +kernel
theorem dX6_beginsAt_21 : decode cX6_beginsAt 21 = .ok (.ifCond .le 16, 3) := by decide +kernel
theorem dX6_beginsAt_24 : decode cX6_beginsAt 24 = .ok (.aload_n 0, 1) := by decide +kernel
theorem dX6_beginsAt_25 : decode cX6_beginsAt 25 = .ok (.iload 4, 2) := by decide +kernel
theorem dX6_beginsAt_27 : decode cX6_beginsAt 27 = .ok (.aload_n 0, 1) := by decide +kernel
theorem dX6_beginsAt_28 : decode cX6_beginsAt 28 = .ok (.getfield 16, 3) := by decide +kernel
theorem dX6_beginsAt_31 : decode cX6_beginsAt 31 = .ok (.invokevirtual 158, 3) := by decide +kernel
theorem dX6_beginsAt_34 : decode cX6_beginsAt 34 = .ok (.goto 4, 3) := by decide +kernel
theorem dX6_beginsAt_37 : decode cX6_beginsAt 37 = .ok (.lconst 0, 1) := by decide +kernel
theorem dX6_beginsAt_38 : decode cX6_beginsAt 38 = .ok (.ladd, 1) := by decide +kernel
theorem dX6_beginsAt_39 : decode cX6_beginsAt 39 = .ok (.lstore_n 2, 1) := by decide +kernel
theorem dX6_beginsAt_40 : decode cX6_beginsAt 40 = .ok (.iinc 4 1, 3) := by decide +kernel
theorem dX6_beginsAt_43 : decode cX6_beginsAt 43 = .ok (.goto (-38), 3) := by decide +kernel
theorem dX6_beginsAt_46 : decode cX6_beginsAt 46 = .ok (.lload_n 2, 1) := by decide +kernel
theorem dX6_beginsAt_47 : decode cX6_beginsAt 47 = .ok (.lreturn, 1) := by decide +kernel
set_option maxRecDepth 20000 in
theorem ggX6_clock_X6_isSection : GoodIn wsX6_clock wsX6_isSection := goodIn_r _ [10, 11, 12, 13, 9, 14, 55, 56, 57, 58, 59, 60, 61, 62, 63, 64, 65, 66, 67, 68, 69, 70, 71, 72, 73] (by decide +kernel) (by decide +kernel)
set_option maxRecDepth 20000 in
theorem gX6_clock_X6_isSection : GoodIn wsX6_clock (wsV RX6 67 RX6 yX6_isSection wsX6_isSection) := goodIn_app (goodIn_of _ (by decide +kernel)) ggX6_clock_X6_isSection
set_option maxRecDepth 20000 in
theorem ggX6_clock_X6_isIn : GoodIn wsX6_clock wsX6_isIn := goodIn_r _ [14] (by decide +kernel) (by decide +kernel)
set_option maxRecDepth 20000 in
theorem gX6_clock_X6_isIn : GoodIn wsX6_clock (va_wsS RX6 60 yX6_isIn wsX6_isIn) := goodIn_app (goodIn_of _ (by decide +kernel)) ggX6_clock_X6_isIn
set_option maxRecDepth 20000 in
theorem ggX6_clock_X6_spreadAll : GoodIn wsX6_clock wsX6_spreadAll := goodIn_r _ [18, 19, 20, 21, 22, 9, 23, 24, 25, 3, 26, 27, 28, 29, 30, 31, 32, 33, 34, 35, 36, 37, 38, 39, 40, 41, 42, 43, 44, 55, 56, 57, 58, 59, 60, 61, 62, 63, 64, 65, 66, 67, 68, 69, 70, 71, 72, 73] (by decide +kernel) (by decide +kernel)
set_option maxRecDepth 20000 in
theorem gX6_clock_X6_spreadAll : GoodIn wsX6_clock (wsV RX6 102 RX6 yX6_spreadAll wsX6_spreadAll) := goodIn_app (goodIn_of _ (by decide +kernel)) ggX6_clock_X6_spreadAll
set_option maxRecDepth 20000 in
theorem ggX6_clock_X6_beginsAt : GoodIn wsX6_clock wsX6_beginsAt := goodIn_r _ [48, 3, 5, 49, 50, 51, 9, 52, 26, 53, 54, 42, 43, 44, 55, 56, 57, 58, 59, 60, 61, 62, 63, 64, 65, 66, 67, 68, 69, 70, 71, 72, 73] (by decide +kernel) (by decide +kernel)
set_option maxRecDepth 20000 in
theorem gX6_clock_X6_beginsAt : GoodIn wsX6_clock (wsV RX6 162 RX6 yX6_beginsAt wsX6_beginsAt) := goodIn_app (goodIn_of _ (by decide +kernel)) ggX6_clock_X6_beginsAt
set_option maxRecDepth 20000 in
theorem ggX6_clock_X6_lastsBy : GoodIn wsX6_clock wsX6_lastsBy := goodIn_r _ [52, 3, 26, 53, 54, 42, 43, 9, 44, 55, 56, 57, 58, 59, 60, 61, 62, 63, 64, 65, 66, 67, 68, 69, 70, 71, 72, 73] (by decide +kernel) (by decide +kernel)
set_option maxRecDepth 20000 in
theorem gX6_clock_X6_lastsBy : GoodIn wsX6_clock (wsV RX6 158 RX6 yX6_lastsBy wsX6_lastsBy) := goodIn_app (goodIn_of _ (by decide +kernel)) ggX6_clock_X6_lastsBy
theorem dX6_clock_0 : decode cX6_clock 0 = .ok (.aload_n 0, 1) := by decide +kernel
theorem dX6_clock_1 : decode cX6_clock 1 = .ok (.iload_n 1, 1) := by decide +kernel
theorem dX6_clock_2 : decode cX6_clock 2 = .ok (.invokevirtual 67, 3) := by decide +kernel
theorem dX6_clock_5 : decode cX6_clock 5 = .ok (.ifCond .ne 7, 3) := by decide +kernel
theorem dX6_clock_8 : decode cX6_clock 8 = .ok (.ldc2_w 116, 3) := by decide +kernel
theorem dX6_clock_11 : decode cX6_clock 11 = .ok (.lreturn, 1) := by decide +kernel
theorem dX6_clock_12 : decode cX6_clock 12 = .ok (.iload_n 2, 1) := by decide +kernel
theorem dX6_clock_13 : decode cX6_clock 13 = .ok (.iconst 0, 1) := by decide +kernel
theorem dX6_clock_14 : decode cX6_clock 14 = .ok (.iconst 1, 1) := by decide +kernel
theorem dX6_clock_15 : decode cX6_clock 15 = .ok (.invokestatic 60, 3) := by decide +kernel
theorem dX6_clock_18 : decode cX6_clock 18 = .ok (.ifCond .ne 7, 3) := by decide +kernel
theorem dX6_clock_21 : decode cX6_clock 21 = .ok (.ldc2_w 118, 3) := by decide +kernel
theorem dX6_clock_24 : decode cX6_clock 24 = .ok (.lreturn, 1) := by decide +kernel
theorem dX6_clock_25 : decode cX6_clock 25 = .ok (.aload_n 0, 1) := by decide +kernel
theorem dX6_clock_26 : decode cX6_clock 26 = .ok (.iconst 0, 1) := by decide +kernel
theorem dX6_clock_27 : decode cX6_clock 27 = .ok (.invokevirtual 102, 3) := by decide +kernel
theorem dX6_clock_30 : decode cX6_clock 30 = .ok (.aload_n 0, 1) := by decide +kernel
theorem dX6_clock_31 : decode cX6_clock 31 = .ok (.getfield 26, 3) := by decide +kernel
theorem dX6_clock_34 : decode cX6_clock 34 = .ok (.iload_n 1, 1) := by decide +kernel
theorem dX6_clock_35 : decode cX6_clock 35 = .ok (.laload, 1) := by decide +kernel
theorem dX6_clock_36 : decode cX6_clock 36 = .ok (.lconst 0, 1) := by decide +kernel
theorem dX6_clock_37 : decode cX6_clock 37 = .ok (.lcmp, 1) := by decide +kernel
theorem dX6_clock_38 : decode cX6_clock 38 = .ok (.ifCond .ne 9, 3) := by decide +kernel
theorem dX6_clock_41 : decode cX6_clock 41 = .ok (.ldc2_w 120, 3) := by decide +kernel
theorem dX6_clock_44 : decode cX6_clock 44 = .ok (.goto 24, 3) := by decide +kernel
theorem dX6_clock_47 : decode cX6_clock 47 = .ok (.iload_n 2, 1) := by decide +kernel
theorem dX6_clock_48 : decode cX6_clock 48 = .ok (.ifCond .ne 11, 3) := by decide +kernel
theorem dX6_clock_51 : decode cX6_clock 51 = .ok (.aload_n 0, 1) := by decide +kernel
theorem dX6_clock_52 : decode cX6_clock 52 = .ok (.iload_n 1, 1) := by decide +kernel
theorem dX6_clock_53 : decode cX6_clock 53 = .ok (.invokevirtual 162, 3) := by decide +kernel
theorem dX6_clock_56 : decode cX6_clock 56 = .ok (.goto 12, 3) := by decide +kernel
theorem dX6_clock_59 : decode cX6_clock 59 = .ok (.aload_n 0, 1) := by decide +kernel
theorem dX6_clock_60 : decode cX6_clock 60 = .ok (.iload_n 1, 1) := by decide +kernel
theorem dX6_clock_61 : decode cX6_clock 61 = .ok (.aload_n 0, 1) := by decide +kernel
theorem dX6_clock_62 : decode cX6_clock 62 = .ok (.getfield 16, 3) := by decide +kernel
theorem dX6_clock_65 : decode cX6_clock 65 = .ok (.invokevirtual 158, 3) := by decide +kernel
theorem dX6_clock_68 : decode cX6_clock 68 = .ok (.lreturn, 1) := by decide +kernel
set_option maxRecDepth 20000 in
theorem ggX6_whole_X6_spreadAll : GoodIn wsX6_whole wsX6_spreadAll := goodIn_r _ [6, 7, 8, 9, 10, 5, 11, 12, 13, 14, 15, 16, 17, 18, 19, 20, 21, 22, 23, 24, 25, 26, 27, 28, 29, 30, 31, 32, 33, 45, 46, 47, 48, 49, 50, 51, 52, 53, 54, 55, 56, 57, 58, 59, 60, 61, 62, 63] (by decide +kernel) (by decide +kernel)
set_option maxRecDepth 20000 in
theorem gX6_whole_X6_spreadAll : GoodIn wsX6_whole (wsV RX6 102 RX6 yX6_spreadAll wsX6_spreadAll) := goodIn_app (goodIn_of _ (by decide +kernel)) ggX6_whole_X6_spreadAll
set_option maxRecDepth 20000 in
theorem ggX6_whole_X6_beginsAt : GoodIn wsX6_whole wsX6_beginsAt := goodIn_r _ [37, 14, 38, 39, 40, 41, 5, 42, 15, 43, 44, 31, 32, 33, 45, 46, 47, 48, 49, 50, 51, 52, 53, 54, 55, 56, 57, 58, 59, 60, 61, 62, 63] (by decide +kernel) (by decide +kernel)
set_option maxRecDepth 20000 in
theorem gX6_whole_X6_beginsAt : GoodIn wsX6_whole (wsV RX6 162 RX6 yX6_beginsAt wsX6_beginsAt) := goodIn_app (goodIn_of _ (by decide +kernel)) ggX6_whole_X6_beginsAt
theorem dX6_whole_0 : decode cX6_whole 0 = .ok (.aload_n 0, 1) := by decide +kernel
theorem dX6_whole_1 : decode cX6_whole 1 = .ok (.iconst 0, 1) := by decide +kernel
theorem dX6_whole_2 : decode cX6_whole 2 = .ok (.invokevirtual 102, 3) := by decide +kernel
theorem dX6_whole_5 : decode cX6_whole 5 = .ok (.aload_n 0, 1) := by decide +kernel
theorem dX6_whole_6 : decode cX6_whole 6 = .ok (.aload_n 0, 1) := by decide +kernel
theorem dX6_whole_7 : decode cX6_whole 7 = .ok (.getfield 57, 3) := by decide +kernel
theorem dX6_whole_10 : decode cX6_whole 10 = .ok (.invokevirtual 162, 3) := by decide +kernel
theorem dX6_whole_13 : decode cX6_whole 13 = .ok (.lreturn, 1) := by decide +kernel
set_option maxRecDepth 20000 in
theorem ggX6_where_X6_isIn : GoodIn wsX6_where wsX6_isIn := goodIn_r _ [8] (by decide +kernel) (by decide +kernel)
set_option maxRecDepth 20000 in
theorem gX6_where_X6_isIn : GoodIn wsX6_where (va_wsS RX6 60 yX6_isIn wsX6_isIn) := goodIn_app (goodIn_of _ (by decide +kernel)) ggX6_where_X6_isIn
set_option maxRecDepth 20000 in
theorem ggX6_where_X6_spreadAll : GoodIn wsX6_where wsX6_spreadAll := goodIn_r _ [12, 13, 14, 15, 16, 7, 17, 18, 19, 3, 20, 21, 22, 23, 24, 25, 26, 27, 28, 29, 30, 31, 32, 33, 34, 35, 36, 37, 38, 45, 46, 47, 48, 49, 50, 51, 52, 53, 54, 55, 56, 57, 58, 59, 60, 61, 62, 63] (by decide +kernel) (by decide +kernel)
set_option maxRecDepth 20000 in
theorem gX6_where_X6_spreadAll : GoodIn wsX6_where (wsV RX6 102 RX6 yX6_spreadAll wsX6_spreadAll) := goodIn_app (goodIn_of _ (by decide +kernel)) ggX6_where_X6_spreadAll
set_option maxRecDepth 20000 in
theorem ggX6_where_X6_lastsBy : GoodIn wsX6_where wsX6_lastsBy := goodIn_r _ [42, 3, 20, 43, 44, 36, 37, 7, 38, 45, 46, 47, 48, 49, 50, 51, 52, 53, 54, 55, 56, 57, 58, 59, 60, 61, 62, 63] (by decide +kernel) (by decide +kernel)
set_option maxRecDepth 20000 in
theorem gX6_where_X6_lastsBy : GoodIn wsX6_where (wsV RX6 158 RX6 yX6_lastsBy wsX6_lastsBy) := goodIn_app (goodIn_of _ (by decide +kernel)) ggX6_where_X6_lastsBy
theorem dX6_where_0 : decode cX6_where 0 = .ok (.iload_n 1, 1) := by decide +kernel
theorem dX6_where_1 : decode cX6_where 1 = .ok (.iconst 0, 1) := by decide +kernel
theorem dX6_where_2 : decode cX6_where 2 = .ok (.ldc 166, 2) := by decide +kernel
theorem dX6_where_4 : decode cX6_where 4 = .ok (.invokestatic 60, 3) := by decide +kernel
theorem dX6_where_7 : decode cX6_where 7 = .ok (.ifCond .eq 12, 3) := by decide +kernel
theorem dX6_where_10 : decode cX6_where 10 = .ok (.iload_n 2, 1) := by decide +kernel
theorem dX6_where_11 : decode cX6_where 11 = .ok (.iconst 0, 1) := by decide +kernel
theorem dX6_where_12 : decode cX6_where 12 = .ok (.iconst 1, 1) := by decide +kernel
theorem dX6_where_13 : decode cX6_where 13 = .ok (.invokestatic 60, 3) := by decide +kernel
theorem dX6_where_16 : decode cX6_where 16 = .ok (.ifCond .ne 6, 3) := by decide +kernel
theorem dX6_where_19 : decode cX6_where 19 = .ok (.bipush (-2), 2) := by decide +kernel
theorem dX6_where_21 : decode cX6_where 21 = .ok (.ireturn, 1) := by decide +kernel
theorem dX6_where_22 : decode cX6_where 22 = .ok (.aload_n 0, 1) := by decide +kernel
theorem dX6_where_23 : decode cX6_where 23 = .ok (.iconst 0, 1) := by decide +kernel
theorem dX6_where_24 : decode cX6_where 24 = .ok (.invokevirtual 102, 3) := by decide +kernel
theorem dX6_where_27 : decode cX6_where 27 = .ok (.iload_n 1, 1) := by decide +kernel
theorem dX6_where_28 : decode cX6_where 28 = .ok (.i2l, 1) := by decide +kernel
theorem dX6_where_29 : decode cX6_where 29 = .ok (.lstore_n 3, 1) := by decide +kernel
theorem dX6_where_30 : decode cX6_where 30 = .ok (.iconst 0, 1) := by decide +kernel
theorem dX6_where_31 : decode cX6_where 31 = .ok (.istore 5, 2) := by decide +kernel
theorem dX6_where_33 : decode cX6_where 33 = .ok (.iload 5, 2) := by decide +kernel
theorem dX6_where_35 : decode cX6_where 35 = .ok (.aload_n 0, 1) := by decide +kernel
theorem dX6_where_36 : decode cX6_where 36 = .ok (.getfield 57, 3) := by decide +kernel
theorem dX6_where_39 : decode cX6_where 39 = .ok (.if_icmp .ge 61, 3) := by decide +kernel
theorem dX6_where_42 : decode cX6_where 42 = .ok (.aload_n 0, 1) := by decide +kernel
theorem dX6_where_43 : decode cX6_where 43 = .ok (.getfield 26, 3) := by decide +kernel
theorem dX6_where_46 : decode cX6_where 46 = .ok (.iload 5, 2) := by decide +kernel
theorem dX6_where_48 : decode cX6_where 48 = .ok (.laload, 1) := by decide +kernel
theorem dX6_where_49 : decode cX6_where 49 = .ok (.lconst 0, 1) := by decide +kernel
theorem dX6_where_50 : decode cX6_where 50 = .ok (.lcmp, 1) := by decide +kernel
theorem dX6_where_51 : decode cX6_where 51 = .ok (.ifCond .le 16, 3) := by decide +kernel
theorem dX6_where_54 : decode cX6_where 54 = .ok (.aload_n 0, 1) := by decide +kernel
theorem dX6_where_55 : decode cX6_where 55 = .ok (.iload 5, 2) := by decide +kernel
theorem dX6_where_57 : decode cX6_where 57 = .ok (.aload_n 0, 1) := by decide +kernel
theorem dX6_where_58 : decode cX6_where 58 = .ok (.getfield 16, 3) := by decide +kernel
theorem dX6_where_61 : decode cX6_where 61 = .ok (.invokevirtual 158, 3) := by decide +kernel
theorem dX6_where_64 : decode cX6_where 64 = .ok (.goto 4, 3) := by decide +kernel
theorem dX6_where_67 : decode cX6_where 67 = .ok (.lconst 0, 1) := by decide +kernel
theorem dX6_where_68 : decode cX6_where 68 = .ok (.lstore 6, 2) := by decide +kernel
theorem dX6_where_70 : decode cX6_where 70 = .ok (.lload_n 3, 1) := by decide +kernel
theorem dX6_where_71 : decode cX6_where 71 = .ok (.lload 6, 2) := by decide +kernel
theorem dX6_where_73 : decode cX6_where 73 = .ok (.lcmp, 1) := by decide +kernel
theorem dX6_where_74 : decode cX6_where 74 = .ok (.ifCond .ge 15, 3) := by decide +kernel
theorem dX6_where_77 : decode cX6_where 77 = .ok (.iload_n 2, 1) := by decide +kernel
theorem dX6_where_78 : decode cX6_where 78 = .ok (.ifCond .ne 8, 3) := by decide +kernel
theorem dX6_where_81 : decode cX6_where 81 = .ok (.iload 5, 2) := by decide +kernel
theorem dX6_where_83 : decode cX6_where 83 = .ok (.goto 5, 3) := by decide +kernel
theorem dX6_where_86 : decode cX6_where 86 = .ok (.lload_n 3, 1) := by decide +kernel
theorem dX6_where_87 : decode cX6_where 87 = .ok (.l2i, 1) := by decide +kernel
theorem dX6_where_88 : decode cX6_where 88 = .ok (.ireturn, 1) := by decide +kernel
theorem dX6_where_89 : decode cX6_where 89 = .ok (.lload_n 3, 1) := by decide +kernel
theorem dX6_where_90 : decode cX6_where 90 = .ok (.lload 6, 2) := by decide +kernel
theorem dX6_where_92 : decode cX6_where 92 = .ok (.lsub, 1) := by decide +kernel
theorem dX6_where_93 : decode cX6_where 93 = .ok (.lstore_n 3, 1) := by decide +kernel
theorem dX6_where_94 : decode cX6_where 94 = .ok (.iinc 5 1, 3) := by decide +kernel
theorem dX6_where_97 : decode cX6_where 97 = .ok (.goto (-64), 3) := by decide +kernel
theorem dX6_where_100 : decode cX6_where 100 = .ok (.bipush (-9), 2) := by decide +kernel
theorem dX6_where_102 : decode cX6_where 102 = .ok (.ireturn, 1) := by decide +kernel
set_option maxRecDepth 20000 in
theorem ggX6_within_X6_isIn : GoodIn wsX6_within wsX6_isIn := goodIn_r _ [7] (by decide +kernel) (by decide +kernel)
set_option maxRecDepth 20000 in
theorem gX6_within_X6_isIn : GoodIn wsX6_within (va_wsS RX6 60 yX6_isIn wsX6_isIn) := goodIn_app (goodIn_of _ (by decide +kernel)) ggX6_within_X6_isIn
set_option maxRecDepth 20000 in
theorem ggX6_within_X6_spreadAll : GoodIn wsX6_within wsX6_spreadAll := goodIn_r _ [11, 12, 13, 14, 15, 6, 16, 17, 18, 3, 19, 20, 21, 22, 23, 24, 25, 26, 27, 28, 29, 30, 31, 32, 33, 34, 35, 36, 37, 44, 45, 46, 47, 48, 49, 50, 51, 52, 53, 54, 55, 56, 57, 58, 59, 60, 61, 62] (by decide +kernel) (by decide +kernel)
set_option maxRecDepth 20000 in
theorem gX6_within_X6_spreadAll : GoodIn wsX6_within (wsV RX6 102 RX6 yX6_spreadAll wsX6_spreadAll) := goodIn_app (goodIn_of _ (by decide +kernel)) ggX6_within_X6_spreadAll
set_option maxRecDepth 20000 in
theorem ggX6_within_X6_lastsBy : GoodIn wsX6_within wsX6_lastsBy := goodIn_r _ [41, 3, 19, 42, 43, 35, 36, 6, 37, 44, 45, 46, 47, 48, 49, 50, 51, 52, 53, 54, 55, 56, 57, 58, 59, 60, 61, 62] (by decide +kernel) (by decide +kernel)
set_option maxRecDepth 20000 in
theorem gX6_within_X6_lastsBy : GoodIn wsX6_within (wsV RX6 158 RX6 yX6_lastsBy wsX6_lastsBy) := goodIn_app (goodIn_of _ (by decide +kernel)) ggX6_within_X6_lastsBy
theorem dX6_within_0 : decode cX6_within 0 = .ok (.iload_n 1, 1) := by decide +kernel
theorem dX6_within_1 : decode cX6_within 1 = .ok (.iconst 0, 1) := by decide +kernel
theorem dX6_within_2 : decode cX6_within 2 = .ok (.ldc 166, 2) := by decide +kernel
theorem dX6_within_4 : decode cX6_within 4 = .ok (.invokestatic 60, 3) := by decide +kernel
theorem dX6_within_7 : decode cX6_within 7 = .ok (.ifCond .ne 6, 3) := by decide +kernel
theorem dX6_within_10 : decode cX6_within 10 = .ok (.bipush (-2), 2) := by decide +kernel
theorem dX6_within_12 : decode cX6_within 12 = .ok (.ireturn, 1) := by decide +kernel
theorem dX6_within_13 : decode cX6_within 13 = .ok (.aload_n 0, 1) := by decide +kernel
theorem dX6_within_14 : decode cX6_within 14 = .ok (.iconst 0, 1) := by decide +kernel
theorem dX6_within_15 : decode cX6_within 15 = .ok (.invokevirtual 102, 3) := by decide +kernel
theorem dX6_within_18 : decode cX6_within 18 = .ok (.bipush 20, 2) := by decide +kernel
theorem dX6_within_20 : decode cX6_within 20 = .ok (.istore_n 2, 1) := by decide +kernel
theorem dX6_within_21 : decode cX6_within 21 = .ok (.iload_n 2, 1) := by decide +kernel
theorem dX6_within_22 : decode cX6_within 22 = .ok (.sipush 400, 3) := by decide +kernel
theorem dX6_within_25 : decode cX6_within 25 = .ok (.if_icmp .gt 64, 3) := by decide +kernel
theorem dX6_within_28 : decode cX6_within 28 = .ok (.lconst 0, 1) := by decide +kernel
theorem dX6_within_29 : decode cX6_within 29 = .ok (.lstore_n 3, 1) := by decide +kernel
theorem dX6_within_30 : decode cX6_within 30 = .ok (.iconst 0, 1) := by decide +kernel
theorem dX6_within_31 : decode cX6_within 31 = .ok (.istore 5, 2) := by decide +kernel
theorem dX6_within_33 : decode cX6_within 33 = .ok (.iload 5, 2) := by decide +kernel
theorem dX6_within_35 : decode cX6_within 35 = .ok (.aload_n 0, 1) := by decide +kernel
theorem dX6_within_36 : decode cX6_within 36 = .ok (.getfield 57, 3) := by decide +kernel
theorem dX6_within_39 : decode cX6_within 39 = .ok (.if_icmp .ge 35, 3) := by decide +kernel
theorem dX6_within_42 : decode cX6_within 42 = .ok (.lload_n 3, 1) := by decide +kernel
theorem dX6_within_43 : decode cX6_within 43 = .ok (.aload_n 0, 1) := by decide +kernel
theorem dX6_within_44 : decode cX6_within 44 = .ok (.getfield 26, 3) := by decide +kernel
theorem dX6_within_47 : decode cX6_within 47 = .ok (.iload 5, 2) := by decide +kernel
theorem dX6_within_49 : decode cX6_within 49 = .ok (.laload, 1) := by decide +kernel
theorem dX6_within_50 : decode cX6_within 50 = .ok (.lconst 0, 1) := by decide +kernel
theorem dX6_within_51 : decode cX6_within 51 = .ok (.lcmp, 1) := by decide +kernel
theorem dX6_within_52 : decode cX6_within 52 = .ok (.ifCond .le 13, 3) := by decide +kernel
theorem dX6_within_55 : decode cX6_within 55 = .ok (.aload_n 0, 1) := by decide +kernel
theorem dX6_within_56 : decode cX6_within 56 = .ok (.iload 5, 2) := by decide +kernel
theorem dX6_within_58 : decode cX6_within 58 = .ok (.iload_n 2, 1) := by decide +kernel
theorem dX6_within_59 : decode cX6_within 59 = .ok (.invokevirtual 158, 3) := by decide +kernel
theorem dX6_within_62 : decode cX6_within 62 = .ok (.goto 4, 3) := by decide +kernel
theorem dX6_within_65 : decode cX6_within 65 = .ok (.lconst 0, 1) := by decide +kernel
theorem dX6_within_66 : decode cX6_within 66 = .ok (.ladd, 1) := by decide +kernel
theorem dX6_within_67 : decode cX6_within 67 = .ok (.lstore_n 3, 1) := by decide +kernel
theorem dX6_within_68 : decode cX6_within 68 = .ok (.iinc 5 1, 3) := by decide +kernel
theorem dX6_within_71 : decode cX6_within 71 = .ok (.goto (-38), 3) := by decide +kernel
theorem dX6_within_74 : decode cX6_within 74 = .ok (.lload_n 3, 1) := by decide +kernel
theorem dX6_within_75 : decode cX6_within 75 = .ok (.iload_n 1, 1) := by decide +kernel
theorem dX6_within_76 : decode cX6_within 76 = .ok (.i2l, 1) := by decide +kernel
theorem dX6_within_77 : decode cX6_within 77 = .ok (.lcmp, 1) := by decide +kernel
theorem dX6_within_78 : decode cX6_within 78 = .ok (.ifCond .gt 5, 3) := by decide +kernel
theorem dX6_within_81 : decode cX6_within 81 = .ok (.iload_n 2, 1) := by decide +kernel
theorem dX6_within_82 : decode cX6_within 82 = .ok (.ireturn, 1) := by decide +kernel
theorem dX6_within_83 : decode cX6_within 83 = .ok (.iinc 2 1, 3) := by decide +kernel
theorem dX6_within_86 : decode cX6_within 86 = .ok (.goto (-65), 3) := by decide +kernel
theorem dX6_within_89 : decode cX6_within 89 = .ok (.bipush (-9), 2) := by decide +kernel
theorem dX6_within_91 : decode cX6_within 91 = .ok (.ireturn, 1) := by decide +kernel
set_option maxRecDepth 20000 in
theorem ggX6_pivot_X6_isSection : GoodIn wsX6_pivot wsX6_isSection := goodIn_r _ [8, 9, 10, 11, 7, 12, 42, 43, 44, 45, 46, 47, 48, 49, 50, 51, 52, 53, 54, 55, 56, 57, 58, 59, 60] (by decide +kernel) (by decide +kernel)
set_option maxRecDepth 20000 in
theorem gX6_pivot_X6_isSection : GoodIn wsX6_pivot (wsV RX6 67 RX6 yX6_isSection wsX6_isSection) := goodIn_app (goodIn_of _ (by decide +kernel)) ggX6_pivot_X6_isSection
set_option maxRecDepth 20000 in
theorem ggX6_pivot_X6_isIn : GoodIn wsX6_pivot wsX6_isIn := goodIn_r _ [12] (by decide +kernel) (by decide +kernel)
set_option maxRecDepth 20000 in
theorem gX6_pivot_X6_isIn : GoodIn wsX6_pivot (va_wsS RX6 60 yX6_isIn wsX6_isIn) := goodIn_app (goodIn_of _ (by decide +kernel)) ggX6_pivot_X6_isIn
set_option maxRecDepth 20000 in
theorem ggX6_pivot_X6_spreadAll : GoodIn wsX6_pivot wsX6_spreadAll := goodIn_r _ [16, 17, 18, 19, 20, 7, 21, 22, 23, 1, 3, 24, 25, 26, 27, 28, 29, 30, 31, 32, 33, 34, 35, 36, 37, 38, 39, 40, 41, 42, 43, 44, 45, 46, 47, 48, 49, 50, 51, 52, 53, 54, 55, 56, 57, 58, 59, 60] (by decide +kernel) (by decide +kernel)
set_option maxRecDepth 20000 in
theorem gX6_pivot_X6_spreadAll : GoodIn wsX6_pivot (wsV RX6 102 RX6 yX6_spreadAll wsX6_spreadAll) := goodIn_app (goodIn_of _ (by decide +kernel)) ggX6_pivot_X6_spreadAll
set_option maxRecDepth 20000 in
theorem ggX6_pivot_X6_ticksOf : GoodIn wsX6_pivot wsX6_ticksOf := goodIn_r _ [26] (by decide +kernel) (by decide +kernel)
set_option maxRecDepth 20000 in
theorem gX6_pivot_X6_ticksOf : GoodIn wsX6_pivot (va_wsS RX6 77 yX6_ticksOf wsX6_ticksOf) := goodIn_app (goodIn_of _ (by decide +kernel)) ggX6_pivot_X6_ticksOf
theorem dX6_pivot_0 : decode cX6_pivot 0 = .ok (.aload_n 0, 1) := by decide +kernel
theorem dX6_pivot_1 : decode cX6_pivot 1 = .ok (.iload_n 1, 1) := by decide +kernel
theorem dX6_pivot_2 : decode cX6_pivot 2 = .ok (.invokevirtual 67, 3) := by decide +kernel
theorem dX6_pivot_5 : decode cX6_pivot 5 = .ok (.ifCond .ne 5, 3) := by decide +kernel
theorem dX6_pivot_8 : decode cX6_pivot 8 = .ok (.iconst (-1), 1) := by decide +kernel
theorem dX6_pivot_9 : decode cX6_pivot 9 = .ok (.ireturn, 1) := by decide +kernel
theorem dX6_pivot_10 : decode cX6_pivot 10 = .ok (.iload_n 2, 1) := by decide +kernel
theorem dX6_pivot_11 : decode cX6_pivot 11 = .ok (.bipush 20, 2) := by decide +kernel
theorem dX6_pivot_13 : decode cX6_pivot 13 = .ok (.sipush 400, 3) := by decide +kernel
theorem dX6_pivot_16 : decode cX6_pivot 16 = .ok (.invokestatic 60, 3) := by decide +kernel
theorem dX6_pivot_19 : decode cX6_pivot 19 = .ok (.ifCond .eq 14, 3) := by decide +kernel
theorem dX6_pivot_22 : decode cX6_pivot 22 = .ok (.iload_n 3, 1) := by decide +kernel
theorem dX6_pivot_23 : decode cX6_pivot 23 = .ok (.iconst (-1), 1) := by decide +kernel
theorem dX6_pivot_24 : decode cX6_pivot 24 = .ok (.sipush 399, 3) := by decide +kernel
theorem dX6_pivot_27 : decode cX6_pivot 27 = .ok (.invokestatic 60, 3) := by decide +kernel
theorem dX6_pivot_30 : decode cX6_pivot 30 = .ok (.ifCond .ne 6, 3) := by decide +kernel
theorem dX6_pivot_33 : decode cX6_pivot 33 = .ok (.bipush (-2), 2) := by decide +kernel
theorem dX6_pivot_35 : decode cX6_pivot 35 = .ok (.ireturn, 1) := by decide +kernel
theorem dX6_pivot_36 : decode cX6_pivot 36 = .ok (.aload_n 0, 1) := by decide +kernel
theorem dX6_pivot_37 : decode cX6_pivot 37 = .ok (.iconst 0, 1) := by decide +kernel
theorem dX6_pivot_38 : decode cX6_pivot 38 = .ok (.invokevirtual 102, 3) := by decide +kernel
theorem dX6_pivot_41 : decode cX6_pivot 41 = .ok (.aload_n 0, 1) := by decide +kernel
theorem dX6_pivot_42 : decode cX6_pivot 42 = .ok (.getfield 26, 3) := by decide +kernel
theorem dX6_pivot_45 : decode cX6_pivot 45 = .ok (.iload_n 1, 1) := by decide +kernel
theorem dX6_pivot_46 : decode cX6_pivot 46 = .ok (.laload, 1) := by decide +kernel
theorem dX6_pivot_47 : decode cX6_pivot 47 = .ok (.lconst 0, 1) := by decide +kernel
theorem dX6_pivot_48 : decode cX6_pivot 48 = .ok (.lcmp, 1) := by decide +kernel
theorem dX6_pivot_49 : decode cX6_pivot 49 = .ok (.ifCond .ne 6, 3) := by decide +kernel
theorem dX6_pivot_52 : decode cX6_pivot 52 = .ok (.bipush (-3), 2) := by decide +kernel
theorem dX6_pivot_54 : decode cX6_pivot 54 = .ok (.ireturn, 1) := by decide +kernel
theorem dX6_pivot_55 : decode cX6_pivot 55 = .ok (.iconst 0, 1) := by decide +kernel
theorem dX6_pivot_56 : decode cX6_pivot 56 = .ok (.istore 4, 2) := by decide +kernel
theorem dX6_pivot_58 : decode cX6_pivot 58 = .ok (.iconst 0, 1) := by decide +kernel
theorem dX6_pivot_59 : decode cX6_pivot 59 = .ok (.istore 5, 2) := by decide +kernel
theorem dX6_pivot_61 : decode cX6_pivot 61 = .ok (.iload 5, 2) := by decide +kernel
theorem dX6_pivot_63 : decode cX6_pivot 63 = .ok (.sipush 400, 3) := by decide +kernel
theorem dX6_pivot_66 : decode cX6_pivot 66 = .ok (.if_icmp .ge 80, 3) := by decide +kernel
theorem dX6_pivot_69 : decode cX6_pivot 69 = .ok (.iload 5, 2) := by decide +kernel
theorem dX6_pivot_71 : decode cX6_pivot 71 = .ok (.bipush 20, 2) := by decide +kernel
theorem dX6_pivot_73 : decode cX6_pivot 73 = .ok (.idiv, 1) := by decide +kernel
theorem dX6_pivot_74 : decode cX6_pivot 74 = .ok (.istore 6, 2) := by decide +kernel
theorem dX6_pivot_76 : decode cX6_pivot 76 = .ok (.iload 5, 2) := by decide +kernel
theorem dX6_pivot_78 : decode cX6_pivot 78 = .ok (.bipush 20, 2) := by decide +kernel
theorem dX6_pivot_80 : decode cX6_pivot 80 = .ok (.irem, 1) := by decide +kernel
theorem dX6_pivot_81 : decode cX6_pivot 81 = .ok (.istore 7, 2) := by decide +kernel
theorem dX6_pivot_83 : decode cX6_pivot 83 = .ok (.aload_n 0, 1) := by decide +kernel
theorem dX6_pivot_84 : decode cX6_pivot 84 = .ok (.getfield 16, 3) := by decide +kernel
theorem dX6_pivot_87 : decode cX6_pivot 87 = .ok (.i2l, 1) := by decide +kernel
theorem dX6_pivot_88 : decode cX6_pivot 88 = .ok (.aload_n 0, 1) := by decide +kernel
theorem dX6_pivot_89 : decode cX6_pivot 89 = .ok (.getfield 26, 3) := by decide +kernel
theorem dX6_pivot_92 : decode cX6_pivot 92 = .ok (.iload_n 1, 1) := by decide +kernel
theorem dX6_pivot_93 : decode cX6_pivot 93 = .ok (.laload, 1) := by decide +kernel
theorem dX6_pivot_94 : decode cX6_pivot 94 = .ok (.lmul, 1) := by decide +kernel
theorem dX6_pivot_95 : decode cX6_pivot 95 = .ok (.iload 7, 2) := by decide +kernel
theorem dX6_pivot_97 : decode cX6_pivot 97 = .ok (.invokestatic 77, 3) := by decide +kernel
theorem dX6_pivot_100 : decode cX6_pivot 100 = .ok (.i2l, 1) := by decide +kernel
theorem dX6_pivot_101 : decode cX6_pivot 101 = .ok (.lmul, 1) := by decide +kernel
theorem dX6_pivot_102 : decode cX6_pivot 102 = .ok (.iload_n 2, 1) := by decide +kernel
theorem dX6_pivot_103 : decode cX6_pivot 103 = .ok (.i2l, 1) := by decide +kernel
theorem dX6_pivot_104 : decode cX6_pivot 104 = .ok (.aload_n 0, 1) := by decide +kernel
theorem dX6_pivot_105 : decode cX6_pivot 105 = .ok (.getfield 30, 3) := by decide +kernel
theorem dX6_pivot_108 : decode cX6_pivot 108 = .ok (.iload_n 1, 1) := by decide +kernel
theorem dX6_pivot_109 : decode cX6_pivot 109 = .ok (.laload, 1) := by decide +kernel
theorem dX6_pivot_110 : decode cX6_pivot 110 = .ok (.lmul, 1) := by decide +kernel
theorem dX6_pivot_111 : decode cX6_pivot 111 = .ok (.iload 6, 2) := by decide +kernel
theorem dX6_pivot_113 : decode cX6_pivot 113 = .ok (.invokestatic 77, 3) := by decide +kernel
theorem dX6_pivot_116 : decode cX6_pivot 116 = .ok (.i2l, 1) := by decide +kernel
theorem dX6_pivot_117 : decode cX6_pivot 117 = .ok (.lmul, 1) := by decide +kernel
theorem dX6_pivot_118 : decode cX6_pivot 118 = .ok (.lcmp, 1) := by decide +kernel
theorem dX6_pivot_119 : decode cX6_pivot 119 = .ok (.ifCond .ne 21, 3) := by decide +kernel
theorem dX6_pivot_122 : decode cX6_pivot 122 = .ok (.iload 4, 2) := by decide +kernel
theorem dX6_pivot_124 : decode cX6_pivot 124 = .ok (.iload_n 3, 1) := by decide +kernel
theorem dX6_pivot_125 : decode cX6_pivot 125 = .ok (.if_icmp .ne 12, 3) := by decide +kernel
theorem dX6_pivot_128 : decode cX6_pivot 128 = .ok (.bipush 100, 2) := by decide +kernel
theorem dX6_pivot_130 : decode cX6_pivot 130 = .ok (.iload 6, 2) := by decide +kernel
theorem dX6_pivot_132 : decode cX6_pivot 132 = .ok (.imul, 1) := by decide +kernel
theorem dX6_pivot_133 : decode cX6_pivot 133 = .ok (.iload 7, 2) := by decide +kernel
theorem dX6_pivot_135 : decode cX6_pivot 135 = .ok (.iadd, 1) := by decide +kernel
theorem dX6_pivot_136 : decode cX6_pivot 136 = .ok (.ireturn, 1) := by decide +kernel
theorem dX6_pivot_137 : decode cX6_pivot 137 = .ok (.iinc 4 1, 3) := by decide +kernel
theorem dX6_pivot_140 : decode cX6_pivot 140 = .ok (.iinc 5 1, 3) := by decide +kernel
theorem dX6_pivot_143 : decode cX6_pivot 143 = .ok (.goto (-82), 3) := by decide +kernel
theorem dX6_pivot_146 : decode cX6_pivot 146 = .ok (.iload_n 3, 1) := by decide +kernel
theorem dX6_pivot_147 : decode cX6_pivot 147 = .ok (.ifCond .ge 8, 3) := by decide +kernel
theorem dX6_pivot_150 : decode cX6_pivot 150 = .ok (.iload 4, 2) := by decide +kernel
theorem dX6_pivot_152 : decode cX6_pivot 152 = .ok (.goto 5, 3) := by decide +kernel
theorem dX6_pivot_155 : decode cX6_pivot 155 = .ok (.bipush (-9), 2) := by decide +kernel
theorem dX6_pivot_157 : decode cX6_pivot 157 = .ok (.ireturn, 1) := by decide +kernel
theorem dX6_timesIn_0 : decode cX6_timesIn 0 = .ok (.iconst 0, 1) := by decide +kernel
theorem dX6_timesIn_1 : decode cX6_timesIn 1 = .ok (.istore_n 2, 1) := by decide +kernel
theorem dX6_timesIn_2 : decode cX6_timesIn 2 = .ok (.iload_n 0, 1) := by decide +kernel
theorem dX6_timesIn_3 : decode cX6_timesIn 3 = .ok (.istore_n 3, 1) := by decide +kernel
theorem dX6_timesIn_4 : decode cX6_timesIn 4 = .ok (.iload_n 3, 1) := by decide +kernel
theorem dX6_timesIn_5 : decode cX6_timesIn 5 = .ok (.iload_n 1, 1) := by decide +kernel
theorem dX6_timesIn_6 : decode cX6_timesIn 6 = .ok (.irem, 1) := by decide +kernel
theorem dX6_timesIn_7 : decode cX6_timesIn 7 = .ok (.ifCond .ne 13, 3) := by decide +kernel
theorem dX6_timesIn_10 : decode cX6_timesIn 10 = .ok (.iinc 2 1, 3) := by decide +kernel
theorem dX6_timesIn_13 : decode cX6_timesIn 13 = .ok (.iload_n 3, 1) := by decide +kernel
theorem dX6_timesIn_14 : decode cX6_timesIn 14 = .ok (.iload_n 1, 1) := by decide +kernel
theorem dX6_timesIn_15 : decode cX6_timesIn 15 = .ok (.idiv, 1) := by decide +kernel
theorem dX6_timesIn_16 : decode cX6_timesIn 16 = .ok (.istore_n 3, 1) := by decide +kernel
theorem dX6_timesIn_17 : decode cX6_timesIn 17 = .ok (.goto (-13), 3) := by decide +kernel
theorem dX6_timesIn_20 : decode cX6_timesIn 20 = .ok (.iload_n 2, 1) := by decide +kernel
theorem dX6_timesIn_21 : decode cX6_timesIn 21 = .ok (.ireturn, 1) := by decide +kernel
theorem dX6_power_0 : decode cX6_power 0 = .ok (.lconst 1, 1) := by decide +kernel
theorem dX6_power_1 : decode cX6_power 1 = .ok (.lstore_n 2, 1) := by decide +kernel
theorem dX6_power_2 : decode cX6_power 2 = .ok (.iconst 0, 1) := by decide +kernel
theorem dX6_power_3 : decode cX6_power 3 = .ok (.istore 4, 2) := by decide +kernel
theorem dX6_power_5 : decode cX6_power 5 = .ok (.iload 4, 2) := by decide +kernel
theorem dX6_power_7 : decode cX6_power 7 = .ok (.iload_n 1, 1) := by decide +kernel
theorem dX6_power_8 : decode cX6_power 8 = .ok (.if_icmp .ge 14, 3) := by decide +kernel
theorem dX6_power_11 : decode cX6_power 11 = .ok (.lload_n 2, 1) := by decide +kernel
theorem dX6_power_12 : decode cX6_power 12 = .ok (.iload_n 0, 1) := by decide +kernel
theorem dX6_power_13 : decode cX6_power 13 = .ok (.i2l, 1) := by decide +kernel
theorem dX6_power_14 : decode cX6_power 14 = .ok (.lmul, 1) := by decide +kernel
theorem dX6_power_15 : decode cX6_power 15 = .ok (.lstore_n 2, 1) := by decide +kernel
theorem dX6_power_16 : decode cX6_power 16 = .ok (.iinc 4 1, 3) := by decide +kernel
theorem dX6_power_19 : decode cX6_power 19 = .ok (.goto (-14), 3) := by decide +kernel
theorem dX6_power_22 : decode cX6_power 22 = .ok (.lload_n 2, 1) := by decide +kernel
theorem dX6_power_23 : decode cX6_power 23 = .ok (.lreturn, 1) := by decide +kernel
theorem dX6_indexOf_0 : decode cX6_indexOf 0 = .ok (.bipush 21, 2) := by decide +kernel
theorem dX6_indexOf_2 : decode cX6_indexOf 2 = .ok (.iload_n 0, 1) := by decide +kernel
theorem dX6_indexOf_3 : decode cX6_indexOf 3 = .ok (.bipush 30, 2) := by decide +kernel
theorem dX6_indexOf_5 : decode cX6_indexOf 5 = .ok (.iadd, 1) := by decide +kernel
theorem dX6_indexOf_6 : decode cX6_indexOf 6 = .ok (.imul, 1) := by decide +kernel
theorem dX6_indexOf_7 : decode cX6_indexOf 7 = .ok (.iload_n 1, 1) := by decide +kernel
theorem dX6_indexOf_8 : decode cX6_indexOf 8 = .ok (.iadd, 1) := by decide +kernel
theorem dX6_indexOf_9 : decode cX6_indexOf 9 = .ok (.bipush 10, 2) := by decide +kernel
theorem dX6_indexOf_11 : decode cX6_indexOf 11 = .ok (.iadd, 1) := by decide +kernel
theorem dX6_indexOf_12 : decode cX6_indexOf 12 = .ok (.ireturn, 1) := by decide +kernel
set_option maxRecDepth 20000 in
theorem ggX6_isPlayed_X6_isIn : GoodIn wsX6_isPlayed wsX6_isIn := goodIn_r _ [6] (by decide +kernel) (by decide +kernel)
set_option maxRecDepth 20000 in
theorem gX6_isPlayed_X6_isIn : GoodIn wsX6_isPlayed (va_wsS RX6 60 yX6_isIn wsX6_isIn) := goodIn_app (goodIn_of _ (by decide +kernel)) ggX6_isPlayed_X6_isIn
set_option maxRecDepth 20000 in
theorem ggX6_isPlayed_X6_power : GoodIn wsX6_isPlayed wsX6_power := goodIn_r _ [9] (by decide +kernel) (by decide +kernel)
set_option maxRecDepth 20000 in
theorem gX6_isPlayed_X6_power : GoodIn wsX6_isPlayed (va_wsS RX6 167 yX6_power wsX6_power) := goodIn_app (goodIn_of _ (by decide +kernel)) ggX6_isPlayed_X6_power
theorem dX6_isPlayed_0 : decode cX6_isPlayed 0 = .ok (.iload_n 1, 1) := by decide +kernel
theorem dX6_isPlayed_1 : decode cX6_isPlayed 1 = .ok (.bipush (-30), 2) := by decide +kernel
theorem dX6_isPlayed_3 : decode cX6_isPlayed 3 = .ok (.bipush 30, 2) := by decide +kernel
theorem dX6_isPlayed_5 : decode cX6_isPlayed 5 = .ok (.invokestatic 60, 3) := by decide +kernel
theorem dX6_isPlayed_8 : decode cX6_isPlayed 8 = .ok (.ifCond .eq 14, 3) := by decide +kernel
theorem dX6_isPlayed_11 : decode cX6_isPlayed 11 = .ok (.iload_n 2, 1) := by decide +kernel
theorem dX6_isPlayed_12 : decode cX6_isPlayed 12 = .ok (.bipush (-10), 2) := by decide +kernel
theorem dX6_isPlayed_14 : decode cX6_isPlayed 14 = .ok (.bipush 10, 2) := by decide +kernel
theorem dX6_isPlayed_16 : decode cX6_isPlayed 16 = .ok (.invokestatic 60, 3) := by decide +kernel
theorem dX6_isPlayed_19 : decode cX6_isPlayed 19 = .ok (.ifCond .ne 5, 3) := by decide +kernel
theorem dX6_isPlayed_22 : decode cX6_isPlayed 22 = .ok (.iconst 0, 1) := by decide +kernel
theorem dX6_isPlayed_23 : decode cX6_isPlayed 23 = .ok (.ireturn, 1) := by decide +kernel
theorem dX6_isPlayed_24 : decode cX6_isPlayed 24 = .ok (.iload_n 0, 1) := by decide +kernel
theorem dX6_isPlayed_25 : decode cX6_isPlayed 25 = .ok (.i2l, 1) := by decide +kernel
theorem dX6_isPlayed_26 : decode cX6_isPlayed 26 = .ok (.iconst 2, 1) := by decide +kernel
theorem dX6_isPlayed_27 : decode cX6_isPlayed 27 = .ok (.iload_n 1, 1) := by decide +kernel
theorem dX6_isPlayed_28 : decode cX6_isPlayed 28 = .ok (.ifCond .le 7, 3) := by decide +kernel
theorem dX6_isPlayed_31 : decode cX6_isPlayed 31 = .ok (.iload_n 1, 1) := by decide +kernel
theorem dX6_isPlayed_32 : decode cX6_isPlayed 32 = .ok (.goto 4, 3) := by decide +kernel
theorem dX6_isPlayed_35 : decode cX6_isPlayed 35 = .ok (.iconst 0, 1) := by decide +kernel
theorem dX6_isPlayed_36 : decode cX6_isPlayed 36 = .ok (.invokestatic 167, 3) := by decide +kernel
theorem dX6_isPlayed_39 : decode cX6_isPlayed 39 = .ok (.lmul, 1) := by decide +kernel
theorem dX6_isPlayed_40 : decode cX6_isPlayed 40 = .ok (.iconst 3, 1) := by decide +kernel
theorem dX6_isPlayed_41 : decode cX6_isPlayed 41 = .ok (.iload_n 2, 1) := by decide +kernel
theorem dX6_isPlayed_42 : decode cX6_isPlayed 42 = .ok (.ifCond .le 7, 3) := by decide +kernel
theorem dX6_isPlayed_45 : decode cX6_isPlayed 45 = .ok (.iload_n 2, 1) := by decide +kernel
theorem dX6_isPlayed_46 : decode cX6_isPlayed 46 = .ok (.goto 4, 3) := by decide +kernel
theorem dX6_isPlayed_49 : decode cX6_isPlayed 49 = .ok (.iconst 0, 1) := by decide +kernel
theorem dX6_isPlayed_50 : decode cX6_isPlayed 50 = .ok (.invokestatic 167, 3) := by decide +kernel
theorem dX6_isPlayed_53 : decode cX6_isPlayed 53 = .ok (.lmul, 1) := by decide +kernel
theorem dX6_isPlayed_54 : decode cX6_isPlayed 54 = .ok (.lstore_n 3, 1) := by decide +kernel
theorem dX6_isPlayed_55 : decode cX6_isPlayed 55 = .ok (.iconst 2, 1) := by decide +kernel
theorem dX6_isPlayed_56 : decode cX6_isPlayed 56 = .ok (.iload_n 1, 1) := by decide +kernel
theorem dX6_isPlayed_57 : decode cX6_isPlayed 57 = .ok (.ifCond .ge 8, 3) := by decide +kernel
theorem dX6_isPlayed_60 : decode cX6_isPlayed 60 = .ok (.iload_n 1, 1) := by decide +kernel
theorem dX6_isPlayed_61 : decode cX6_isPlayed 61 = .ok (.ineg, 1) := by decide +kernel
theorem dX6_isPlayed_62 : decode cX6_isPlayed 62 = .ok (.goto 4, 3) := by decide +kernel
theorem dX6_isPlayed_65 : decode cX6_isPlayed 65 = .ok (.iconst 0, 1) := by decide +kernel
theorem dX6_isPlayed_66 : decode cX6_isPlayed 66 = .ok (.invokestatic 167, 3) := by decide +kernel
theorem dX6_isPlayed_69 : decode cX6_isPlayed 69 = .ok (.iconst 3, 1) := by decide +kernel
theorem dX6_isPlayed_70 : decode cX6_isPlayed 70 = .ok (.iload_n 2, 1) := by decide +kernel
theorem dX6_isPlayed_71 : decode cX6_isPlayed 71 = .ok (.ifCond .ge 8, 3) := by decide +kernel
theorem dX6_isPlayed_74 : decode cX6_isPlayed 74 = .ok (.iload_n 2, 1) := by decide +kernel
theorem dX6_isPlayed_75 : decode cX6_isPlayed 75 = .ok (.ineg, 1) := by decide +kernel
theorem dX6_isPlayed_76 : decode cX6_isPlayed 76 = .ok (.goto 4, 3) := by decide +kernel
theorem dX6_isPlayed_79 : decode cX6_isPlayed 79 = .ok (.iconst 0, 1) := by decide +kernel
theorem dX6_isPlayed_80 : decode cX6_isPlayed 80 = .ok (.invokestatic 167, 3) := by decide +kernel
theorem dX6_isPlayed_83 : decode cX6_isPlayed 83 = .ok (.lmul, 1) := by decide +kernel
theorem dX6_isPlayed_84 : decode cX6_isPlayed 84 = .ok (.lstore 5, 2) := by decide +kernel
theorem dX6_isPlayed_86 : decode cX6_isPlayed 86 = .ok (.lload_n 3, 1) := by decide +kernel
theorem dX6_isPlayed_87 : decode cX6_isPlayed 87 = .ok (.ldc2_w 170, 3) := by decide +kernel
theorem dX6_isPlayed_90 : decode cX6_isPlayed 90 = .ok (.lload 5, 2) := by decide +kernel
theorem dX6_isPlayed_92 : decode cX6_isPlayed 92 = .ok (.lmul, 1) := by decide +kernel
theorem dX6_isPlayed_93 : decode cX6_isPlayed 93 = .ok (.lcmp, 1) := by decide +kernel
theorem dX6_isPlayed_94 : decode cX6_isPlayed 94 = .ok (.ifCond .lt 18, 3) := by decide +kernel
theorem dX6_isPlayed_97 : decode cX6_isPlayed 97 = .ok (.lload_n 3, 1) := by decide +kernel
theorem dX6_isPlayed_98 : decode cX6_isPlayed 98 = .ok (.ldc2_w 172, 3) := by decide +kernel
theorem dX6_isPlayed_101 : decode cX6_isPlayed 101 = .ok (.lload 5, 2) := by decide +kernel
theorem dX6_isPlayed_103 : decode cX6_isPlayed 103 = .ok (.lmul, 1) := by decide +kernel
theorem dX6_isPlayed_104 : decode cX6_isPlayed 104 = .ok (.lcmp, 1) := by decide +kernel
theorem dX6_isPlayed_105 : decode cX6_isPlayed 105 = .ok (.ifCond .gt 7, 3) := by decide +kernel
theorem dX6_isPlayed_108 : decode cX6_isPlayed 108 = .ok (.iconst 1, 1) := by decide +kernel
theorem dX6_isPlayed_109 : decode cX6_isPlayed 109 = .ok (.goto 4, 3) := by decide +kernel
theorem dX6_isPlayed_112 : decode cX6_isPlayed 112 = .ok (.iconst 0, 1) := by decide +kernel
theorem dX6_isPlayed_113 : decode cX6_isPlayed 113 = .ok (.ireturn, 1) := by decide +kernel
set_option maxRecDepth 20000 in
theorem ggX6_twosBy_X6_ticksOf : GoodIn wsX6_twosBy wsX6_ticksOf := goodIn_r _ [4] (by decide +kernel) (by decide +kernel)
set_option maxRecDepth 20000 in
theorem gX6_twosBy_X6_ticksOf : GoodIn wsX6_twosBy (va_wsS RX6 77 yX6_ticksOf wsX6_ticksOf) := goodIn_app (goodIn_of _ (by decide +kernel)) ggX6_twosBy_X6_ticksOf
set_option maxRecDepth 20000 in
theorem ggX6_twosBy_X6_timesIn : GoodIn wsX6_twosBy wsX6_timesIn := goodIn_r _ [7] (by decide +kernel) (by decide +kernel)
set_option maxRecDepth 20000 in
theorem gX6_twosBy_X6_timesIn : GoodIn wsX6_twosBy (va_wsS RX6 174 yX6_timesIn wsX6_timesIn) := goodIn_app (goodIn_of _ (by decide +kernel)) ggX6_twosBy_X6_timesIn
theorem dX6_twosBy_0 : decode cX6_twosBy 0 = .ok (.iload_n 1, 1) := by decide +kernel
theorem dX6_twosBy_1 : decode cX6_twosBy 1 = .ok (.invokestatic 77, 3) := by decide +kernel
theorem dX6_twosBy_4 : decode cX6_twosBy 4 = .ok (.iconst 2, 1) := by decide +kernel
theorem dX6_twosBy_5 : decode cX6_twosBy 5 = .ok (.invokestatic 174, 3) := by decide +kernel
theorem dX6_twosBy_8 : decode cX6_twosBy 8 = .ok (.iload_n 0, 1) := by decide +kernel
theorem dX6_twosBy_9 : decode cX6_twosBy 9 = .ok (.invokestatic 77, 3) := by decide +kernel
theorem dX6_twosBy_12 : decode cX6_twosBy 12 = .ok (.iconst 2, 1) := by decide +kernel
theorem dX6_twosBy_13 : decode cX6_twosBy 13 = .ok (.invokestatic 174, 3) := by decide +kernel
theorem dX6_twosBy_16 : decode cX6_twosBy 16 = .ok (.isub, 1) := by decide +kernel
theorem dX6_twosBy_17 : decode cX6_twosBy 17 = .ok (.ireturn, 1) := by decide +kernel
set_option maxRecDepth 20000 in
theorem ggX6_threesBy_X6_ticksOf : GoodIn wsX6_threesBy wsX6_ticksOf := goodIn_r _ [4] (by decide +kernel) (by decide +kernel)
set_option maxRecDepth 20000 in
theorem gX6_threesBy_X6_ticksOf : GoodIn wsX6_threesBy (va_wsS RX6 77 yX6_ticksOf wsX6_ticksOf) := goodIn_app (goodIn_of _ (by decide +kernel)) ggX6_threesBy_X6_ticksOf
set_option maxRecDepth 20000 in
theorem ggX6_threesBy_X6_timesIn : GoodIn wsX6_threesBy wsX6_timesIn := goodIn_r _ [7] (by decide +kernel) (by decide +kernel)
set_option maxRecDepth 20000 in
theorem gX6_threesBy_X6_timesIn : GoodIn wsX6_threesBy (va_wsS RX6 174 yX6_timesIn wsX6_timesIn) := goodIn_app (goodIn_of _ (by decide +kernel)) ggX6_threesBy_X6_timesIn
theorem dX6_threesBy_0 : decode cX6_threesBy 0 = .ok (.iload_n 1, 1) := by decide +kernel
theorem dX6_threesBy_1 : decode cX6_threesBy 1 = .ok (.invokestatic 77, 3) := by decide +kernel
theorem dX6_threesBy_4 : decode cX6_threesBy 4 = .ok (.iconst 3, 1) := by decide +kernel
theorem dX6_threesBy_5 : decode cX6_threesBy 5 = .ok (.invokestatic 174, 3) := by decide +kernel
theorem dX6_threesBy_8 : decode cX6_threesBy 8 = .ok (.iload_n 0, 1) := by decide +kernel
theorem dX6_threesBy_9 : decode cX6_threesBy 9 = .ok (.invokestatic 77, 3) := by decide +kernel
theorem dX6_threesBy_12 : decode cX6_threesBy 12 = .ok (.iconst 3, 1) := by decide +kernel
theorem dX6_threesBy_13 : decode cX6_threesBy 13 = .ok (.invokestatic 174, 3) := by decide +kernel
theorem dX6_threesBy_16 : decode cX6_threesBy 16 = .ok (.isub, 1) := by decide +kernel
theorem dX6_threesBy_17 : decode cX6_threesBy 17 = .ok (.ireturn, 1) := by decide +kernel
theorem dX6_isOf_0 : decode cX6_isOf 0 = .ok (.iload_n 0, 1) := by decide +kernel
theorem dX6_isOf_1 : decode cX6_isOf 1 = .ok (.iload_n 1, 1) := by decide +kernel
theorem dX6_isOf_2 : decode cX6_isOf 2 = .ok (.ishr, 1) := by decide +kernel
theorem dX6_isOf_3 : decode cX6_isOf 3 = .ok (.iload_n 0, 1) := by decide +kernel
theorem dX6_isOf_4 : decode cX6_isOf 4 = .ok (.iload_n 2, 1) := by decide +kernel
theorem dX6_isOf_5 : decode cX6_isOf 5 = .ok (.ishr, 1) := by decide +kernel
theorem dX6_isOf_6 : decode cX6_isOf 6 = .ok (.iand, 1) := by decide +kernel
theorem dX6_isOf_7 : decode cX6_isOf 7 = .ok (.iconst 1, 1) := by decide +kernel
theorem dX6_isOf_8 : decode cX6_isOf 8 = .ok (.iand, 1) := by decide +kernel
theorem dX6_isOf_9 : decode cX6_isOf 9 = .ok (.iconst 1, 1) := by decide +kernel
theorem dX6_isOf_10 : decode cX6_isOf 10 = .ok (.if_icmp .ne 7, 3) := by decide +kernel
theorem dX6_isOf_13 : decode cX6_isOf 13 = .ok (.iconst 1, 1) := by decide +kernel
theorem dX6_isOf_14 : decode cX6_isOf 14 = .ok (.goto 4, 3) := by decide +kernel
theorem dX6_isOf_17 : decode cX6_isOf 17 = .ok (.iconst 0, 1) := by decide +kernel
theorem dX6_isOf_18 : decode cX6_isOf 18 = .ok (.ireturn, 1) := by decide +kernel
set_option maxRecDepth 20000 in
theorem ggX6_stepsMore_X6_isOf : GoodIn wsX6_stepsMore wsX6_isOf := goodIn_r _ [5] (by decide +kernel) (by decide +kernel)
set_option maxRecDepth 20000 in
theorem gX6_stepsMore_X6_isOf : GoodIn wsX6_stepsMore (va_wsS RX6 178 yX6_isOf wsX6_isOf) := goodIn_app (goodIn_of _ (by decide +kernel)) ggX6_stepsMore_X6_isOf
set_option maxRecDepth 20000 in
theorem ggX6_stepsMore_X6_twosBy : GoodIn wsX6_stepsMore wsX6_twosBy := goodIn_r _ [8, 9, 10, 4, 11, 12, 13, 14] (by decide +kernel) (by decide +kernel)
set_option maxRecDepth 20000 in
theorem gX6_stepsMore_X6_twosBy : GoodIn wsX6_stepsMore (va_wsS RX6 181 yX6_twosBy wsX6_twosBy) := goodIn_app (goodIn_of _ (by decide +kernel)) ggX6_stepsMore_X6_twosBy
set_option maxRecDepth 20000 in
theorem ggX6_stepsMore_X6_threesBy : GoodIn wsX6_stepsMore wsX6_threesBy := goodIn_r _ [17, 9, 10, 4, 11, 12, 13, 14] (by decide +kernel) (by decide +kernel)
set_option maxRecDepth 20000 in
theorem gX6_stepsMore_X6_threesBy : GoodIn wsX6_stepsMore (va_wsS RX6 184 yX6_threesBy wsX6_threesBy) := goodIn_app (goodIn_of _ (by decide +kernel)) ggX6_stepsMore_X6_threesBy
set_option maxRecDepth 20000 in
theorem ggX6_stepsMore_X6_isPlayed : GoodIn wsX6_stepsMore wsX6_isPlayed := goodIn_r _ [20, 21, 22, 23, 24, 4, 25, 26, 27, 28] (by decide +kernel) (by decide +kernel)
set_option maxRecDepth 20000 in
theorem gX6_stepsMore_X6_isPlayed : GoodIn wsX6_stepsMore (va_wsS RX6 187 yX6_isPlayed wsX6_isPlayed) := goodIn_app (goodIn_of _ (by decide +kernel)) ggX6_stepsMore_X6_isPlayed
set_option maxRecDepth 20000 in
theorem ggX6_stepsMore_X6_indexOf : GoodIn wsX6_stepsMore wsX6_indexOf := goodIn_r _ [31] (by decide +kernel) (by decide +kernel)
set_option maxRecDepth 20000 in
theorem gX6_stepsMore_X6_indexOf : GoodIn wsX6_stepsMore (va_wsS RX6 190 yX6_indexOf wsX6_indexOf) := goodIn_app (goodIn_of _ (by decide +kernel)) ggX6_stepsMore_X6_indexOf
theorem dX6_stepsMore_0 : decode cX6_stepsMore 0 = .ok (.iconst 0, 1) := by decide +kernel
theorem dX6_stepsMore_1 : decode cX6_stepsMore 1 = .ok (.istore 4, 2) := by decide +kernel
theorem dX6_stepsMore_3 : decode cX6_stepsMore 3 = .ok (.iload 4, 2) := by decide +kernel
theorem dX6_stepsMore_5 : decode cX6_stepsMore 5 = .ok (.sipush 1281, 3) := by decide +kernel
theorem dX6_stepsMore_8 : decode cX6_stepsMore 8 = .ok (.if_icmp .ge 141, 3) := by decide +kernel
theorem dX6_stepsMore_11 : decode cX6_stepsMore 11 = .ok (.iconst 0, 1) := by decide +kernel
theorem dX6_stepsMore_12 : decode cX6_stepsMore 12 = .ok (.istore 5, 2) := by decide +kernel
theorem dX6_stepsMore_14 : decode cX6_stepsMore 14 = .ok (.iload 5, 2) := by decide +kernel
theorem dX6_stepsMore_16 : decode cX6_stepsMore 16 = .ok (.sipush 400, 3) := by decide +kernel
theorem dX6_stepsMore_19 : decode cX6_stepsMore 19 = .ok (.if_icmp .ge 124, 3) := by decide +kernel
theorem dX6_stepsMore_22 : decode cX6_stepsMore 22 = .ok (.aload_n 0, 1) := by decide +kernel
theorem dX6_stepsMore_23 : decode cX6_stepsMore 23 = .ok (.getfield 54, 3) := by decide +kernel
theorem dX6_stepsMore_26 : decode cX6_stepsMore 26 = .ok (.iload 4, 2) := by decide +kernel
theorem dX6_stepsMore_28 : decode cX6_stepsMore 28 = .ok (.iaload, 1) := by decide +kernel
theorem dX6_stepsMore_29 : decode cX6_stepsMore 29 = .ok (.iload_n 3, 1) := by decide +kernel
theorem dX6_stepsMore_30 : decode cX6_stepsMore 30 = .ok (.if_icmp .ne 113, 3) := by decide +kernel
theorem dX6_stepsMore_33 : decode cX6_stepsMore 33 = .ok (.iload 5, 2) := by decide +kernel
theorem dX6_stepsMore_35 : decode cX6_stepsMore 35 = .ok (.bipush 20, 2) := by decide +kernel
theorem dX6_stepsMore_37 : decode cX6_stepsMore 37 = .ok (.idiv, 1) := by decide +kernel
theorem dX6_stepsMore_38 : decode cX6_stepsMore 38 = .ok (.istore 6, 2) := by decide +kernel
theorem dX6_stepsMore_40 : decode cX6_stepsMore 40 = .ok (.iload 5, 2) := by decide +kernel
theorem dX6_stepsMore_42 : decode cX6_stepsMore 42 = .ok (.bipush 20, 2) := by decide +kernel
theorem dX6_stepsMore_44 : decode cX6_stepsMore 44 = .ok (.irem, 1) := by decide +kernel
theorem dX6_stepsMore_45 : decode cX6_stepsMore 45 = .ok (.istore 7, 2) := by decide +kernel
theorem dX6_stepsMore_47 : decode cX6_stepsMore 47 = .ok (.iload_n 2, 1) := by decide +kernel
theorem dX6_stepsMore_48 : decode cX6_stepsMore 48 = .ok (.iload 6, 2) := by decide +kernel
theorem dX6_stepsMore_50 : decode cX6_stepsMore 50 = .ok (.iload 7, 2) := by decide +kernel
theorem dX6_stepsMore_52 : decode cX6_stepsMore 52 = .ok (.invokestatic 178, 3) := by decide +kernel
theorem dX6_stepsMore_55 : decode cX6_stepsMore 55 = .ok (.ifCond .eq 82, 3) := by decide +kernel
theorem dX6_stepsMore_58 : decode cX6_stepsMore 58 = .ok (.iload 4, 2) := by decide +kernel
theorem dX6_stepsMore_60 : decode cX6_stepsMore 60 = .ok (.bipush 21, 2) := by decide +kernel
theorem dX6_stepsMore_62 : decode cX6_stepsMore 62 = .ok (.idiv, 1) := by decide +kernel
theorem dX6_stepsMore_63 : decode cX6_stepsMore 63 = .ok (.bipush 30, 2) := by decide +kernel
theorem dX6_stepsMore_65 : decode cX6_stepsMore 65 = .ok (.isub, 1) := by decide +kernel
theorem dX6_stepsMore_66 : decode cX6_stepsMore 66 = .ok (.iload 6, 2) := by decide +kernel
theorem dX6_stepsMore_68 : decode cX6_stepsMore 68 = .ok (.iload 7, 2) := by decide +kernel
theorem dX6_stepsMore_70 : decode cX6_stepsMore 70 = .ok (.invokestatic 181, 3) := by decide +kernel
theorem dX6_stepsMore_73 : decode cX6_stepsMore 73 = .ok (.iadd, 1) := by decide +kernel
theorem dX6_stepsMore_74 : decode cX6_stepsMore 74 = .ok (.istore 8, 2) := by decide +kernel
theorem dX6_stepsMore_76 : decode cX6_stepsMore 76 = .ok (.iload 4, 2) := by decide +kernel
theorem dX6_stepsMore_78 : decode cX6_stepsMore 78 = .ok (.bipush 21, 2) := by decide +kernel
theorem dX6_stepsMore_80 : decode cX6_stepsMore 80 = .ok (.irem, 1) := by decide +kernel
theorem dX6_stepsMore_81 : decode cX6_stepsMore 81 = .ok (.bipush 10, 2) := by decide +kernel
theorem dX6_stepsMore_83 : decode cX6_stepsMore 83 = .ok (.isub, 1) := by decide +kernel
theorem dX6_stepsMore_84 : decode cX6_stepsMore 84 = .ok (.iload 6, 2) := by decide +kernel
theorem dX6_stepsMore_86 : decode cX6_stepsMore 86 = .ok (.iload 7, 2) := by decide +kernel
theorem dX6_stepsMore_88 : decode cX6_stepsMore 88 = .ok (.invokestatic 184, 3) := by decide +kernel
theorem dX6_stepsMore_91 : decode cX6_stepsMore 91 = .ok (.iadd, 1) := by decide +kernel
theorem dX6_stepsMore_92 : decode cX6_stepsMore 92 = .ok (.istore 9, 2) := by decide +kernel
theorem dX6_stepsMore_94 : decode cX6_stepsMore 94 = .ok (.iload_n 1, 1) := by decide +kernel
theorem dX6_stepsMore_95 : decode cX6_stepsMore 95 = .ok (.iload 8, 2) := by decide +kernel
theorem dX6_stepsMore_97 : decode cX6_stepsMore 97 = .ok (.iload 9, 2) := by decide +kernel
theorem dX6_stepsMore_99 : decode cX6_stepsMore 99 = .ok (.invokestatic 187, 3) := by decide +kernel
theorem dX6_stepsMore_102 : decode cX6_stepsMore 102 = .ok (.ifCond .eq 35, 3) := by decide +kernel
theorem dX6_stepsMore_105 : decode cX6_stepsMore 105 = .ok (.aload_n 0, 1) := by decide +kernel
theorem dX6_stepsMore_106 : decode cX6_stepsMore 106 = .ok (.getfield 54, 3) := by decide +kernel
theorem dX6_stepsMore_109 : decode cX6_stepsMore 109 = .ok (.iload 8, 2) := by decide +kernel
theorem dX6_stepsMore_111 : decode cX6_stepsMore 111 = .ok (.iload 9, 2) := by decide +kernel
theorem dX6_stepsMore_113 : decode cX6_stepsMore 113 = .ok (.invokestatic 190, 3) := by decide +kernel
theorem dX6_stepsMore_116 : decode cX6_stepsMore 116 = .ok (.iaload, 1) := by decide +kernel
theorem dX6_stepsMore_117 : decode cX6_stepsMore 117 = .ok (.bipush (-9), 2) := by decide +kernel
theorem dX6_stepsMore_119 : decode cX6_stepsMore 119 = .ok (.if_icmp .ne 18, 3) := by decide +kernel
theorem dX6_stepsMore_122 : decode cX6_stepsMore 122 = .ok (.aload_n 0, 1) := by decide +kernel
theorem dX6_stepsMore_123 : decode cX6_stepsMore 123 = .ok (.getfield 54, 3) := by decide +kernel
theorem dX6_stepsMore_126 : decode cX6_stepsMore 126 = .ok (.iload 8, 2) := by decide +kernel
theorem dX6_stepsMore_128 : decode cX6_stepsMore 128 = .ok (.iload 9, 2) := by decide +kernel
theorem dX6_stepsMore_130 : decode cX6_stepsMore 130 = .ok (.invokestatic 190, 3) := by decide +kernel
theorem dX6_stepsMore_133 : decode cX6_stepsMore 133 = .ok (.iload_n 3, 1) := by decide +kernel
theorem dX6_stepsMore_134 : decode cX6_stepsMore 134 = .ok (.iconst 1, 1) := by decide +kernel
theorem dX6_stepsMore_135 : decode cX6_stepsMore 135 = .ok (.iadd, 1) := by decide +kernel
theorem dX6_stepsMore_136 : decode cX6_stepsMore 136 = .ok (.iastore, 1) := by decide +kernel
theorem dX6_stepsMore_137 : decode cX6_stepsMore 137 = .ok (.iinc 5 1, 3) := by decide +kernel
theorem dX6_stepsMore_140 : decode cX6_stepsMore 140 = .ok (.goto (-126), 3) := by decide +kernel
theorem dX6_stepsMore_143 : decode cX6_stepsMore 143 = .ok (.iinc 4 1, 3) := by decide +kernel
theorem dX6_stepsMore_146 : decode cX6_stepsMore 146 = .ok (.goto (-143), 3) := by decide +kernel
theorem dX6_stepsMore_149 : decode cX6_stepsMore 149 = .ok (.return_, 1) := by decide +kernel
set_option maxRecDepth 20000 in
theorem ggX6_findSteps_X6_common : GoodIn wsX6_findSteps wsX6_common := goodIn_r _ [5] (by decide +kernel) (by decide +kernel)
set_option maxRecDepth 20000 in
theorem gX6_findSteps_X6_common : GoodIn wsX6_findSteps (va_wsS RX6 81 yX6_common wsX6_common) := goodIn_app (goodIn_of _ (by decide +kernel)) ggX6_findSteps_X6_common
set_option maxRecDepth 20000 in
theorem ggX6_findSteps_X6_timesIn : GoodIn wsX6_findSteps wsX6_timesIn := goodIn_r _ [8] (by decide +kernel) (by decide +kernel)
set_option maxRecDepth 20000 in
theorem gX6_findSteps_X6_timesIn : GoodIn wsX6_findSteps (va_wsS RX6 174 yX6_timesIn wsX6_timesIn) := goodIn_app (goodIn_of _ (by decide +kernel)) ggX6_findSteps_X6_timesIn
set_option maxRecDepth 20000 in
theorem ggX6_findSteps_X6_power : GoodIn wsX6_findSteps wsX6_power := goodIn_r _ [11] (by decide +kernel) (by decide +kernel)
set_option maxRecDepth 20000 in
theorem gX6_findSteps_X6_power : GoodIn wsX6_findSteps (va_wsS RX6 167 yX6_power wsX6_power) := goodIn_app (goodIn_of _ (by decide +kernel)) ggX6_findSteps_X6_power
set_option maxRecDepth 20000 in
theorem ggX6_findSteps_X6_indexOf : GoodIn wsX6_findSteps wsX6_indexOf := goodIn_r _ [14] (by decide +kernel) (by decide +kernel)
set_option maxRecDepth 20000 in
theorem gX6_findSteps_X6_indexOf : GoodIn wsX6_findSteps (va_wsS RX6 190 yX6_indexOf wsX6_indexOf) := goodIn_app (goodIn_of _ (by decide +kernel)) ggX6_findSteps_X6_indexOf
set_option maxRecDepth 20000 in
theorem ggX6_findSteps_X6_stepsMore : GoodIn wsX6_findSteps wsX6_stepsMore := goodIn_r _ [18, 1, 19, 20, 4, 21, 22, 23, 24, 25, 26, 27, 6, 7, 8, 28, 29, 30, 31, 32, 33, 34, 35, 36, 37, 38, 9, 10, 11, 12, 13, 14, 39, 40, 41, 42, 43, 44, 45, 46, 47, 48, 49, 50, 51, 52, 53, 54, 55, 56, 57] (by decide +kernel) (by decide +kernel)
set_option maxRecDepth 20000 in
theorem gX6_findSteps_X6_stepsMore : GoodIn wsX6_findSteps (wsV RX6 193 RX6 yX6_stepsMore wsX6_stepsMore) := goodIn_app (goodIn_of _ (by decide +kernel)) ggX6_findSteps_X6_stepsMore
theorem dX6_findSteps_0 : decode cX6_findSteps 0 = .ok (.iload_n 1, 1) := by decide +kernel
theorem dX6_findSteps_1 : decode cX6_findSteps 1 = .ok (.i2l, 1) := by decide +kernel
theorem dX6_findSteps_2 : decode cX6_findSteps 2 = .ok (.iload_n 2, 1) := by decide +kernel
theorem dX6_findSteps_3 : decode cX6_findSteps 3 = .ok (.i2l, 1) := by decide +kernel
theorem dX6_findSteps_4 : decode cX6_findSteps 4 = .ok (.invokestatic 81, 3) := by decide +kernel
theorem dX6_findSteps_7 : decode cX6_findSteps 7 = .ok (.l2i, 1) := by decide +kernel
theorem dX6_findSteps_8 : decode cX6_findSteps 8 = .ok (.istore 4, 2) := by decide +kernel
theorem dX6_findSteps_10 : decode cX6_findSteps 10 = .ok (.iload_n 2, 1) := by decide +kernel
theorem dX6_findSteps_11 : decode cX6_findSteps 11 = .ok (.iload 4, 2) := by decide +kernel
theorem dX6_findSteps_13 : decode cX6_findSteps 13 = .ok (.idiv, 1) := by decide +kernel
theorem dX6_findSteps_14 : decode cX6_findSteps 14 = .ok (.istore 5, 2) := by decide +kernel
theorem dX6_findSteps_16 : decode cX6_findSteps 16 = .ok (.iload_n 1, 1) := by decide +kernel
theorem dX6_findSteps_17 : decode cX6_findSteps 17 = .ok (.iload 4, 2) := by decide +kernel
theorem dX6_findSteps_19 : decode cX6_findSteps 19 = .ok (.idiv, 1) := by decide +kernel
theorem dX6_findSteps_20 : decode cX6_findSteps 20 = .ok (.istore 6, 2) := by decide +kernel
theorem dX6_findSteps_22 : decode cX6_findSteps 22 = .ok (.iload 5, 2) := by decide +kernel
theorem dX6_findSteps_24 : decode cX6_findSteps 24 = .ok (.iconst 2, 1) := by decide +kernel
theorem dX6_findSteps_25 : decode cX6_findSteps 25 = .ok (.invokestatic 174, 3) := by decide +kernel
theorem dX6_findSteps_28 : decode cX6_findSteps 28 = .ok (.iload 6, 2) := by decide +kernel
theorem dX6_findSteps_30 : decode cX6_findSteps 30 = .ok (.iconst 2, 1) := by decide +kernel
theorem dX6_findSteps_31 : decode cX6_findSteps 31 = .ok (.invokestatic 174, 3) := by decide +kernel
theorem dX6_findSteps_34 : decode cX6_findSteps 34 = .ok (.isub, 1) := by decide +kernel
theorem dX6_findSteps_35 : decode cX6_findSteps 35 = .ok (.istore 7, 2) := by decide +kernel
theorem dX6_findSteps_37 : decode cX6_findSteps 37 = .ok (.iload 5, 2) := by decide +kernel
theorem dX6_findSteps_39 : decode cX6_findSteps 39 = .ok (.iconst 3, 1) := by decide +kernel
theorem dX6_findSteps_40 : decode cX6_findSteps 40 = .ok (.invokestatic 174, 3) := by decide +kernel
theorem dX6_findSteps_43 : decode cX6_findSteps 43 = .ok (.iload 6, 2) := by decide +kernel
theorem dX6_findSteps_45 : decode cX6_findSteps 45 = .ok (.iconst 3, 1) := by decide +kernel
theorem dX6_findSteps_46 : decode cX6_findSteps 46 = .ok (.invokestatic 174, 3) := by decide +kernel
theorem dX6_findSteps_49 : decode cX6_findSteps 49 = .ok (.isub, 1) := by decide +kernel
theorem dX6_findSteps_50 : decode cX6_findSteps 50 = .ok (.istore 8, 2) := by decide +kernel
theorem dX6_findSteps_52 : decode cX6_findSteps 52 = .ok (.iload 5, 2) := by decide +kernel
theorem dX6_findSteps_54 : decode cX6_findSteps 54 = .ok (.i2l, 1) := by decide +kernel
theorem dX6_findSteps_55 : decode cX6_findSteps 55 = .ok (.iconst 2, 1) := by decide +kernel
theorem dX6_findSteps_56 : decode cX6_findSteps 56 = .ok (.iload 7, 2) := by decide +kernel
theorem dX6_findSteps_58 : decode cX6_findSteps 58 = .ok (.ifCond .le 8, 3) := by decide +kernel
theorem dX6_findSteps_61 : decode cX6_findSteps 61 = .ok (.iload 7, 2) := by decide +kernel
theorem dX6_findSteps_63 : decode cX6_findSteps 63 = .ok (.goto 4, 3) := by decide +kernel
theorem dX6_findSteps_66 : decode cX6_findSteps 66 = .ok (.iconst 0, 1) := by decide +kernel
theorem dX6_findSteps_67 : decode cX6_findSteps 67 = .ok (.invokestatic 167, 3) := by decide +kernel
theorem dX6_findSteps_70 : decode cX6_findSteps 70 = .ok (.iconst 3, 1) := by decide +kernel
theorem dX6_findSteps_71 : decode cX6_findSteps 71 = .ok (.iload 8, 2) := by decide +kernel
theorem dX6_findSteps_73 : decode cX6_findSteps 73 = .ok (.ifCond .le 8, 3) := by decide +kernel
theorem dX6_findSteps_76 : decode cX6_findSteps 76 = .ok (.iload 8, 2) := by decide +kernel
theorem dX6_findSteps_78 : decode cX6_findSteps 78 = .ok (.goto 4, 3) := by decide +kernel
theorem dX6_findSteps_81 : decode cX6_findSteps 81 = .ok (.iconst 0, 1) := by decide +kernel
theorem dX6_findSteps_82 : decode cX6_findSteps 82 = .ok (.invokestatic 167, 3) := by decide +kernel
theorem dX6_findSteps_85 : decode cX6_findSteps 85 = .ok (.lmul, 1) := by decide +kernel
theorem dX6_findSteps_86 : decode cX6_findSteps 86 = .ok (.lcmp, 1) := by decide +kernel
theorem dX6_findSteps_87 : decode cX6_findSteps 87 = .ok (.ifCond .ne 43, 3) := by decide +kernel
theorem dX6_findSteps_90 : decode cX6_findSteps 90 = .ok (.iload 6, 2) := by decide +kernel
theorem dX6_findSteps_92 : decode cX6_findSteps 92 = .ok (.i2l, 1) := by decide +kernel
theorem dX6_findSteps_93 : decode cX6_findSteps 93 = .ok (.iconst 2, 1) := by decide +kernel
theorem dX6_findSteps_94 : decode cX6_findSteps 94 = .ok (.iload 7, 2) := by decide +kernel
theorem dX6_findSteps_96 : decode cX6_findSteps 96 = .ok (.ifCond .ge 9, 3) := by decide +kernel
theorem dX6_findSteps_99 : decode cX6_findSteps 99 = .ok (.iload 7, 2) := by decide +kernel
theorem dX6_findSteps_101 : decode cX6_findSteps 101 = .ok (.ineg, 1) := by decide +kernel
theorem dX6_findSteps_102 : decode cX6_findSteps 102 = .ok (.goto 4, 3) := by decide +kernel
theorem dX6_findSteps_105 : decode cX6_findSteps 105 = .ok (.iconst 0, 1) := by decide +kernel
theorem dX6_findSteps_106 : decode cX6_findSteps 106 = .ok (.invokestatic 167, 3) := by decide +kernel
theorem dX6_findSteps_109 : decode cX6_findSteps 109 = .ok (.iconst 3, 1) := by decide +kernel
theorem dX6_findSteps_110 : decode cX6_findSteps 110 = .ok (.iload 8, 2) := by decide +kernel
theorem dX6_findSteps_112 : decode cX6_findSteps 112 = .ok (.ifCond .ge 9, 3) := by decide +kernel
theorem dX6_findSteps_115 : decode cX6_findSteps 115 = .ok (.iload 8, 2) := by decide +kernel
theorem dX6_findSteps_117 : decode cX6_findSteps 117 = .ok (.ineg, 1) := by decide +kernel
theorem dX6_findSteps_118 : decode cX6_findSteps 118 = .ok (.goto 4, 3) := by decide +kernel
theorem dX6_findSteps_121 : decode cX6_findSteps 121 = .ok (.iconst 0, 1) := by decide +kernel
theorem dX6_findSteps_122 : decode cX6_findSteps 122 = .ok (.invokestatic 167, 3) := by decide +kernel
theorem dX6_findSteps_125 : decode cX6_findSteps 125 = .ok (.lmul, 1) := by decide +kernel
theorem dX6_findSteps_126 : decode cX6_findSteps 126 = .ok (.lcmp, 1) := by decide +kernel
theorem dX6_findSteps_127 : decode cX6_findSteps 127 = .ok (.ifCond .eq 6, 3) := by decide +kernel
theorem dX6_findSteps_130 : decode cX6_findSteps 130 = .ok (.bipush (-9), 2) := by decide +kernel
theorem dX6_findSteps_132 : decode cX6_findSteps 132 = .ok (.ireturn, 1) := by decide +kernel
theorem dX6_findSteps_133 : decode cX6_findSteps 133 = .ok (.iconst 0, 1) := by decide +kernel
theorem dX6_findSteps_134 : decode cX6_findSteps 134 = .ok (.istore 9, 2) := by decide +kernel
theorem dX6_findSteps_136 : decode cX6_findSteps 136 = .ok (.iload 9, 2) := by decide +kernel
theorem dX6_findSteps_138 : decode cX6_findSteps 138 = .ok (.sipush 1281, 3) := by decide +kernel
theorem dX6_findSteps_141 : decode cX6_findSteps 141 = .ok (.if_icmp .ge 18, 3) := by decide +kernel
theorem dX6_findSteps_144 : decode cX6_findSteps 144 = .ok (.aload_n 0, 1) := by decide +kernel
theorem dX6_findSteps_145 : decode cX6_findSteps 145 = .ok (.getfield 54, 3) := by decide +kernel
theorem dX6_findSteps_148 : decode cX6_findSteps 148 = .ok (.iload 9, 2) := by decide +kernel
theorem dX6_findSteps_150 : decode cX6_findSteps 150 = .ok (.bipush (-9), 2) := by decide +kernel
theorem dX6_findSteps_152 : decode cX6_findSteps 152 = .ok (.iastore, 1) := by decide +kernel
theorem dX6_findSteps_153 : decode cX6_findSteps 153 = .ok (.iinc 9 1, 3) := by decide +kernel
theorem dX6_findSteps_156 : decode cX6_findSteps 156 = .ok (.goto (-20), 3) := by decide +kernel
theorem dX6_findSteps_159 : decode cX6_findSteps 159 = .ok (.aload_n 0, 1) := by decide +kernel
theorem dX6_findSteps_160 : decode cX6_findSteps 160 = .ok (.getfield 54, 3) := by decide +kernel
theorem dX6_findSteps_163 : decode cX6_findSteps 163 = .ok (.iload 7, 2) := by decide +kernel
theorem dX6_findSteps_165 : decode cX6_findSteps 165 = .ok (.iload 8, 2) := by decide +kernel
theorem dX6_findSteps_167 : decode cX6_findSteps 167 = .ok (.invokestatic 190, 3) := by decide +kernel
theorem dX6_findSteps_170 : decode cX6_findSteps 170 = .ok (.iconst 0, 1) := by decide +kernel
theorem dX6_findSteps_171 : decode cX6_findSteps 171 = .ok (.iastore, 1) := by decide +kernel
theorem dX6_findSteps_172 : decode cX6_findSteps 172 = .ok (.iconst 0, 1) := by decide +kernel
theorem dX6_findSteps_173 : decode cX6_findSteps 173 = .ok (.istore 9, 2) := by decide +kernel
theorem dX6_findSteps_175 : decode cX6_findSteps 175 = .ok (.iload 9, 2) := by decide +kernel
theorem dX6_findSteps_177 : decode cX6_findSteps 177 = .ok (.iconst 5, 1) := by decide +kernel
theorem dX6_findSteps_178 : decode cX6_findSteps 178 = .ok (.if_icmp .ge 32, 3) := by decide +kernel
theorem dX6_findSteps_181 : decode cX6_findSteps 181 = .ok (.aload_n 0, 1) := by decide +kernel
theorem dX6_findSteps_182 : decode cX6_findSteps 182 = .ok (.getfield 54, 3) := by decide +kernel
theorem dX6_findSteps_185 : decode cX6_findSteps 185 = .ok (.iconst 0, 1) := by decide +kernel
theorem dX6_findSteps_186 : decode cX6_findSteps 186 = .ok (.iconst 0, 1) := by decide +kernel
theorem dX6_findSteps_187 : decode cX6_findSteps 187 = .ok (.invokestatic 190, 3) := by decide +kernel
theorem dX6_findSteps_190 : decode cX6_findSteps 190 = .ok (.iaload, 1) := by decide +kernel
theorem dX6_findSteps_191 : decode cX6_findSteps 191 = .ok (.bipush (-9), 2) := by decide +kernel
theorem dX6_findSteps_193 : decode cX6_findSteps 193 = .ok (.if_icmp .ne 17, 3) := by decide +kernel
theorem dX6_findSteps_196 : decode cX6_findSteps 196 = .ok (.aload_n 0, 1) := by decide +kernel
theorem dX6_findSteps_197 : decode cX6_findSteps 197 = .ok (.iload_n 1, 1) := by decide +kernel
theorem dX6_findSteps_198 : decode cX6_findSteps 198 = .ok (.iload_n 3, 1) := by decide +kernel
theorem dX6_findSteps_199 : decode cX6_findSteps 199 = .ok (.iload 9, 2) := by decide +kernel
theorem dX6_findSteps_201 : decode cX6_findSteps 201 = .ok (.invokevirtual 193, 3) := by decide +kernel
theorem dX6_findSteps_204 : decode cX6_findSteps 204 = .ok (.iinc 9 1, 3) := by decide +kernel
theorem dX6_findSteps_207 : decode cX6_findSteps 207 = .ok (.goto (-32), 3) := by decide +kernel
theorem dX6_findSteps_210 : decode cX6_findSteps 210 = .ok (.aload_n 0, 1) := by decide +kernel
theorem dX6_findSteps_211 : decode cX6_findSteps 211 = .ok (.getfield 54, 3) := by decide +kernel
theorem dX6_findSteps_214 : decode cX6_findSteps 214 = .ok (.iconst 0, 1) := by decide +kernel
theorem dX6_findSteps_215 : decode cX6_findSteps 215 = .ok (.iconst 0, 1) := by decide +kernel
theorem dX6_findSteps_216 : decode cX6_findSteps 216 = .ok (.invokestatic 190, 3) := by decide +kernel
theorem dX6_findSteps_219 : decode cX6_findSteps 219 = .ok (.iaload, 1) := by decide +kernel
theorem dX6_findSteps_220 : decode cX6_findSteps 220 = .ok (.ireturn, 1) := by decide +kernel
set_option maxRecDepth 20000 in
theorem ggX6_goesBy_X6_twosBy : GoodIn wsX6_goesBy wsX6_twosBy := goodIn_r _ [6, 7, 8, 5, 9, 10, 11, 12] (by decide +kernel) (by decide +kernel)
set_option maxRecDepth 20000 in
theorem gX6_goesBy_X6_twosBy : GoodIn wsX6_goesBy (va_wsS RX6 181 yX6_twosBy wsX6_twosBy) := goodIn_app (goodIn_of _ (by decide +kernel)) ggX6_goesBy_X6_twosBy
set_option maxRecDepth 20000 in
theorem ggX6_goesBy_X6_threesBy : GoodIn wsX6_goesBy wsX6_threesBy := goodIn_r _ [15, 7, 8, 5, 9, 10, 11, 12] (by decide +kernel) (by decide +kernel)
set_option maxRecDepth 20000 in
theorem gX6_goesBy_X6_threesBy : GoodIn wsX6_goesBy (va_wsS RX6 184 yX6_threesBy wsX6_threesBy) := goodIn_app (goodIn_of _ (by decide +kernel)) ggX6_goesBy_X6_threesBy
set_option maxRecDepth 20000 in
theorem ggX6_goesBy_X6_isOf : GoodIn wsX6_goesBy wsX6_isOf := goodIn_r _ [18] (by decide +kernel) (by decide +kernel)
set_option maxRecDepth 20000 in
theorem gX6_goesBy_X6_isOf : GoodIn wsX6_goesBy (va_wsS RX6 178 yX6_isOf wsX6_isOf) := goodIn_app (goodIn_of _ (by decide +kernel)) ggX6_goesBy_X6_isOf
set_option maxRecDepth 20000 in
theorem ggX6_goesBy_X6_isPlayed : GoodIn wsX6_goesBy wsX6_isPlayed := goodIn_r _ [21, 22, 23, 24, 25, 5, 26, 27, 28, 29] (by decide +kernel) (by decide +kernel)
set_option maxRecDepth 20000 in
theorem gX6_goesBy_X6_isPlayed : GoodIn wsX6_goesBy (va_wsS RX6 187 yX6_isPlayed wsX6_isPlayed) := goodIn_app (goodIn_of _ (by decide +kernel)) ggX6_goesBy_X6_isPlayed
set_option maxRecDepth 20000 in
theorem ggX6_goesBy_X6_indexOf : GoodIn wsX6_goesBy wsX6_indexOf := goodIn_r _ [32] (by decide +kernel) (by decide +kernel)
set_option maxRecDepth 20000 in
theorem gX6_goesBy_X6_indexOf : GoodIn wsX6_goesBy (va_wsS RX6 190 yX6_indexOf wsX6_indexOf) := goodIn_app (goodIn_of _ (by decide +kernel)) ggX6_goesBy_X6_indexOf
theorem dX6_goesBy_0 : decode cX6_goesBy 0 = .ok (.iconst 0, 1) := by decide +kernel
theorem dX6_goesBy_1 : decode cX6_goesBy 1 = .ok (.istore 4, 2) := by decide +kernel
theorem dX6_goesBy_3 : decode cX6_goesBy 3 = .ok (.iload 4, 2) := by decide +kernel
theorem dX6_goesBy_5 : decode cX6_goesBy 5 = .ok (.sipush 400, 3) := by decide +kernel
theorem dX6_goesBy_8 : decode cX6_goesBy 8 = .ok (.if_icmp .ge 122, 3) := by decide +kernel
theorem dX6_goesBy_11 : decode cX6_goesBy 11 = .ok (.iload 4, 2) := by decide +kernel
theorem dX6_goesBy_13 : decode cX6_goesBy 13 = .ok (.bipush 20, 2) := by decide +kernel
theorem dX6_goesBy_15 : decode cX6_goesBy 15 = .ok (.idiv, 1) := by decide +kernel
theorem dX6_goesBy_16 : decode cX6_goesBy 16 = .ok (.istore 5, 2) := by decide +kernel
theorem dX6_goesBy_18 : decode cX6_goesBy 18 = .ok (.iload 4, 2) := by decide +kernel
theorem dX6_goesBy_20 : decode cX6_goesBy 20 = .ok (.bipush 20, 2) := by decide +kernel
theorem dX6_goesBy_22 : decode cX6_goesBy 22 = .ok (.irem, 1) := by decide +kernel
theorem dX6_goesBy_23 : decode cX6_goesBy 23 = .ok (.istore 6, 2) := by decide +kernel
theorem dX6_goesBy_25 : decode cX6_goesBy 25 = .ok (.iload_n 1, 1) := by decide +kernel
theorem dX6_goesBy_26 : decode cX6_goesBy 26 = .ok (.bipush 21, 2) := by decide +kernel
theorem dX6_goesBy_28 : decode cX6_goesBy 28 = .ok (.idiv, 1) := by decide +kernel
theorem dX6_goesBy_29 : decode cX6_goesBy 29 = .ok (.bipush 30, 2) := by decide +kernel
theorem dX6_goesBy_31 : decode cX6_goesBy 31 = .ok (.isub, 1) := by decide +kernel
theorem dX6_goesBy_32 : decode cX6_goesBy 32 = .ok (.iload 5, 2) := by decide +kernel
theorem dX6_goesBy_34 : decode cX6_goesBy 34 = .ok (.iload 6, 2) := by decide +kernel
theorem dX6_goesBy_36 : decode cX6_goesBy 36 = .ok (.invokestatic 181, 3) := by decide +kernel
theorem dX6_goesBy_39 : decode cX6_goesBy 39 = .ok (.iadd, 1) := by decide +kernel
theorem dX6_goesBy_40 : decode cX6_goesBy 40 = .ok (.istore 7, 2) := by decide +kernel
theorem dX6_goesBy_42 : decode cX6_goesBy 42 = .ok (.iload_n 1, 1) := by decide +kernel
theorem dX6_goesBy_43 : decode cX6_goesBy 43 = .ok (.bipush 21, 2) := by decide +kernel
theorem dX6_goesBy_45 : decode cX6_goesBy 45 = .ok (.irem, 1) := by decide +kernel
theorem dX6_goesBy_46 : decode cX6_goesBy 46 = .ok (.bipush 10, 2) := by decide +kernel
theorem dX6_goesBy_48 : decode cX6_goesBy 48 = .ok (.isub, 1) := by decide +kernel
theorem dX6_goesBy_49 : decode cX6_goesBy 49 = .ok (.iload 5, 2) := by decide +kernel
theorem dX6_goesBy_51 : decode cX6_goesBy 51 = .ok (.iload 6, 2) := by decide +kernel
theorem dX6_goesBy_53 : decode cX6_goesBy 53 = .ok (.invokestatic 184, 3) := by decide +kernel
theorem dX6_goesBy_56 : decode cX6_goesBy 56 = .ok (.iadd, 1) := by decide +kernel
theorem dX6_goesBy_57 : decode cX6_goesBy 57 = .ok (.istore 8, 2) := by decide +kernel
theorem dX6_goesBy_59 : decode cX6_goesBy 59 = .ok (.iload_n 3, 1) := by decide +kernel
theorem dX6_goesBy_60 : decode cX6_goesBy 60 = .ok (.iload 5, 2) := by decide +kernel
theorem dX6_goesBy_62 : decode cX6_goesBy 62 = .ok (.iload 6, 2) := by decide +kernel
theorem dX6_goesBy_64 : decode cX6_goesBy 64 = .ok (.invokestatic 178, 3) := by decide +kernel
theorem dX6_goesBy_67 : decode cX6_goesBy 67 = .ok (.ifCond .eq 57, 3) := by decide +kernel
theorem dX6_goesBy_70 : decode cX6_goesBy 70 = .ok (.iload_n 2, 1) := by decide +kernel
theorem dX6_goesBy_71 : decode cX6_goesBy 71 = .ok (.iload 7, 2) := by decide +kernel
theorem dX6_goesBy_73 : decode cX6_goesBy 73 = .ok (.iload 8, 2) := by decide +kernel
theorem dX6_goesBy_75 : decode cX6_goesBy 75 = .ok (.invokestatic 187, 3) := by decide +kernel
theorem dX6_goesBy_78 : decode cX6_goesBy 78 = .ok (.ifCond .eq 46, 3) := by decide +kernel
theorem dX6_goesBy_81 : decode cX6_goesBy 81 = .ok (.aload_n 0, 1) := by decide +kernel
theorem dX6_goesBy_82 : decode cX6_goesBy 82 = .ok (.getfield 54, 3) := by decide +kernel
theorem dX6_goesBy_85 : decode cX6_goesBy 85 = .ok (.iload 7, 2) := by decide +kernel
theorem dX6_goesBy_87 : decode cX6_goesBy 87 = .ok (.iload 8, 2) := by decide +kernel
theorem dX6_goesBy_89 : decode cX6_goesBy 89 = .ok (.invokestatic 190, 3) := by decide +kernel
theorem dX6_goesBy_92 : decode cX6_goesBy 92 = .ok (.iaload, 1) := by decide +kernel
theorem dX6_goesBy_93 : decode cX6_goesBy 93 = .ok (.aload_n 0, 1) := by decide +kernel
theorem dX6_goesBy_94 : decode cX6_goesBy 94 = .ok (.getfield 54, 3) := by decide +kernel
theorem dX6_goesBy_97 : decode cX6_goesBy 97 = .ok (.iload_n 1, 1) := by decide +kernel
theorem dX6_goesBy_98 : decode cX6_goesBy 98 = .ok (.iaload, 1) := by decide +kernel
theorem dX6_goesBy_99 : decode cX6_goesBy 99 = .ok (.iconst 1, 1) := by decide +kernel
theorem dX6_goesBy_100 : decode cX6_goesBy 100 = .ok (.isub, 1) := by decide +kernel
theorem dX6_goesBy_101 : decode cX6_goesBy 101 = .ok (.if_icmp .ne 23, 3) := by decide +kernel
theorem dX6_goesBy_104 : decode cX6_goesBy 104 = .ok (.aload_n 0, 1) := by decide +kernel
theorem dX6_goesBy_105 : decode cX6_goesBy 105 = .ok (.bipush 100, 2) := by decide +kernel
theorem dX6_goesBy_107 : decode cX6_goesBy 107 = .ok (.iload 5, 2) := by decide +kernel
theorem dX6_goesBy_109 : decode cX6_goesBy 109 = .ok (.imul, 1) := by decide +kernel
theorem dX6_goesBy_110 : decode cX6_goesBy 110 = .ok (.iload 6, 2) := by decide +kernel
theorem dX6_goesBy_112 : decode cX6_goesBy 112 = .ok (.iadd, 1) := by decide +kernel
theorem dX6_goesBy_113 : decode cX6_goesBy 113 = .ok (.putfield 197, 3) := by decide +kernel
theorem dX6_goesBy_116 : decode cX6_goesBy 116 = .ok (.iload 7, 2) := by decide +kernel
theorem dX6_goesBy_118 : decode cX6_goesBy 118 = .ok (.iload 8, 2) := by decide +kernel
theorem dX6_goesBy_120 : decode cX6_goesBy 120 = .ok (.invokestatic 190, 3) := by decide +kernel
theorem dX6_goesBy_123 : decode cX6_goesBy 123 = .ok (.ireturn, 1) := by decide +kernel
theorem dX6_goesBy_124 : decode cX6_goesBy 124 = .ok (.iinc 4 1, 3) := by decide +kernel
theorem dX6_goesBy_127 : decode cX6_goesBy 127 = .ok (.goto (-124), 3) := by decide +kernel
theorem dX6_goesBy_130 : decode cX6_goesBy 130 = .ok (.iload_n 1, 1) := by decide +kernel
theorem dX6_goesBy_131 : decode cX6_goesBy 131 = .ok (.ireturn, 1) := by decide +kernel
set_option maxRecDepth 20000 in
theorem ggX6_pivots_X6_isIn : GoodIn wsX6_pivots wsX6_isIn := goodIn_r _ [6] (by decide +kernel) (by decide +kernel)
set_option maxRecDepth 20000 in
theorem gX6_pivots_X6_isIn : GoodIn wsX6_pivots (va_wsS RX6 60 yX6_isIn wsX6_isIn) := goodIn_app (goodIn_of _ (by decide +kernel)) ggX6_pivots_X6_isIn
set_option maxRecDepth 20000 in
theorem ggX6_pivots_X6_findSteps : GoodIn wsX6_pivots wsX6_findSteps := goodIn_r _ [10, 11, 12, 13, 5, 14, 15, 16, 17, 18, 19, 20, 21, 22, 23, 24, 25, 26, 27, 28, 29, 30, 31, 32, 33, 34, 35, 36, 37, 38, 39, 40, 41, 42, 43, 44, 3, 4, 6, 49, 50, 51, 52, 53, 54, 55, 56, 57, 58, 59, 60, 61, 62, 63, 64, 65, 66, 67] (by decide +kernel) (by decide +kernel)
set_option maxRecDepth 20000 in
theorem gX6_pivots_X6_findSteps : GoodIn wsX6_pivots (wsV RX6 201 RX6 yX6_findSteps wsX6_findSteps) := goodIn_app (goodIn_of _ (by decide +kernel)) ggX6_pivots_X6_findSteps
set_option maxRecDepth 20000 in
theorem ggX6_pivots_X6_indexOf : GoodIn wsX6_pivots wsX6_indexOf := goodIn_r _ [23] (by decide +kernel) (by decide +kernel)
set_option maxRecDepth 20000 in
theorem gX6_pivots_X6_indexOf : GoodIn wsX6_pivots (va_wsS RX6 190 yX6_indexOf wsX6_indexOf) := goodIn_app (goodIn_of _ (by decide +kernel)) ggX6_pivots_X6_indexOf
set_option maxRecDepth 20000 in
theorem ggX6_pivots_X6_goesBy : GoodIn wsX6_pivots wsX6_goesBy := goodIn_r _ [48, 11, 2, 31, 32, 5, 33, 34, 35, 36, 15, 16, 17, 37, 38, 39, 28, 29, 30, 40, 41, 42, 43, 44, 3, 4, 6, 18, 19, 20, 21, 22, 23, 49, 50, 51, 52, 53, 54, 55, 56, 57, 58, 59, 60, 61, 62, 63, 64, 65, 66, 67] (by decide +kernel) (by decide +kernel)
set_option maxRecDepth 20000 in
theorem gX6_pivots_X6_goesBy : GoodIn wsX6_pivots (wsV RX6 204 RX6 yX6_goesBy wsX6_goesBy) := goodIn_app (goodIn_of _ (by decide +kernel)) ggX6_pivots_X6_goesBy
theorem dX6_pivots_0 : decode cX6_pivots 0 = .ok (.iload_n 1, 1) := by decide +kernel
theorem dX6_pivots_1 : decode cX6_pivots 1 = .ok (.bipush 20, 2) := by decide +kernel
theorem dX6_pivots_3 : decode cX6_pivots 3 = .ok (.sipush 400, 3) := by decide +kernel
theorem dX6_pivots_6 : decode cX6_pivots 6 = .ok (.invokestatic 60, 3) := by decide +kernel
theorem dX6_pivots_9 : decode cX6_pivots 9 = .ok (.ifCond .eq 35, 3) := by decide +kernel
theorem dX6_pivots_12 : decode cX6_pivots 12 = .ok (.iload_n 2, 1) := by decide +kernel
theorem dX6_pivots_13 : decode cX6_pivots 13 = .ok (.bipush 20, 2) := by decide +kernel
theorem dX6_pivots_15 : decode cX6_pivots 15 = .ok (.sipush 400, 3) := by decide +kernel
theorem dX6_pivots_18 : decode cX6_pivots 18 = .ok (.invokestatic 60, 3) := by decide +kernel
theorem dX6_pivots_21 : decode cX6_pivots 21 = .ok (.ifCond .eq 23, 3) := by decide +kernel
theorem dX6_pivots_24 : decode cX6_pivots 24 = .ok (.iload_n 3, 1) := by decide +kernel
theorem dX6_pivots_25 : decode cX6_pivots 25 = .ok (.iconst 0, 1) := by decide +kernel
theorem dX6_pivots_26 : decode cX6_pivots 26 = .ok (.ldc 200, 2) := by decide +kernel
theorem dX6_pivots_28 : decode cX6_pivots 28 = .ok (.invokestatic 60, 3) := by decide +kernel
theorem dX6_pivots_31 : decode cX6_pivots 31 = .ok (.ifCond .eq 13, 3) := by decide +kernel
theorem dX6_pivots_34 : decode cX6_pivots 34 = .ok (.iload 4, 2) := by decide +kernel
theorem dX6_pivots_36 : decode cX6_pivots 36 = .ok (.iconst (-1), 1) := by decide +kernel
theorem dX6_pivots_37 : decode cX6_pivots 37 = .ok (.iconst 4, 1) := by decide +kernel
theorem dX6_pivots_38 : decode cX6_pivots 38 = .ok (.invokestatic 60, 3) := by decide +kernel
theorem dX6_pivots_41 : decode cX6_pivots 41 = .ok (.ifCond .ne 6, 3) := by decide +kernel
theorem dX6_pivots_44 : decode cX6_pivots 44 = .ok (.bipush (-2), 2) := by decide +kernel
theorem dX6_pivots_46 : decode cX6_pivots 46 = .ok (.ireturn, 1) := by decide +kernel
theorem dX6_pivots_47 : decode cX6_pivots 47 = .ok (.aload_n 0, 1) := by decide +kernel
theorem dX6_pivots_48 : decode cX6_pivots 48 = .ok (.iload_n 1, 1) := by decide +kernel
theorem dX6_pivots_49 : decode cX6_pivots 49 = .ok (.iload_n 2, 1) := by decide +kernel
theorem dX6_pivots_50 : decode cX6_pivots 50 = .ok (.iload_n 3, 1) := by decide +kernel
theorem dX6_pivots_51 : decode cX6_pivots 51 = .ok (.invokevirtual 201, 3) := by decide +kernel
theorem dX6_pivots_54 : decode cX6_pivots 54 = .ok (.istore 5, 2) := by decide +kernel
theorem dX6_pivots_56 : decode cX6_pivots 56 = .ok (.iload 5, 2) := by decide +kernel
theorem dX6_pivots_58 : decode cX6_pivots 58 = .ok (.bipush (-9), 2) := by decide +kernel
theorem dX6_pivots_60 : decode cX6_pivots 60 = .ok (.if_icmp .eq 8, 3) := by decide +kernel
theorem dX6_pivots_63 : decode cX6_pivots 63 = .ok (.iload 4, 2) := by decide +kernel
theorem dX6_pivots_65 : decode cX6_pivots 65 = .ok (.ifCond .ge 6, 3) := by decide +kernel
theorem dX6_pivots_68 : decode cX6_pivots 68 = .ok (.iload 5, 2) := by decide +kernel
theorem dX6_pivots_70 : decode cX6_pivots 70 = .ok (.ireturn, 1) := by decide +kernel
theorem dX6_pivots_71 : decode cX6_pivots 71 = .ok (.iload 4, 2) := by decide +kernel
theorem dX6_pivots_73 : decode cX6_pivots 73 = .ok (.iload 5, 2) := by decide +kernel
theorem dX6_pivots_75 : decode cX6_pivots 75 = .ok (.if_icmp .lt 6, 3) := by decide +kernel
theorem dX6_pivots_78 : decode cX6_pivots 78 = .ok (.bipush (-9), 2) := by decide +kernel
theorem dX6_pivots_80 : decode cX6_pivots 80 = .ok (.ireturn, 1) := by decide +kernel
theorem dX6_pivots_81 : decode cX6_pivots 81 = .ok (.iconst 0, 1) := by decide +kernel
theorem dX6_pivots_82 : decode cX6_pivots 82 = .ok (.iconst 0, 1) := by decide +kernel
theorem dX6_pivots_83 : decode cX6_pivots 83 = .ok (.invokestatic 190, 3) := by decide +kernel
theorem dX6_pivots_86 : decode cX6_pivots 86 = .ok (.istore 6, 2) := by decide +kernel
theorem dX6_pivots_88 : decode cX6_pivots 88 = .ok (.iconst 0, 1) := by decide +kernel
theorem dX6_pivots_89 : decode cX6_pivots 89 = .ok (.istore 7, 2) := by decide +kernel
theorem dX6_pivots_91 : decode cX6_pivots 91 = .ok (.iload 7, 2) := by decide +kernel
theorem dX6_pivots_93 : decode cX6_pivots 93 = .ok (.iload 4, 2) := by decide +kernel
theorem dX6_pivots_95 : decode cX6_pivots 95 = .ok (.if_icmp .gt 19, 3) := by decide +kernel
theorem dX6_pivots_98 : decode cX6_pivots 98 = .ok (.aload_n 0, 1) := by decide +kernel
theorem dX6_pivots_99 : decode cX6_pivots 99 = .ok (.iload 6, 2) := by decide +kernel
theorem dX6_pivots_101 : decode cX6_pivots 101 = .ok (.iload_n 1, 1) := by decide +kernel
theorem dX6_pivots_102 : decode cX6_pivots 102 = .ok (.iload_n 3, 1) := by decide +kernel
theorem dX6_pivots_103 : decode cX6_pivots 103 = .ok (.invokevirtual 204, 3) := by decide +kernel
theorem dX6_pivots_106 : decode cX6_pivots 106 = .ok (.istore 6, 2) := by decide +kernel
theorem dX6_pivots_108 : decode cX6_pivots 108 = .ok (.iinc 7 1, 3) := by decide +kernel
theorem dX6_pivots_111 : decode cX6_pivots 111 = .ok (.goto (-20), 3) := by decide +kernel
theorem dX6_pivots_114 : decode cX6_pivots 114 = .ok (.aload_n 0, 1) := by decide +kernel
theorem dX6_pivots_115 : decode cX6_pivots 115 = .ok (.getfield 197, 3) := by decide +kernel
theorem dX6_pivots_118 : decode cX6_pivots 118 = .ok (.ireturn, 1) := by decide +kernel
set_option maxRecDepth 20000 in
theorem ggX6_manyOf_X6_findSorts : GoodIn wsX6_manyOf wsX6_findSorts := goodIn_r _ [7, 1, 8, 2, 9, 10, 11, 12, 6, 13, 14, 15, 16, 17, 18, 19, 20, 21, 22, 23, 24, 25, 26, 27, 28, 29, 30, 31, 32, 33, 34, 35, 36, 37, 38, 39, 40, 41, 42, 43, 44, 45, 46, 47] (by decide +kernel) (by decide +kernel)
set_option maxRecDepth 20000 in
theorem gX6_manyOf_X6_findSorts : GoodIn wsX6_manyOf (wsV RX6 96 RX6 yX6_findSorts wsX6_findSorts) := goodIn_app (goodIn_of _ (by decide +kernel)) ggX6_manyOf_X6_findSorts
theorem dX6_manyOf_0 : decode cX6_manyOf 0 = .ok (.aload_n 0, 1) := by decide +kernel
theorem dX6_manyOf_1 : decode cX6_manyOf 1 = .ok (.invokevirtual 96, 3) := by decide +kernel
theorem dX6_manyOf_4 : decode cX6_manyOf 4 = .ok (.iconst 0, 1) := by decide +kernel
theorem dX6_manyOf_5 : decode cX6_manyOf 5 = .ok (.istore_n 2, 1) := by decide +kernel
theorem dX6_manyOf_6 : decode cX6_manyOf 6 = .ok (.iconst 0, 1) := by decide +kernel
theorem dX6_manyOf_7 : decode cX6_manyOf 7 = .ok (.istore_n 3, 1) := by decide +kernel
theorem dX6_manyOf_8 : decode cX6_manyOf 8 = .ok (.iload_n 3, 1) := by decide +kernel
theorem dX6_manyOf_9 : decode cX6_manyOf 9 = .ok (.aload_n 0, 1) := by decide +kernel
theorem dX6_manyOf_10 : decode cX6_manyOf 10 = .ok (.getfield 64, 3) := by decide +kernel
theorem dX6_manyOf_13 : decode cX6_manyOf 13 = .ok (.if_icmp .ge 27, 3) := by decide +kernel
theorem dX6_manyOf_16 : decode cX6_manyOf 16 = .ok (.iload_n 2, 1) := by decide +kernel
theorem dX6_manyOf_17 : decode cX6_manyOf 17 = .ok (.aload_n 0, 1) := by decide +kernel
theorem dX6_manyOf_18 : decode cX6_manyOf 18 = .ok (.getfield 23, 3) := by decide +kernel
theorem dX6_manyOf_21 : decode cX6_manyOf 21 = .ok (.iload_n 3, 1) := by decide +kernel
theorem dX6_manyOf_22 : decode cX6_manyOf 22 = .ok (.iaload, 1) := by decide +kernel
theorem dX6_manyOf_23 : decode cX6_manyOf 23 = .ok (.iload_n 1, 1) := by decide +kernel
theorem dX6_manyOf_24 : decode cX6_manyOf 24 = .ok (.if_icmp .ne 7, 3) := by decide +kernel
theorem dX6_manyOf_27 : decode cX6_manyOf 27 = .ok (.iconst 1, 1) := by decide +kernel
theorem dX6_manyOf_28 : decode cX6_manyOf 28 = .ok (.goto 4, 3) := by decide +kernel
theorem dX6_manyOf_31 : decode cX6_manyOf 31 = .ok (.iconst 0, 1) := by decide +kernel
theorem dX6_manyOf_32 : decode cX6_manyOf 32 = .ok (.iadd, 1) := by decide +kernel
theorem dX6_manyOf_33 : decode cX6_manyOf 33 = .ok (.istore_n 2, 1) := by decide +kernel
theorem dX6_manyOf_34 : decode cX6_manyOf 34 = .ok (.iinc 3 1, 3) := by decide +kernel
theorem dX6_manyOf_37 : decode cX6_manyOf 37 = .ok (.goto (-29), 3) := by decide +kernel
theorem dX6_manyOf_40 : decode cX6_manyOf 40 = .ok (.iload_n 2, 1) := by decide +kernel
theorem dX6_manyOf_41 : decode cX6_manyOf 41 = .ok (.ireturn, 1) := by decide +kernel
set_option maxRecDepth 20000 in
theorem ggX6_manyPins_X6_isPinHeld : GoodIn wsX6_manyPins wsX6_isPinHeld := goodIn_r _ [6, 7, 8, 9, 10, 5, 11, 12, 13, 14, 15, 16, 17, 18, 19, 20, 21, 22, 23, 24, 25, 26, 27, 28, 29, 30, 31, 32] (by decide +kernel) (by decide +kernel)
set_option maxRecDepth 20000 in
theorem gX6_manyPins_X6_isPinHeld : GoodIn wsX6_manyPins (wsV RX6 113 RX6 yX6_isPinHeld wsX6_isPinHeld) := goodIn_app (goodIn_of _ (by decide +kernel)) ggX6_manyPins_X6_isPinHeld
theorem dX6_manyPins_0 : decode cX6_manyPins 0 = .ok (.iconst 0, 1) := by decide +kernel
theorem dX6_manyPins_1 : decode cX6_manyPins 1 = .ok (.istore_n 1, 1) := by decide +kernel
theorem dX6_manyPins_2 : decode cX6_manyPins 2 = .ok (.iconst 0, 1) := by decide +kernel
theorem dX6_manyPins_3 : decode cX6_manyPins 3 = .ok (.istore_n 2, 1) := by decide +kernel
theorem dX6_manyPins_4 : decode cX6_manyPins 4 = .ok (.iload_n 2, 1) := by decide +kernel
theorem dX6_manyPins_5 : decode cX6_manyPins 5 = .ok (.aload_n 0, 1) := by decide +kernel
theorem dX6_manyPins_6 : decode cX6_manyPins 6 = .ok (.getfield 57, 3) := by decide +kernel
theorem dX6_manyPins_9 : decode cX6_manyPins 9 = .ok (.if_icmp .ge 25, 3) := by decide +kernel
theorem dX6_manyPins_12 : decode cX6_manyPins 12 = .ok (.iload_n 1, 1) := by decide +kernel
theorem dX6_manyPins_13 : decode cX6_manyPins 13 = .ok (.aload_n 0, 1) := by decide +kernel
theorem dX6_manyPins_14 : decode cX6_manyPins 14 = .ok (.iload_n 2, 1) := by decide +kernel
theorem dX6_manyPins_15 : decode cX6_manyPins 15 = .ok (.invokevirtual 113, 3) := by decide +kernel
theorem dX6_manyPins_18 : decode cX6_manyPins 18 = .ok (.ifCond .eq 7, 3) := by decide +kernel
theorem dX6_manyPins_21 : decode cX6_manyPins 21 = .ok (.iconst 1, 1) := by decide +kernel
theorem dX6_manyPins_22 : decode cX6_manyPins 22 = .ok (.goto 4, 3) := by decide +kernel
theorem dX6_manyPins_25 : decode cX6_manyPins 25 = .ok (.iconst 0, 1) := by decide +kernel
theorem dX6_manyPins_26 : decode cX6_manyPins 26 = .ok (.iadd, 1) := by decide +kernel
theorem dX6_manyPins_27 : decode cX6_manyPins 27 = .ok (.istore_n 1, 1) := by decide +kernel
theorem dX6_manyPins_28 : decode cX6_manyPins 28 = .ok (.iinc 2 1, 3) := by decide +kernel
theorem dX6_manyPins_31 : decode cX6_manyPins 31 = .ok (.goto (-27), 3) := by decide +kernel
theorem dX6_manyPins_34 : decode cX6_manyPins 34 = .ok (.iload_n 1, 1) := by decide +kernel
theorem dX6_manyPins_35 : decode cX6_manyPins 35 = .ok (.ireturn, 1) := by decide +kernel
set_option maxRecDepth 20000 in
theorem ggX6_many_X6_manyOf : GoodIn wsX6_many wsX6_manyOf := goodIn_r _ [9, 2, 10, 11, 12, 13, 8, 14, 15, 16, 17, 18, 19, 20, 21, 22, 23, 24, 25, 26, 27, 28, 29, 30, 31, 32, 33, 34, 35, 50, 51, 52, 53, 54, 55, 56, 57, 58, 59, 60, 61, 62, 63, 64, 65, 66, 67, 68] (by decide +kernel) (by decide +kernel)
set_option maxRecDepth 20000 in
theorem gX6_many_X6_manyOf : GoodIn wsX6_many (wsV RX6 207 RX6 yX6_manyOf wsX6_manyOf) := goodIn_app (goodIn_of _ (by decide +kernel)) ggX6_many_X6_manyOf
set_option maxRecDepth 20000 in
theorem ggX6_many_X6_manyPins : GoodIn wsX6_many wsX6_manyPins := goodIn_r _ [39, 1, 40, 41, 42, 8, 43, 44, 45, 46, 47, 48, 3, 49, 50, 51, 52, 53, 54, 55, 56, 57, 58, 59, 60, 61, 62, 63, 64, 65, 66, 67, 68] (by decide +kernel) (by decide +kernel)
set_option maxRecDepth 20000 in
theorem gX6_many_X6_manyPins : GoodIn wsX6_many (wsV RX6 210 RX6 yX6_manyPins wsX6_manyPins) := goodIn_app (goodIn_of _ (by decide +kernel)) ggX6_many_X6_manyPins
theorem dX6_many_0 : decode cX6_many 0 = .ok (.iload_n 1, 1) := by decide +kernel
theorem dX6_many_1 : decode cX6_many 1 = .ok (.tableswitch 95 0 8 #[51, 56, 61, 61, 61, 69, 80, 85, 90], 51) := by decide +kernel
theorem dX6_many_52 : decode cX6_many 52 = .ok (.aload_n 0, 1) := by decide +kernel
theorem dX6_many_53 : decode cX6_many 53 = .ok (.getfield 57, 3) := by decide +kernel
theorem dX6_many_56 : decode cX6_many 56 = .ok (.ireturn, 1) := by decide +kernel
theorem dX6_many_57 : decode cX6_many 57 = .ok (.aload_n 0, 1) := by decide +kernel
theorem dX6_many_58 : decode cX6_many 58 = .ok (.getfield 64, 3) := by decide +kernel
theorem dX6_many_61 : decode cX6_many 61 = .ok (.ireturn, 1) := by decide +kernel
theorem dX6_many_62 : decode cX6_many 62 = .ok (.aload_n 0, 1) := by decide +kernel
theorem dX6_many_63 : decode cX6_many 63 = .ok (.iload_n 1, 1) := by decide +kernel
theorem dX6_many_64 : decode cX6_many 64 = .ok (.iconst 2, 1) := by decide +kernel
theorem dX6_many_65 : decode cX6_many 65 = .ok (.isub, 1) := by decide +kernel
theorem dX6_many_66 : decode cX6_many 66 = .ok (.invokevirtual 207, 3) := by decide +kernel
theorem dX6_many_69 : decode cX6_many 69 = .ok (.ireturn, 1) := by decide +kernel
theorem dX6_many_70 : decode cX6_many 70 = .ok (.aload_n 0, 1) := by decide +kernel
theorem dX6_many_71 : decode cX6_many 71 = .ok (.getfield 57, 3) := by decide +kernel
theorem dX6_many_74 : decode cX6_many 74 = .ok (.aload_n 0, 1) := by decide +kernel
theorem dX6_many_75 : decode cX6_many 75 = .ok (.iconst 0, 1) := by decide +kernel
theorem dX6_many_76 : decode cX6_many 76 = .ok (.invokevirtual 207, 3) := by decide +kernel
theorem dX6_many_79 : decode cX6_many 79 = .ok (.isub, 1) := by decide +kernel
theorem dX6_many_80 : decode cX6_many 80 = .ok (.ireturn, 1) := by decide +kernel
theorem dX6_many_81 : decode cX6_many 81 = .ok (.aload_n 0, 1) := by decide +kernel
theorem dX6_many_82 : decode cX6_many 82 = .ok (.getfield 42, 3) := by decide +kernel
theorem dX6_many_85 : decode cX6_many 85 = .ok (.ireturn, 1) := by decide +kernel
theorem dX6_many_86 : decode cX6_many 86 = .ok (.aload_n 0, 1) := by decide +kernel
theorem dX6_many_87 : decode cX6_many 87 = .ok (.invokevirtual 210, 3) := by decide +kernel
theorem dX6_many_90 : decode cX6_many 90 = .ok (.ireturn, 1) := by decide +kernel
theorem dX6_many_91 : decode cX6_many 91 = .ok (.aload_n 0, 1) := by decide +kernel
theorem dX6_many_92 : decode cX6_many 92 = .ok (.getfield 16, 3) := by decide +kernel
theorem dX6_many_95 : decode cX6_many 95 = .ok (.ireturn, 1) := by decide +kernel
theorem dX6_many_96 : decode cX6_many 96 = .ok (.bipush (-2), 2) := by decide +kernel
theorem dX6_many_98 : decode cX6_many 98 = .ok (.ireturn, 1) := by decide +kernel
theorem dJ9_abs_0f7a4_0 : decode cJ9_abs_0f7a4 0 = .ok (.iload_n 0, 1) := by decide +kernel
theorem dJ9_abs_0f7a4_1 : decode cJ9_abs_0f7a4 1 = .ok (.ifCond .ge 8, 3) := by decide +kernel
theorem dJ9_abs_0f7a4_4 : decode cJ9_abs_0f7a4 4 = .ok (.iload_n 0, 1) := by decide +kernel
theorem dJ9_abs_0f7a4_5 : decode cJ9_abs_0f7a4 5 = .ok (.ineg, 1) := by decide +kernel
theorem dJ9_abs_0f7a4_6 : decode cJ9_abs_0f7a4 6 = .ok (.goto 4, 3) := by decide +kernel
theorem dJ9_abs_0f7a4_9 : decode cJ9_abs_0f7a4 9 = .ok (.iload_n 0, 1) := by decide +kernel
theorem dJ9_abs_0f7a4_10 : decode cJ9_abs_0f7a4 10 = .ok (.ireturn, 1) := by decide +kernel
theorem dJ9_abs_067f4_0 : decode cJ9_abs_067f4 0 = .ok (.lload_n 0, 1) := by decide +kernel
theorem dJ9_abs_067f4_1 : decode cJ9_abs_067f4 1 = .ok (.lconst 0, 1) := by decide +kernel
theorem dJ9_abs_067f4_2 : decode cJ9_abs_067f4 2 = .ok (.lcmp, 1) := by decide +kernel
theorem dJ9_abs_067f4_3 : decode cJ9_abs_067f4 3 = .ok (.ifCond .ge 8, 3) := by decide +kernel
theorem dJ9_abs_067f4_6 : decode cJ9_abs_067f4 6 = .ok (.lload_n 0, 1) := by decide +kernel
theorem dJ9_abs_067f4_7 : decode cJ9_abs_067f4 7 = .ok (.lneg, 1) := by decide +kernel
theorem dJ9_abs_067f4_8 : decode cJ9_abs_067f4 8 = .ok (.goto 4, 3) := by decide +kernel
theorem dJ9_abs_067f4_11 : decode cJ9_abs_067f4 11 = .ok (.lload_n 0, 1) := by decide +kernel
theorem dJ9_abs_067f4_12 : decode cJ9_abs_067f4 12 = .ok (.lreturn, 1) := by decide +kernel
theorem dJ9_min_7cf53_0 : decode cJ9_min_7cf53 0 = .ok (.iload_n 0, 1) := by decide +kernel
theorem dJ9_min_7cf53_1 : decode cJ9_min_7cf53 1 = .ok (.iload_n 1, 1) := by decide +kernel
theorem dJ9_min_7cf53_2 : decode cJ9_min_7cf53 2 = .ok (.if_icmp .gt 7, 3) := by decide +kernel
theorem dJ9_min_7cf53_5 : decode cJ9_min_7cf53 5 = .ok (.iload_n 0, 1) := by decide +kernel
theorem dJ9_min_7cf53_6 : decode cJ9_min_7cf53 6 = .ok (.goto 4, 3) := by decide +kernel
theorem dJ9_min_7cf53_9 : decode cJ9_min_7cf53 9 = .ok (.iload_n 1, 1) := by decide +kernel
theorem dJ9_min_7cf53_10 : decode cJ9_min_7cf53 10 = .ok (.ireturn, 1) := by decide +kernel
set_option maxRecDepth 20000 in
theorem ggL_law_X5_init : GoodIn wsL_law wsX5_init := goodIn_r _ [8, 9, 10, 11, 12, 13, 14, 15, 16, 17, 18, 19, 20, 21, 22, 23, 24, 25, 26, 27, 28, 29, 30, 31, 32, 33, 34, 35, 36, 37, 38, 39, 40, 41, 42, 43, 44, 45, 46, 47, 48, 49, 50, 51, 52, 53, 54, 55, 56, 57, 58, 59, 60, 61, 62, 63, 64, 65, 66, 67, 68, 69, 70, 71, 72, 73, 74, 75, 76, 77, 805, 806, 807, 808, 809, 810, 811, 812, 813, 780, 781, 782, 783, 784, 785, 814, 815, 816, 817, 818, 819, 820, 821, 822, 823, 824, 825, 826, 827, 828, 829, 830, 831, 832, 833, 834, 835, 836, 837, 838, 839] (by decide +kernel) (by decide +kernel)
set_option maxRecDepth 20000 in
theorem gL_law_X5_init : GoodIn wsL_law (wsX5_init) := ggL_law_X5_init
set_option maxRecDepth 20000 in
theorem ggL_law_X6_init : GoodIn wsL_law wsX6_init := goodIn_r _ [80, 81, 10, 11, 36, 82, 83, 84, 85, 86, 87, 88, 89, 90, 91, 92, 93, 94, 95, 96, 97, 786, 787, 788, 789, 790, 791, 792, 793, 794, 795, 796, 797, 798, 799, 800, 801, 802, 803, 804] (by decide +kernel) (by decide +kernel)
set_option maxRecDepth 20000 in
theorem gL_law_X6_init : GoodIn wsL_law (wsX6_init) := ggL_law_X6_init
set_option maxRecDepth 20000 in
theorem ggL_law_X5_section : GoodIn wsL_law wsX5_section := goodIn_r _ [101, 15, 102, 103, 104, 2, 105, 106, 107, 108, 14, 109, 37, 110, 38, 111, 112, 113, 114, 19, 27, 115, 116, 117, 18, 118, 47, 48, 49, 50, 119, 51, 120, 121, 122, 123, 124, 125, 126, 127, 128, 129, 130, 131, 132, 133, 134, 135, 136, 137, 42, 40, 138, 139, 140, 141, 142, 143, 144, 145, 146, 147, 148, 149, 150, 151, 152, 26, 153, 154, 780, 781, 782, 783, 784, 785, 805, 806, 807, 808, 809, 810, 811, 812, 813, 814, 815, 816, 817, 818, 821, 822, 823, 824, 825, 826, 827, 828, 829] (by decide +kernel) (by decide +kernel)
set_option maxRecDepth 20000 in
theorem gL_law_X5_section : GoodIn wsL_law (wsV RL 13 RX5 yX5_section wsX5_section) := goodIn_app (goodIn_of _ (by decide +kernel)) ggL_law_X5_section
set_option maxRecDepth 20000 in
theorem ggL_law_X6_section : GoodIn wsL_law wsX6_section := goodIn_r _ [158, 159, 82, 83, 160, 161, 5, 162, 786, 787, 788, 789, 790, 791, 792, 793, 794, 795, 796, 797, 798, 799, 800, 801, 802, 803, 804] (by decide +kernel) (by decide +kernel)
set_option maxRecDepth 20000 in
theorem gL_law_X6_section : GoodIn wsL_law (wsV RL 17 RX6 yX6_section wsX6_section) := goodIn_app (goodIn_of _ (by decide +kernel)) ggL_law_X6_section
set_option maxRecDepth 20000 in
theorem ggL_law_X5_beats : GoodIn wsL_law wsX5_beats := goodIn_r _ [166, 15, 167, 168, 169, 170, 2, 171, 102, 103, 104, 105, 780, 781, 782, 783, 784, 785, 805, 806, 807, 808, 809, 810, 811, 812, 813] (by decide +kernel) (by decide +kernel)
set_option maxRecDepth 20000 in
theorem gL_law_X5_beats : GoodIn wsL_law (wsV RL 18 RX5 yX5_beats wsX5_beats) := goodIn_app (goodIn_of _ (by decide +kernel)) ggL_law_X5_beats
set_option maxRecDepth 20000 in
theorem ggL_law_X6_beats : GoodIn wsL_law wsX6_beats := goodIn_r _ [175, 82, 176, 177, 178, 5, 179, 159, 160, 161, 162, 786, 787, 788, 789, 790, 791, 792, 793, 794, 795, 796, 797, 798, 799, 800, 801, 802, 803, 804] (by decide +kernel) (by decide +kernel)
set_option maxRecDepth 20000 in
theorem gL_law_X6_beats : GoodIn wsL_law (wsV RL 22 RX6 yX6_beats wsX6_beats) := goodIn_app (goodIn_of _ (by decide +kernel)) ggL_law_X6_beats
set_option maxRecDepth 20000 in
theorem ggL_law_X5_start : GoodIn wsL_law wsX5_start := goodIn_r _ [183, 32, 184, 185, 2, 186, 780, 781, 782, 783, 784, 785] (by decide +kernel) (by decide +kernel)
set_option maxRecDepth 20000 in
theorem gL_law_X5_start : GoodIn wsL_law (wsV RL 23 RX5 yX5_start wsX5_start) := goodIn_app (goodIn_of _ (by decide +kernel)) ggL_law_X5_start
set_option maxRecDepth 20000 in
theorem ggL_law_X6_start : GoodIn wsL_law wsX6_start := goodIn_r _ [190, 84, 160, 161, 5, 162, 786, 787, 788, 789, 790, 791, 792, 793, 794, 795, 796, 797, 798, 799, 800, 801, 802, 803, 804] (by decide +kernel) (by decide +kernel)
set_option maxRecDepth 20000 in
theorem gL_law_X6_start : GoodIn wsL_law (wsV RL 26 RX6 yX6_start wsX6_start) := goodIn_app (goodIn_of _ (by decide +kernel)) ggL_law_X6_start
set_option maxRecDepth 20000 in
theorem ggL_law_X5_tie : GoodIn wsL_law wsX5_tie := goodIn_r _ [194, 15, 195, 168, 169, 170, 2, 171, 102, 196, 197, 198, 199, 200, 201, 202, 203, 204, 14, 205, 39, 206, 40, 41, 42, 43, 111, 112, 113, 114, 19, 27, 115, 116, 117, 18, 118, 47, 48, 49, 50, 119, 51, 120, 121, 122, 123, 124, 125, 126, 127, 128, 129, 130, 131, 132, 133, 134, 135, 136, 137, 138, 139, 140, 141, 142, 143, 144, 145, 146, 147, 148, 149, 150, 151, 152, 26, 153, 154, 780, 781, 782, 783, 784, 785, 805, 806, 807, 808, 809, 810, 811, 812, 813, 814, 815, 816, 817, 818, 821, 822, 823, 824, 825, 826, 827, 828, 829] (by decide +kernel) (by decide +kernel)
set_option maxRecDepth 20000 in
theorem gL_law_X5_tie : GoodIn wsL_law (wsV RL 27 RX5 yX5_tie wsX5_tie) := goodIn_app (goodIn_of _ (by decide +kernel)) ggL_law_X5_tie
set_option maxRecDepth 20000 in
theorem ggL_law_X6_tie : GoodIn wsL_law wsX6_tie := goodIn_r _ [210, 211, 85, 176, 177, 178, 5, 179, 159, 160, 161, 162, 212, 213, 214, 786, 787, 788, 789, 790, 791, 792, 793, 794, 795, 796, 797, 798, 799, 800, 801, 802, 803, 804] (by decide +kernel) (by decide +kernel)
set_option maxRecDepth 20000 in
theorem gL_law_X6_tie : GoodIn wsL_law (wsV RL 31 RX6 yX6_tie wsX6_tie) := goodIn_app (goodIn_of _ (by decide +kernel)) ggL_law_X6_tie
set_option maxRecDepth 20000 in
theorem ggL_law_X5_ear : GoodIn wsL_law wsX5_ear := goodIn_r _ [218, 15, 219, 27, 220, 221, 222, 2, 223, 195, 199, 200, 201, 150, 151, 152, 26, 153, 154, 780, 781, 782, 783, 784, 785, 805, 806, 807, 808, 809, 810, 811, 812, 813, 821, 822, 823, 824, 825, 826, 827, 828, 829] (by decide +kernel) (by decide +kernel)
set_option maxRecDepth 20000 in
theorem gL_law_X5_ear : GoodIn wsL_law (wsV RL 32 RX5 yX5_ear wsX5_ear) := goodIn_app (goodIn_of _ (by decide +kernel)) ggL_law_X5_ear
set_option maxRecDepth 20000 in
theorem ggL_law_X6_ear : GoodIn wsL_law wsX6_ear := goodIn_r _ [227, 85, 228, 229, 230, 5, 231, 211, 160, 161, 162, 786, 787, 788, 789, 790, 791, 792, 793, 794, 795, 796, 797, 798, 799, 800, 801, 802, 803, 804] (by decide +kernel) (by decide +kernel)
set_option maxRecDepth 20000 in
theorem gL_law_X6_ear : GoodIn wsL_law (wsV RL 35 RX6 yX6_ear wsX6_ear) := goodIn_app (goodIn_of _ (by decide +kernel)) ggL_law_X6_ear
set_option maxRecDepth 20000 in
theorem ggL_law_X5_untie : GoodIn wsL_law wsX5_untie := goodIn_r _ [235, 15, 195, 220, 221, 222, 2, 223, 236, 237, 238, 14, 239, 206, 39, 40, 41, 42, 43, 111, 112, 113, 114, 19, 27, 115, 116, 117, 18, 118, 47, 48, 49, 50, 119, 51, 120, 121, 122, 123, 124, 125, 126, 127, 128, 129, 130, 131, 132, 133, 134, 135, 136, 137, 138, 139, 140, 141, 142, 143, 144, 145, 146, 147, 148, 149, 150, 151, 152, 26, 153, 154, 780, 781, 782, 783, 784, 785, 805, 806, 807, 808, 809, 810, 811, 812, 813, 814, 815, 816, 817, 818, 821, 822, 823, 824, 825, 826, 827, 828, 829] (by decide +kernel) (by decide +kernel)
set_option maxRecDepth 20000 in
theorem gL_law_X5_untie : GoodIn wsL_law (wsV RL 36 RX5 yX5_untie wsX5_untie) := goodIn_app (goodIn_of _ (by decide +kernel)) ggL_law_X5_untie
set_option maxRecDepth 20000 in
theorem ggL_law_X6_untie : GoodIn wsL_law wsX6_untie := goodIn_r _ [243, 211, 85, 228, 229, 230, 5, 231, 160, 161, 162, 786, 787, 788, 789, 790, 791, 792, 793, 794, 795, 796, 797, 798, 799, 800, 801, 802, 803, 804] (by decide +kernel) (by decide +kernel)
set_option maxRecDepth 20000 in
theorem gL_law_X6_untie : GoodIn wsL_law (wsV RL 39 RX6 yX6_untie wsX6_untie) := goodIn_app (goodIn_of _ (by decide +kernel)) ggL_law_X6_untie
set_option maxRecDepth 20000 in
theorem ggL_law_X5_clear : GoodIn wsL_law wsX5_clear := goodIn_r _ [247, 15, 195, 102, 111, 112, 113, 2, 114, 19, 27, 115, 116, 117, 18, 118, 47, 48, 49, 50, 119, 51, 120, 121, 122, 123, 124, 125, 126, 127, 128, 129, 130, 131, 132, 133, 134, 135, 136, 14, 137, 42, 40, 138, 139, 140, 141, 142, 143, 144, 145, 146, 147, 148, 149, 150, 151, 152, 26, 153, 154, 780, 781, 782, 783, 784, 785, 805, 806, 807, 808, 809, 810, 811, 812, 813, 814, 815, 816, 817, 818, 821, 822, 823, 824, 825, 826, 827, 828, 829] (by decide +kernel) (by decide +kernel)
set_option maxRecDepth 20000 in
theorem gL_law_X5_clear : GoodIn wsL_law (wsV RL 40 RX5 yX5_clear wsX5_clear) := goodIn_app (goodIn_of _ (by decide +kernel)) ggL_law_X5_clear
set_option maxRecDepth 20000 in
theorem ggL_law_X6_clear : GoodIn wsL_law wsX6_clear := goodIn_r _ [251, 211, 159, 786, 787, 788, 789, 790, 791, 792, 793, 794, 795, 796, 797, 798, 799, 800, 801, 802, 803, 804] (by decide +kernel) (by decide +kernel)
set_option maxRecDepth 20000 in
theorem gL_law_X6_clear : GoodIn wsL_law (wsV RL 44 RX6 yX6_clear wsX6_clear) := goodIn_app (goodIn_of _ (by decide +kernel)) ggL_law_X6_clear
set_option maxRecDepth 20000 in
theorem ggL_law_X5_ticks : GoodIn wsL_law wsX5_ticks := goodIn_r _ [255, 256, 196, 197, 2, 198] (by decide +kernel) (by decide +kernel)
set_option maxRecDepth 20000 in
theorem gL_law_X5_ticks : GoodIn wsL_law (wsV RL 45 RX5 yX5_ticks wsX5_ticks) := goodIn_app (goodIn_of _ (by decide +kernel)) ggL_law_X5_ticks
set_option maxRecDepth 20000 in
theorem ggL_law_X6_ticks : GoodIn wsL_law wsX6_ticks := goodIn_r _ [260, 212, 213, 5, 214, 160, 161, 162, 261, 262, 263] (by decide +kernel) (by decide +kernel)
set_option maxRecDepth 20000 in
theorem gL_law_X6_ticks : GoodIn wsL_law (wsV RL 48 RX6 yX6_ticks wsX6_ticks) := goodIn_app (goodIn_of _ (by decide +kernel)) ggL_law_X6_ticks
set_option maxRecDepth 20000 in
theorem ggL_law_X5_ofSection : GoodIn wsL_law wsX5_ofSection := goodIn_r _ [267, 15, 167, 19, 102, 268, 269, 168, 169, 170, 2, 171, 270, 271, 272, 14, 273, 206, 39, 41, 274, 275, 276, 18, 277, 47, 278, 279, 280, 281, 23, 282, 283, 284, 22, 285, 286, 287, 288, 289, 57, 56, 780, 781, 782, 783, 784, 785, 805, 806, 807, 808, 809, 810, 811, 812, 813, 814, 815, 816, 817, 818, 819, 820] (by decide +kernel) (by decide +kernel)
set_option maxRecDepth 20000 in
theorem gL_law_X5_ofSection : GoodIn wsL_law (wsV RL 49 RX5 yX5_ofSection wsX5_ofSection) := goodIn_app (goodIn_of _ (by decide +kernel)) ggL_law_X5_ofSection
set_option maxRecDepth 20000 in
theorem ggL_law_X6_ofSection : GoodIn wsL_law wsX6_ofSection := goodIn_r _ [293, 82, 294, 83, 176, 177, 178, 5, 179, 159, 160, 161, 162, 295, 296, 297, 298, 211, 299, 300, 301, 302, 85, 86, 88, 89, 261, 262, 263, 303, 304, 305, 306, 90, 91, 92, 307, 308, 309, 310, 311, 312, 313, 314, 315, 316, 317, 318, 319, 320, 321, 322, 323, 324, 325, 326, 327, 328, 329, 93, 94, 786, 787, 788, 789, 790, 791, 792, 793, 794, 795, 796, 797, 798, 799, 800, 801, 802, 803, 804] (by decide +kernel) (by decide +kernel)
set_option maxRecDepth 20000 in
theorem gL_law_X6_ofSection : GoodIn wsL_law (wsV RL 52 RX6 yX6_ofSection wsX6_ofSection) := goodIn_app (goodIn_of _ (by decide +kernel)) ggL_law_X6_ofSection
set_option maxRecDepth 20000 in
theorem ggL_law_X5_ofTie : GoodIn wsL_law wsX5_ofTie := goodIn_r _ [333, 15, 334, 335, 336, 337, 219, 19, 338, 220, 221, 222, 2, 223, 195, 780, 781, 782, 783, 784, 785, 805, 806, 807, 808, 809, 810, 811, 812, 813, 814, 815, 816, 817, 818] (by decide +kernel) (by decide +kernel)
set_option maxRecDepth 20000 in
theorem gL_law_X5_ofTie : GoodIn wsL_law (wsV RL 53 RX5 yX5_ofTie wsX5_ofTie) := goodIn_app (goodIn_of _ (by decide +kernel)) ggL_law_X5_ofTie
set_option maxRecDepth 20000 in
theorem ggL_law_X6_ofTie : GoodIn wsL_law wsX6_ofTie := goodIn_r _ [342, 86, 85, 228, 229, 230, 5, 231, 211, 160, 161, 162, 299, 300, 301, 302, 88, 89, 261, 262, 263, 303, 304, 305, 306, 90, 91, 92, 294, 307, 308, 309, 310, 311, 312, 313, 786, 787, 788, 789, 790, 791, 792, 793, 794, 795, 796, 797, 798, 799, 800, 801, 802, 803, 804] (by decide +kernel) (by decide +kernel)
set_option maxRecDepth 20000 in
theorem gL_law_X6_ofTie : GoodIn wsL_law (wsV RL 56 RX6 yX6_ofTie wsX6_ofTie) := goodIn_app (goodIn_of _ (by decide +kernel)) ggL_law_X6_ofTie
set_option maxRecDepth 20000 in
theorem ggL_law_X5_tempo : GoodIn wsL_law wsX5_tempo := goodIn_r _ [346, 347, 348, 19, 349, 168, 169, 170, 2, 171, 15, 102, 350, 351, 352, 353, 354, 355, 18, 356, 47, 357, 358, 359, 360, 32, 361, 143, 144, 145, 48, 362, 363, 364, 365, 147, 148, 149, 49, 366, 367, 368, 369, 370, 371, 372, 373, 374, 375, 376, 780, 781, 782, 783, 784, 785, 805, 806, 807, 808, 809, 810, 811, 812, 813, 814, 815, 816, 817, 818] (by decide +kernel) (by decide +kernel)
set_option maxRecDepth 20000 in
theorem gL_law_X5_tempo : GoodIn wsL_law (wsV RL 57 RX5 yX5_tempo wsX5_tempo) := goodIn_app (goodIn_of _ (by decide +kernel)) ggL_law_X5_tempo
set_option maxRecDepth 20000 in
theorem ggL_law_X6_tempo : GoodIn wsL_law wsX6_tempo := goodIn_r _ [380, 381, 382, 88, 383, 84, 89, 176, 177, 178, 5, 179, 159, 160, 161, 162, 295, 296, 297, 298, 211, 299, 300, 301, 302, 85, 86, 261, 262, 263, 303, 304, 305, 306, 90, 91, 92, 294, 307, 308, 309, 310, 311, 312, 313, 384, 385, 386, 786, 787, 788, 789, 790, 791, 792, 793, 794, 795, 796, 797, 798, 799, 800, 801, 802, 803, 804] (by decide +kernel) (by decide +kernel)
set_option maxRecDepth 20000 in
theorem gL_law_X6_tempo : GoodIn wsL_law (wsV RL 61 RX6 yX6_tempo wsX6_tempo) := goodIn_app (goodIn_of _ (by decide +kernel)) ggL_law_X6_tempo
set_option maxRecDepth 20000 in
theorem ggL_law_X5_ratio : GoodIn wsL_law wsX5_ratio := goodIn_r _ [390, 347, 348, 19, 268, 349, 168, 169, 170, 2, 171, 15, 102, 350, 351, 352, 361, 143, 144, 18, 145, 48, 365, 147, 148, 149, 49, 374, 375, 376, 369, 370, 371, 372, 373, 780, 781, 782, 783, 784, 785, 814, 815, 816, 817, 818, 805, 806, 807, 808, 809, 810, 811, 812, 813] (by decide +kernel) (by decide +kernel)
set_option maxRecDepth 20000 in
theorem gL_law_X5_ratio : GoodIn wsL_law (wsV RL 62 RX5 yX5_ratio wsX5_ratio) := goodIn_app (goodIn_of _ (by decide +kernel)) ggL_law_X5_ratio
set_option maxRecDepth 20000 in
theorem ggL_law_X6_ratio : GoodIn wsL_law wsX6_ratio := goodIn_r _ [394, 381, 382, 88, 383, 89, 176, 177, 178, 5, 179, 159, 160, 161, 162, 295, 296, 297, 298, 211, 299, 300, 301, 302, 85, 86, 261, 262, 263, 303, 304, 305, 306, 90, 91, 92, 294, 307, 308, 309, 310, 311, 312, 313, 384, 385, 386, 786, 787, 788, 789, 790, 791, 792, 793, 794, 795, 796, 797, 798, 799, 800, 801, 802, 803, 804] (by decide +kernel) (by decide +kernel)
set_option maxRecDepth 20000 in
theorem gL_law_X6_ratio : GoodIn wsL_law (wsV RL 66 RX6 yX6_ratio wsX6_ratio) := goodIn_app (goodIn_of _ (by decide +kernel)) ggL_law_X6_ratio
set_option maxRecDepth 20000 in
theorem ggL_law_X5_off : GoodIn wsL_law wsX5_off := goodIn_r _ [398, 347, 348, 19, 338, 349, 15, 334, 336, 220, 221, 222, 2, 223, 195, 350, 351, 352, 361, 143, 144, 18, 145, 48, 399, 135, 136, 14, 137, 42, 40, 365, 147, 148, 149, 49, 400, 139, 140, 141, 374, 375, 376, 369, 370, 371, 372, 373, 780, 781, 782, 783, 784, 785, 814, 815, 816, 817, 818, 805, 806, 807, 808, 809, 810, 811, 812, 813] (by decide +kernel) (by decide +kernel)
set_option maxRecDepth 20000 in
theorem gL_law_X5_off : GoodIn wsL_law (wsV RL 67 RX5 yX5_off wsX5_off) := goodIn_app (goodIn_of _ (by decide +kernel)) ggL_law_X5_off
set_option maxRecDepth 20000 in
theorem ggL_law_X6_off : GoodIn wsL_law wsX6_off := goodIn_r _ [404, 381, 382, 85, 86, 383, 88, 89, 228, 229, 230, 5, 231, 211, 160, 161, 162, 295, 296, 297, 298, 299, 300, 301, 302, 261, 262, 263, 303, 304, 305, 306, 90, 91, 92, 294, 307, 308, 309, 310, 311, 312, 313, 384, 385, 386, 786, 787, 788, 789, 790, 791, 792, 793, 794, 795, 796, 797, 798, 799, 800, 801, 802, 803, 804] (by decide +kernel) (by decide +kernel)
set_option maxRecDepth 20000 in
theorem gL_law_X6_off : GoodIn wsL_law (wsV RL 70 RX6 yX6_off wsX6_off) := goodIn_app (goodIn_of _ (by decide +kernel)) ggL_law_X6_off
set_option maxRecDepth 20000 in
theorem ggL_law_X5_ring : GoodIn wsL_law wsX5_ring := goodIn_r _ [408, 19, 338, 15, 334, 336, 220, 221, 222, 2, 223, 195, 409, 410, 411, 18, 412, 50, 780, 781, 782, 783, 784, 785, 814, 815, 816, 817, 818, 805, 806, 807, 808, 809, 810, 811, 812, 813] (by decide +kernel) (by decide +kernel)
set_option maxRecDepth 20000 in
theorem gL_law_X5_ring : GoodIn wsL_law (wsV RL 71 RX5 yX5_ring wsX5_ring) := goodIn_app (goodIn_of _ (by decide +kernel)) ggL_law_X5_ring
set_option maxRecDepth 20000 in
theorem ggL_law_X6_ring : GoodIn wsL_law wsX6_ring := goodIn_r _ [416, 85, 86, 90, 228, 229, 230, 5, 231, 211, 160, 161, 162, 295, 296, 297, 298, 299, 300, 301, 302, 88, 89, 261, 262, 263, 303, 304, 305, 306, 91, 92, 294, 307, 308, 309, 310, 311, 312, 313, 786, 787, 788, 789, 790, 791, 792, 793, 794, 795, 796, 797, 798, 799, 800, 801, 802, 803, 804] (by decide +kernel) (by decide +kernel)
set_option maxRecDepth 20000 in
theorem gL_law_X6_ring : GoodIn wsL_law (wsV RL 74 RX6 yX6_ring wsX6_ring) := goodIn_app (goodIn_of _ (by decide +kernel)) ggL_law_X6_ring
set_option maxRecDepth 20000 in
theorem ggL_law_X5_mark : GoodIn wsL_law wsX5_mark := goodIn_r _ [420, 23, 421, 27, 184, 185, 2, 186, 282, 283, 284, 22, 285, 286, 287, 288, 289, 57, 56, 422, 423, 424, 425, 426, 427, 428, 429, 150, 151, 152, 26, 153, 154, 780, 781, 782, 783, 784, 785, 819, 820, 821, 822, 823, 824, 825, 826, 827, 828, 829] (by decide +kernel) (by decide +kernel)
set_option maxRecDepth 20000 in
theorem gL_law_X5_mark : GoodIn wsL_law (wsV RL 75 RX5 yX5_mark wsX5_mark) := goodIn_app (goodIn_of _ (by decide +kernel)) ggL_law_X5_mark
set_option maxRecDepth 20000 in
theorem ggL_law_X6_mark : GoodIn wsL_law wsX6_mark := goodIn_r _ [433, 93, 160, 161, 5, 162, 326, 327, 328, 329, 94, 434, 435, 436, 437, 438, 439, 440, 441, 786, 787, 788, 789, 790, 791, 792, 793, 794, 795, 796, 797, 798, 799, 800, 801, 802, 803, 804] (by decide +kernel) (by decide +kernel)
set_option maxRecDepth 20000 in
theorem gL_law_X6_mark : GoodIn wsL_law (wsV RL 79 RX6 yX6_mark wsX6_mark) := goodIn_app (goodIn_of _ (by decide +kernel)) ggL_law_X6_mark
set_option maxRecDepth 20000 in
theorem ggL_law_X5_markAt : GoodIn wsL_law wsX5_markAt := goodIn_r _ [445, 23, 421, 446, 780, 781, 782, 783, 784, 785, 819, 820] (by decide +kernel) (by decide +kernel)
set_option maxRecDepth 20000 in
theorem gL_law_X5_markAt : GoodIn wsL_law (wsV RL 80 RX5 yX5_markAt wsX5_markAt) := goodIn_app (goodIn_of _ (by decide +kernel)) ggL_law_X5_markAt
set_option maxRecDepth 20000 in
theorem ggL_law_X6_markAt : GoodIn wsL_law wsX6_markAt := goodIn_r _ [450, 93, 94, 160, 161, 5, 162, 786, 787, 788, 789, 790, 791, 792, 793, 794, 795, 796, 797, 798, 799, 800, 801, 802, 803, 804] (by decide +kernel) (by decide +kernel)
set_option maxRecDepth 20000 in
theorem gL_law_X6_markAt : GoodIn wsL_law (wsV RL 83 RX6 yX6_markAt wsX6_markAt) := goodIn_app (goodIn_of _ (by decide +kernel)) ggL_law_X6_markAt
set_option maxRecDepth 20000 in
theorem ggL_law_X5_nearest : GoodIn wsL_law wsX5_nearest := goodIn_r _ [454, 168, 169, 170, 2, 171, 15, 102, 455, 456, 457, 458, 19, 23, 353, 354, 355, 18, 356, 47, 357, 358, 359, 360, 32, 361, 143, 144, 145, 48, 362, 363, 364, 365, 147, 148, 149, 49, 366, 367, 368, 369, 370, 371, 372, 373, 374, 375, 376, 459, 460, 461, 22, 462, 57, 56, 463, 464, 132, 465, 780, 781, 782, 783, 784, 785, 805, 806, 807, 808, 809, 810, 811, 812, 813, 814, 815, 816, 817, 818, 819, 820] (by decide +kernel) (by decide +kernel)
set_option maxRecDepth 20000 in
theorem gL_law_X5_nearest : GoodIn wsL_law (wsV RL 84 RX5 yX5_nearest wsX5_nearest) := goodIn_app (goodIn_of _ (by decide +kernel)) ggL_law_X5_nearest
set_option maxRecDepth 20000 in
theorem ggL_law_X6_nearest : GoodIn wsL_law wsX6_nearest := goodIn_r _ [469, 94, 176, 177, 178, 5, 179, 159, 160, 161, 162, 295, 296, 297, 298, 211, 299, 300, 301, 302, 85, 86, 88, 89, 261, 262, 263, 303, 304, 305, 306, 90, 91, 92, 294, 307, 308, 309, 310, 311, 312, 313, 470, 471, 472, 473, 93, 84, 474, 475, 476, 786, 787, 788, 789, 790, 791, 792, 793, 794, 795, 796, 797, 798, 799, 800, 801, 802, 803, 804] (by decide +kernel) (by decide +kernel)
set_option maxRecDepth 20000 in
theorem gL_law_X6_nearest : GoodIn wsL_law (wsV RL 87 RX6 yX6_nearest wsX6_nearest) := goodIn_app (goodIn_of _ (by decide +kernel)) ggL_law_X6_nearest
set_option maxRecDepth 20000 in
theorem ggL_law_X5_away : GoodIn wsL_law wsX5_away := goodIn_r _ [480, 347, 348, 349, 481, 464, 132, 465, 168, 169, 170, 2, 171, 15, 102, 350, 351, 352, 455, 456, 457, 458, 19, 23, 353, 354, 355, 18, 356, 47, 357, 358, 359, 360, 32, 361, 143, 144, 145, 48, 362, 363, 364, 365, 147, 148, 149, 49, 366, 367, 368, 369, 370, 371, 372, 373, 374, 375, 376, 459, 460, 461, 22, 462, 57, 56, 463, 780, 781, 782, 783, 784, 785, 805, 806, 807, 808, 809, 810, 811, 812, 813, 814, 815, 816, 817, 818, 819, 820] (by decide +kernel) (by decide +kernel)
set_option maxRecDepth 20000 in
theorem gL_law_X5_away : GoodIn wsL_law (wsV RL 88 RX5 yX5_away wsX5_away) := goodIn_app (goodIn_of _ (by decide +kernel)) ggL_law_X5_away
set_option maxRecDepth 20000 in
theorem ggL_law_X6_away : GoodIn wsL_law wsX6_away := goodIn_r _ [485, 381, 382, 383, 94, 89, 84, 88, 176, 177, 178, 5, 179, 159, 160, 161, 162, 295, 296, 297, 298, 211, 299, 300, 301, 302, 85, 86, 261, 262, 263, 303, 304, 305, 306, 90, 91, 92, 294, 307, 308, 309, 310, 311, 312, 313, 470, 471, 472, 473, 93, 474, 475, 476, 384, 385, 386, 786, 787, 788, 789, 790, 791, 792, 793, 794, 795, 796, 797, 798, 799, 800, 801, 802, 803, 804] (by decide +kernel) (by decide +kernel)
set_option maxRecDepth 20000 in
theorem gL_law_X6_away : GoodIn wsL_law (wsV RL 91 RX6 yX6_away wsX6_away) := goodIn_app (goodIn_of _ (by decide +kernel)) ggL_law_X6_away
set_option maxRecDepth 20000 in
theorem ggL_law_X5_pin : GoodIn wsL_law wsX5_pin := goodIn_r _ [489, 15, 269, 27, 168, 169, 170, 2, 171, 102, 184, 185, 186, 150, 151, 152, 26, 153, 154, 780, 781, 782, 783, 784, 785, 805, 806, 807, 808, 809, 810, 811, 812, 813, 821, 822, 823, 824, 825, 826, 827, 828, 829] (by decide +kernel) (by decide +kernel)
set_option maxRecDepth 20000 in
theorem gL_law_X5_pin : GoodIn wsL_law (wsV RL 92 RX5 yX5_pin wsX5_pin) := goodIn_app (goodIn_of _ (by decide +kernel)) ggL_law_X5_pin
set_option maxRecDepth 20000 in
theorem ggL_law_X6_pin : GoodIn wsL_law wsX6_pin := goodIn_r _ [493, 83, 176, 177, 178, 5, 179, 159, 160, 161, 162, 786, 787, 788, 789, 790, 791, 792, 793, 794, 795, 796, 797, 798, 799, 800, 801, 802, 803, 804] (by decide +kernel) (by decide +kernel)
set_option maxRecDepth 20000 in
theorem gL_law_X6_pin : GoodIn wsL_law (wsV RL 95 RX6 yX6_pin wsX6_pin) := goodIn_app (goodIn_of _ (by decide +kernel)) ggL_law_X6_pin
set_option maxRecDepth 20000 in
theorem ggL_law_X5_harm : GoodIn wsL_law wsX5_harm := goodIn_r _ [497, 27, 15, 19, 23, 498, 499, 500, 501, 26, 502, 154, 503, 61, 504, 505, 506, 507, 508, 509, 510, 62, 63, 511, 287, 288, 22, 289, 57, 56, 512, 354, 355, 18, 356, 47, 513, 514, 515, 516, 66, 517, 518, 519, 67, 520, 521, 522, 14, 523, 39, 41, 524, 525, 526, 527, 65, 528, 529, 530, 531, 532, 533, 534, 535, 536, 131, 132, 133, 537, 538, 539, 540, 40, 42, 541, 542, 543, 544, 545, 546, 547, 780, 781, 782, 783, 784, 785, 821, 822, 823, 824, 825, 826, 827, 828, 829, 805, 806, 807, 808, 809, 810, 811, 812, 813, 819, 820, 814, 815, 816, 817, 818] (by decide +kernel) (by decide +kernel)
set_option maxRecDepth 20000 in
theorem gL_law_X5_harm : GoodIn wsL_law (wsV RL 96 RX5 yX5_harm wsX5_harm) := goodIn_app (goodIn_of _ (by decide +kernel)) ggL_law_X5_harm
set_option maxRecDepth 20000 in
theorem ggL_law_X6_harm : GoodIn wsL_law wsX6_harm := goodIn_r _ [551, 552, 553, 554, 5, 555, 159, 93, 95, 83, 88, 295, 296, 297, 298, 211, 299, 300, 301, 302, 85, 86, 89, 261, 262, 263, 303, 304, 305, 306, 90, 91, 92, 294, 307, 308, 309, 310, 311, 312, 313, 322, 323, 324, 325, 326, 327, 328, 329, 94, 556, 557, 558, 559, 96, 560, 561, 562, 563, 564, 565, 566, 567, 568, 786, 787, 788, 789, 790, 791, 792, 793, 794, 795, 796, 797, 798, 799, 800, 801, 802, 803, 804] (by decide +kernel) (by decide +kernel)
set_option maxRecDepth 20000 in
theorem gL_law_X6_harm : GoodIn wsL_law (wsV RL 99 RX6 yX6_harm wsX6_harm) := goodIn_app (goodIn_of _ (by decide +kernel)) ggL_law_X6_harm
set_option maxRecDepth 20000 in
theorem ggL_law_X5_play : GoodIn wsL_law wsX5_play := goodIn_r _ [572, 27, 15, 19, 23, 573, 168, 169, 170, 2, 171, 102, 499, 500, 501, 26, 502, 154, 503, 61, 504, 505, 506, 507, 508, 509, 510, 62, 63, 511, 287, 288, 22, 289, 57, 56, 512, 354, 355, 18, 356, 47, 513, 514, 515, 516, 66, 517, 518, 519, 67, 520, 521, 522, 14, 523, 39, 41, 524, 525, 526, 527, 65, 528, 529, 530, 531, 532, 533, 534, 535, 536, 131, 132, 133, 537, 538, 539, 540, 40, 42, 541, 542, 543, 544, 545, 546, 547, 780, 781, 782, 783, 784, 785, 821, 822, 823, 824, 825, 826, 827, 828, 829, 805, 806, 807, 808, 809, 810, 811, 812, 813, 819, 820, 814, 815, 816, 817, 818] (by decide +kernel) (by decide +kernel)
set_option maxRecDepth 20000 in
theorem gL_law_X5_play : GoodIn wsL_law (wsV RL 100 RX5 yX5_play wsX5_play) := goodIn_app (goodIn_of _ (by decide +kernel)) ggL_law_X5_play
set_option maxRecDepth 20000 in
theorem ggL_law_X6_play : GoodIn wsL_law wsX6_play := goodIn_r _ [577, 176, 177, 178, 5, 179, 159, 160, 161, 162, 552, 553, 554, 555, 93, 95, 83, 88, 295, 296, 297, 298, 211, 299, 300, 301, 302, 85, 86, 89, 261, 262, 263, 303, 304, 305, 306, 90, 91, 92, 294, 307, 308, 309, 310, 311, 312, 313, 322, 323, 324, 325, 326, 327, 328, 329, 94, 556, 557, 558, 559, 96, 560, 561, 562, 563, 564, 565, 566, 567, 568, 578, 579, 580, 581, 786, 787, 788, 789, 790, 791, 792, 793, 794, 795, 796, 797, 798, 799, 800, 801, 802, 803, 804] (by decide +kernel) (by decide +kernel)
set_option maxRecDepth 20000 in
theorem gL_law_X6_play : GoodIn wsL_law (wsV RL 103 RX6 yX6_play wsX6_play) := goodIn_app (goodIn_of _ (by decide +kernel)) ggL_law_X6_play
set_option maxRecDepth 20000 in
theorem ggL_law_X5_drift : GoodIn wsL_law wsX5_drift := goodIn_r _ [585, 27, 15, 19, 23, 573, 334, 336, 220, 221, 222, 2, 223, 195, 499, 500, 501, 26, 502, 154, 503, 61, 504, 505, 506, 507, 508, 509, 510, 62, 63, 511, 287, 288, 22, 289, 57, 56, 512, 354, 355, 18, 356, 47, 513, 514, 515, 516, 66, 517, 518, 519, 67, 520, 521, 522, 14, 523, 39, 41, 524, 525, 526, 527, 65, 528, 529, 530, 531, 532, 533, 534, 535, 536, 131, 132, 133, 537, 538, 539, 540, 40, 42, 541, 542, 543, 544, 545, 546, 547, 586, 780, 781, 782, 783, 784, 785, 821, 822, 823, 824, 825, 826, 827, 828, 829, 805, 806, 807, 808, 809, 810, 811, 812, 813, 819, 820, 814, 815, 816, 817, 818] (by decide +kernel) (by decide +kernel)
set_option maxRecDepth 20000 in
theorem gL_law_X5_drift : GoodIn wsL_law (wsV RL 104 RX5 yX5_drift wsX5_drift) := goodIn_app (goodIn_of _ (by decide +kernel)) ggL_law_X5_drift
set_option maxRecDepth 20000 in
theorem ggL_law_X6_drift : GoodIn wsL_law wsX6_drift := goodIn_r _ [590, 85, 228, 229, 230, 5, 231, 211, 160, 161, 162, 552, 553, 554, 555, 159, 93, 95, 83, 88, 295, 296, 297, 298, 299, 300, 301, 302, 86, 89, 261, 262, 263, 303, 304, 305, 306, 90, 91, 92, 294, 307, 308, 309, 310, 311, 312, 313, 322, 323, 324, 325, 326, 327, 328, 329, 94, 556, 557, 558, 559, 96, 560, 561, 562, 563, 564, 565, 566, 567, 568, 578, 579, 580, 581, 786, 787, 788, 789, 790, 791, 792, 793, 794, 795, 796, 797, 798, 799, 800, 801, 802, 803, 804] (by decide +kernel) (by decide +kernel)
set_option maxRecDepth 20000 in
theorem gL_law_X6_drift : GoodIn wsL_law (wsV RL 107 RX6 yX6_drift wsX6_drift) := goodIn_app (goodIn_of _ (by decide +kernel)) ggL_law_X6_drift
set_option maxRecDepth 20000 in
theorem ggL_law_X5_clock : GoodIn wsL_law wsX5_clock := goodIn_r _ [594, 347, 348, 19, 349, 32, 168, 169, 170, 2, 171, 15, 102, 353, 354, 355, 18, 356, 47, 595, 596, 597, 598, 167, 599, 361, 143, 144, 145, 48, 365, 147, 148, 149, 49, 374, 375, 376, 369, 370, 371, 372, 373, 600, 601, 602, 603, 780, 781, 782, 783, 784, 785, 805, 806, 807, 808, 809, 810, 811, 812, 813, 814, 815, 816, 817, 818] (by decide +kernel) (by decide +kernel)
set_option maxRecDepth 20000 in
theorem gL_law_X5_clock : GoodIn wsL_law (wsV RL 108 RX5 yX5_clock wsX5_clock) := goodIn_app (goodIn_of _ (by decide +kernel)) ggL_law_X5_clock
set_option maxRecDepth 20000 in
theorem ggL_law_X6_clock : GoodIn wsL_law wsX6_clock := goodIn_r _ [607, 381, 382, 88, 383, 84, 176, 177, 178, 5, 179, 159, 160, 161, 162, 295, 296, 297, 298, 211, 299, 300, 301, 302, 85, 86, 89, 261, 262, 263, 303, 304, 305, 306, 90, 91, 92, 294, 307, 308, 309, 310, 311, 312, 313, 608, 609, 610, 611, 612, 613, 614, 615, 82, 616, 786, 787, 788, 789, 790, 791, 792, 793, 794, 795, 796, 797, 798, 799, 800, 801, 802, 803, 804] (by decide +kernel) (by decide +kernel)
set_option maxRecDepth 20000 in
theorem gL_law_X6_clock : GoodIn wsL_law (wsV RL 111 RX6 yX6_clock wsX6_clock) := goodIn_app (goodIn_of _ (by decide +kernel)) ggL_law_X6_clock
set_option maxRecDepth 20000 in
theorem ggL_law_X5_whole : GoodIn wsL_law wsX5_whole := goodIn_r _ [620, 15, 102, 32, 600, 601, 602, 2, 603, 595, 596, 597, 598, 19, 167, 599, 353, 354, 355, 18, 356, 47, 361, 143, 144, 145, 48, 365, 147, 148, 149, 49, 374, 375, 376, 369, 370, 371, 372, 373, 780, 781, 782, 783, 784, 785, 805, 806, 807, 808, 809, 810, 811, 812, 813, 814, 815, 816, 817, 818] (by decide +kernel) (by decide +kernel)
set_option maxRecDepth 20000 in
theorem gL_law_X5_whole : GoodIn wsL_law (wsV RL 112 RX5 yX5_whole wsX5_whole) := goodIn_app (goodIn_of _ (by decide +kernel)) ggL_law_X5_whole
set_option maxRecDepth 20000 in
theorem ggL_law_X6_whole : GoodIn wsL_law wsX6_whole := goodIn_r _ [624, 159, 295, 296, 297, 5, 298, 211, 299, 300, 301, 302, 85, 86, 88, 89, 261, 262, 263, 303, 304, 305, 306, 90, 91, 92, 294, 307, 308, 309, 310, 311, 312, 313, 608, 609, 610, 611, 84, 612, 613, 614, 615, 82, 616, 786, 787, 788, 789, 790, 791, 792, 793, 794, 795, 796, 797, 798, 799, 800, 801, 802, 803, 804] (by decide +kernel) (by decide +kernel)
set_option maxRecDepth 20000 in
theorem gL_law_X6_whole : GoodIn wsL_law (wsV RL 116 RX6 yX6_whole wsX6_whole) := goodIn_app (goodIn_of _ (by decide +kernel)) ggL_law_X6_whole
set_option maxRecDepth 20000 in
theorem ggL_law_X5_where : GoodIn wsL_law wsX5_where := goodIn_r _ [628, 15, 102, 32, 629, 630, 2, 631, 632, 595, 596, 597, 598, 19, 167, 599, 353, 354, 355, 18, 356, 47, 361, 143, 144, 145, 48, 365, 147, 148, 149, 49, 374, 375, 376, 369, 370, 371, 372, 373, 780, 781, 782, 783, 784, 785, 805, 806, 807, 808, 809, 810, 811, 812, 813, 814, 815, 816, 817, 818] (by decide +kernel) (by decide +kernel)
set_option maxRecDepth 20000 in
theorem gL_law_X5_where : GoodIn wsL_law (wsV RL 117 RX5 yX5_where wsX5_where) := goodIn_app (goodIn_of _ (by decide +kernel)) ggL_law_X5_where
set_option maxRecDepth 20000 in
theorem ggL_law_X6_where : GoodIn wsL_law wsX6_where := goodIn_r _ [636, 637, 159, 88, 84, 160, 161, 5, 162, 295, 296, 297, 298, 211, 299, 300, 301, 302, 85, 86, 89, 261, 262, 263, 303, 304, 305, 306, 90, 91, 92, 294, 307, 308, 309, 310, 311, 312, 313, 612, 613, 614, 615, 82, 616, 786, 787, 788, 789, 790, 791, 792, 793, 794, 795, 796, 797, 798, 799, 800, 801, 802, 803, 804] (by decide +kernel) (by decide +kernel)
set_option maxRecDepth 20000 in
theorem gL_law_X6_where : GoodIn wsL_law (wsV RL 120 RX6 yX6_where wsX6_where) := goodIn_app (goodIn_of _ (by decide +kernel)) ggL_law_X6_where
set_option maxRecDepth 20000 in
theorem ggL_law_X5_within : GoodIn wsL_law wsX5_within := goodIn_r _ [641, 15, 102, 629, 630, 2, 631, 632, 600, 601, 602, 603, 595, 596, 597, 598, 19, 167, 599, 353, 354, 355, 18, 356, 47, 361, 143, 144, 145, 48, 365, 147, 148, 149, 49, 374, 375, 376, 369, 370, 371, 372, 373, 780, 781, 782, 783, 784, 785, 805, 806, 807, 808, 809, 810, 811, 812, 813, 814, 815, 816, 817, 818] (by decide +kernel) (by decide +kernel)
set_option maxRecDepth 20000 in
theorem gL_law_X5_within : GoodIn wsL_law (wsV RL 121 RX5 yX5_within wsX5_within) := goodIn_app (goodIn_of _ (by decide +kernel)) ggL_law_X5_within
set_option maxRecDepth 20000 in
theorem ggL_law_X6_within : GoodIn wsL_law wsX6_within := goodIn_r _ [645, 637, 159, 88, 160, 161, 5, 162, 295, 296, 297, 298, 211, 299, 300, 301, 302, 85, 86, 89, 261, 262, 263, 303, 304, 305, 306, 90, 91, 92, 294, 307, 308, 309, 310, 311, 312, 313, 612, 613, 614, 615, 82, 616, 786, 787, 788, 789, 790, 791, 792, 793, 794, 795, 796, 797, 798, 799, 800, 801, 802, 803, 804] (by decide +kernel) (by decide +kernel)
set_option maxRecDepth 20000 in
theorem gL_law_X6_within : GoodIn wsL_law (wsV RL 124 RX6 yX6_within wsX6_within) := goodIn_app (goodIn_of _ (by decide +kernel)) ggL_law_X6_within
set_option maxRecDepth 20000 in
theorem ggL_law_X5_pivot : GoodIn wsL_law wsX5_pivot := goodIn_r _ [649, 19, 256, 168, 169, 170, 2, 171, 15, 102, 184, 185, 186, 353, 354, 355, 18, 356, 47, 357, 358, 359, 360, 32, 361, 143, 144, 145, 48, 362, 363, 364, 365, 147, 148, 149, 49, 366, 367, 368, 369, 370, 371, 372, 373, 374, 375, 376, 780, 781, 782, 783, 784, 785, 805, 806, 807, 808, 809, 810, 811, 812, 813, 814, 815, 816, 817, 818] (by decide +kernel) (by decide +kernel)
set_option maxRecDepth 20000 in
theorem gL_law_X5_pivot : GoodIn wsL_law (wsV RL 125 RX5 yX5_pivot wsX5_pivot) := goodIn_app (goodIn_of _ (by decide +kernel)) ggL_law_X5_pivot
set_option maxRecDepth 20000 in
theorem ggL_law_X6_pivot : GoodIn wsL_law wsX6_pivot := goodIn_r _ [653, 88, 84, 89, 176, 177, 178, 5, 179, 159, 160, 161, 162, 295, 296, 297, 298, 211, 299, 300, 301, 302, 85, 86, 261, 262, 263, 303, 304, 305, 306, 90, 91, 92, 294, 307, 308, 309, 310, 311, 312, 313, 786, 787, 788, 789, 790, 791, 792, 793, 794, 795, 796, 797, 798, 799, 800, 801, 802, 803, 804] (by decide +kernel) (by decide +kernel)
set_option maxRecDepth 20000 in
theorem gL_law_X6_pivot : GoodIn wsL_law (wsV RL 129 RX6 yX6_pivot wsX6_pivot) := goodIn_app (goodIn_of _ (by decide +kernel)) ggL_law_X6_pivot
set_option maxRecDepth 20000 in
theorem ggL_law_X5_pivots : GoodIn wsL_law wsX5_pivots := goodIn_r _ [657, 658, 31, 659, 660, 184, 185, 2, 186, 661, 662, 663, 30, 664, 665, 666, 667, 668, 76, 367, 368, 369, 370, 362, 363, 364, 371, 372, 373, 669, 670, 671, 672, 673, 674, 675, 676, 72, 73, 677, 678, 679, 680, 681, 682, 75, 683, 684, 685, 686, 687, 688, 689, 690, 691, 692, 693, 694, 77, 695, 696, 697, 698, 699, 700, 701, 702, 703, 704, 705, 706, 707, 708, 709, 710, 71, 711, 712, 713, 714, 780, 781, 782, 783, 784, 785, 830, 831, 832, 833, 834, 835, 836, 837, 838, 839] (by decide +kernel) (by decide +kernel)
set_option maxRecDepth 20000 in
theorem gL_law_X5_pivots : GoodIn wsL_law (wsV RL 130 RX5 yX5_pivots wsX5_pivots) := goodIn_app (goodIn_of _ (by decide +kernel)) ggL_law_X5_pivots
set_option maxRecDepth 20000 in
theorem ggL_law_X6_pivots : GoodIn wsL_law wsX6_pivots := goodIn_r _ [718, 719, 720, 160, 161, 5, 162, 721, 722, 723, 724, 97, 311, 312, 313, 725, 726, 727, 728, 729, 730, 731, 732, 733, 734, 735, 736, 737, 738, 739, 740, 741, 742, 743, 261, 262, 263, 744, 745, 746, 747, 748, 749, 750, 751, 752, 753, 754, 755, 786, 787, 788, 789, 790, 791, 792, 793, 794, 795, 796, 797, 798, 799, 800, 801, 802, 803, 804] (by decide +kernel) (by decide +kernel)
set_option maxRecDepth 20000 in
theorem gL_law_X6_pivots : GoodIn wsL_law (wsV RL 134 RX6 yX6_pivots wsX6_pivots) := goodIn_app (goodIn_of _ (by decide +kernel)) ggL_law_X6_pivots
set_option maxRecDepth 20000 in
theorem ggL_law_X5_many : GoodIn wsL_law wsX5_many := goodIn_r _ [759, 15, 102, 195, 19, 23, 421, 32, 760, 761, 762, 18, 763, 51, 764, 765, 766, 2, 767, 278, 279, 280, 281, 269, 282, 283, 284, 22, 285, 286, 287, 288, 289, 57, 56, 780, 781, 782, 783, 784, 785, 805, 806, 807, 808, 809, 810, 811, 812, 813, 819, 820, 814, 815, 816, 817, 818] (by decide +kernel) (by decide +kernel)
set_option maxRecDepth 20000 in
theorem gL_law_X5_many : GoodIn wsL_law (wsV RL 135 RX5 yX5_many wsX5_many) := goodIn_app (goodIn_of _ (by decide +kernel)) ggL_law_X5_many
set_option maxRecDepth 20000 in
theorem ggL_law_X6_many : GoodIn wsL_law wsX6_many := goodIn_r _ [771, 159, 211, 93, 84, 772, 773, 774, 5, 775, 86, 299, 300, 301, 302, 85, 88, 89, 261, 262, 263, 303, 304, 305, 306, 90, 91, 92, 294, 307, 308, 309, 310, 311, 312, 313, 776, 777, 778, 779, 322, 323, 324, 325, 83, 326, 327, 328, 329, 94, 786, 787, 788, 789, 790, 791, 792, 793, 794, 795, 796, 797, 798, 799, 800, 801, 802, 803, 804] (by decide +kernel) (by decide +kernel)
set_option maxRecDepth 20000 in
theorem gL_law_X6_many : GoodIn wsL_law (wsV RL 138 RX6 yX6_many wsX6_many) := goodIn_app (goodIn_of _ (by decide +kernel)) ggL_law_X6_many
