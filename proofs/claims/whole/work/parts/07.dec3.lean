theorem dX6_init_0 : decode cX6_init 0 = .ok (.aload_n 0, 1) := by decide +kernel
theorem dX6_init_1 : decode cX6_init 1 = .ok (.invokespecial 1, 3) := by decide +kernel
theorem dX6_init_4 : decode cX6_init 4 = .ok (.aload_n 0, 1) := by decide +kernel
theorem dX6_init_5 : decode cX6_init 5 = .ok (.bipush 7, 2) := by decide +kernel
theorem dX6_init_7 : decode cX6_init 7 = .ok (.newarray .int, 2) := by decide +kernel
theorem dX6_init_9 : decode cX6_init 9 = .ok (.putfield 7, 3) := by decide +kernel
theorem dX6_init_12 : decode cX6_init 12 = .ok (.aload_n 0, 1) := by decide +kernel
theorem dX6_init_13 : decode cX6_init 13 = .ok (.bipush 7, 2) := by decide +kernel
theorem dX6_init_15 : decode cX6_init 15 = .ok (.newarray .int, 2) := by decide +kernel
theorem dX6_init_17 : decode cX6_init 17 = .ok (.putfield 13, 3) := by decide +kernel
theorem dX6_init_20 : decode cX6_init 20 = .ok (.aload_n 0, 1) := by decide +kernel
theorem dX6_init_21 : decode cX6_init 21 = .ok (.bipush 60, 2) := by decide +kernel
theorem dX6_init_23 : decode cX6_init 23 = .ok (.putfield 16, 3) := by decide +kernel
theorem dX6_init_26 : decode cX6_init 26 = .ok (.aload_n 0, 1) := by decide +kernel
theorem dX6_init_27 : decode cX6_init 27 = .ok (.bipush 60, 2) := by decide +kernel
theorem dX6_init_29 : decode cX6_init 29 = .ok (.newarray .int, 2) := by decide +kernel
theorem dX6_init_31 : decode cX6_init 31 = .ok (.putfield 20, 3) := by decide +kernel
theorem dX6_init_34 : decode cX6_init 34 = .ok (.aload_n 0, 1) := by decide +kernel
theorem dX6_init_35 : decode cX6_init 35 = .ok (.bipush 12, 2) := by decide +kernel
theorem dX6_init_37 : decode cX6_init 37 = .ok (.newarray .int, 2) := by decide +kernel
theorem dX6_init_39 : decode cX6_init 39 = .ok (.putfield 23, 3) := by decide +kernel
theorem dX6_init_42 : decode cX6_init 42 = .ok (.aload_n 0, 1) := by decide +kernel
theorem dX6_init_43 : decode cX6_init 43 = .ok (.bipush 7, 2) := by decide +kernel
theorem dX6_init_45 : decode cX6_init 45 = .ok (.newarray .long, 2) := by decide +kernel
theorem dX6_init_47 : decode cX6_init 47 = .ok (.putfield 26, 3) := by decide +kernel
theorem dX6_init_50 : decode cX6_init 50 = .ok (.aload_n 0, 1) := by decide +kernel
theorem dX6_init_51 : decode cX6_init 51 = .ok (.bipush 7, 2) := by decide +kernel
theorem dX6_init_53 : decode cX6_init 53 = .ok (.newarray .long, 2) := by decide +kernel
theorem dX6_init_55 : decode cX6_init 55 = .ok (.putfield 30, 3) := by decide +kernel
theorem dX6_init_58 : decode cX6_init 58 = .ok (.aload_n 0, 1) := by decide +kernel
theorem dX6_init_59 : decode cX6_init 59 = .ok (.bipush 7, 2) := by decide +kernel
theorem dX6_init_61 : decode cX6_init 61 = .ok (.newarray .int, 2) := by decide +kernel
theorem dX6_init_63 : decode cX6_init 63 = .ok (.putfield 33, 3) := by decide +kernel
theorem dX6_init_66 : decode cX6_init 66 = .ok (.aload_n 0, 1) := by decide +kernel
theorem dX6_init_67 : decode cX6_init 67 = .ok (.bipush 7, 2) := by decide +kernel
theorem dX6_init_69 : decode cX6_init 69 = .ok (.newarray .int, 2) := by decide +kernel
theorem dX6_init_71 : decode cX6_init 71 = .ok (.putfield 36, 3) := by decide +kernel
theorem dX6_init_74 : decode cX6_init 74 = .ok (.aload_n 0, 1) := by decide +kernel
theorem dX6_init_75 : decode cX6_init 75 = .ok (.bipush 7, 2) := by decide +kernel
theorem dX6_init_77 : decode cX6_init 77 = .ok (.newarray .int, 2) := by decide +kernel
theorem dX6_init_79 : decode cX6_init 79 = .ok (.putfield 39, 3) := by decide +kernel
theorem dX6_init_82 : decode cX6_init 82 = .ok (.aload_n 0, 1) := by decide +kernel
theorem dX6_init_83 : decode cX6_init 83 = .ok (.bipush 8, 2) := by decide +kernel
theorem dX6_init_85 : decode cX6_init 85 = .ok (.putfield 42, 3) := by decide +kernel
theorem dX6_init_88 : decode cX6_init 88 = .ok (.aload_n 0, 1) := by decide +kernel
theorem dX6_init_89 : decode cX6_init 89 = .ok (.bipush 16, 2) := by decide +kernel
theorem dX6_init_91 : decode cX6_init 91 = .ok (.newarray .int, 2) := by decide +kernel
theorem dX6_init_93 : decode cX6_init 93 = .ok (.dup, 1) := by decide +kernel
theorem dX6_init_94 : decode cX6_init 94 = .ok (.iconst 0, 1) := by decide +kernel
theorem dX6_init_95 : decode cX6_init 95 = .ok (.bipush 40, 2) := by decide +kernel
theorem dX6_init_97 : decode cX6_init 97 = .ok (.iastore, 1) := by decide +kernel
theorem dX6_init_98 : decode cX6_init 98 = .ok (.dup, 1) := by decide +kernel
theorem dX6_init_99 : decode cX6_init 99 = .ok (.iconst 1, 1) := by decide +kernel
theorem dX6_init_100 : decode cX6_init 100 = .ok (.bipush 60, 2) := by decide +kernel
theorem dX6_init_102 : decode cX6_init 102 = .ok (.iastore, 1) := by decide +kernel
theorem dX6_init_103 : decode cX6_init 103 = .ok (.dup, 1) := by decide +kernel
theorem dX6_init_104 : decode cX6_init 104 = .ok (.iconst 2, 1) := by decide +kernel
theorem dX6_init_105 : decode cX6_init 105 = .ok (.bipush 80, 2) := by decide +kernel
theorem dX6_init_107 : decode cX6_init 107 = .ok (.iastore, 1) := by decide +kernel
theorem dX6_init_108 : decode cX6_init 108 = .ok (.dup, 1) := by decide +kernel
theorem dX6_init_109 : decode cX6_init 109 = .ok (.iconst 3, 1) := by decide +kernel
theorem dX6_init_110 : decode cX6_init 110 = .ok (.bipush 100, 2) := by decide +kernel
theorem dX6_init_112 : decode cX6_init 112 = .ok (.iastore, 1) := by decide +kernel
theorem dX6_init_113 : decode cX6_init 113 = .ok (.dup, 1) := by decide +kernel
theorem dX6_init_114 : decode cX6_init 114 = .ok (.iconst 4, 1) := by decide +kernel
theorem dX6_init_115 : decode cX6_init 115 = .ok (.bipush 120, 2) := by decide +kernel
theorem dX6_init_117 : decode cX6_init 117 = .ok (.iastore, 1) := by decide +kernel
theorem dX6_init_118 : decode cX6_init 118 = .ok (.dup, 1) := by decide +kernel
theorem dX6_init_119 : decode cX6_init 119 = .ok (.iconst 5, 1) := by decide +kernel
theorem dX6_init_120 : decode cX6_init 120 = .ok (.sipush 144, 3) := by decide +kernel
theorem dX6_init_123 : decode cX6_init 123 = .ok (.iastore, 1) := by decide +kernel
theorem dX6_init_124 : decode cX6_init 124 = .ok (.dup, 1) := by decide +kernel
theorem dX6_init_125 : decode cX6_init 125 = .ok (.bipush 6, 2) := by decide +kernel
theorem dX6_init_127 : decode cX6_init 127 = .ok (.sipush 176, 3) := by decide +kernel
theorem dX6_init_130 : decode cX6_init 130 = .ok (.iastore, 1) := by decide +kernel
theorem dX6_init_131 : decode cX6_init 131 = .ok (.dup, 1) := by decide +kernel
theorem dX6_init_132 : decode cX6_init 132 = .ok (.bipush 7, 2) := by decide +kernel
theorem dX6_init_134 : decode cX6_init 134 = .ok (.sipush 208, 3) := by decide +kernel
theorem dX6_init_137 : decode cX6_init 137 = .ok (.iastore, 1) := by decide +kernel
theorem dX6_init_138 : decode cX6_init 138 = .ok (.dup, 1) := by decide +kernel
theorem dX6_init_139 : decode cX6_init 139 = .ok (.bipush 8, 2) := by decide +kernel
theorem dX6_init_141 : decode cX6_init 141 = .ok (.iconst 0, 1) := by decide +kernel
theorem dX6_init_142 : decode cX6_init 142 = .ok (.iastore, 1) := by decide +kernel
theorem dX6_init_143 : decode cX6_init 143 = .ok (.dup, 1) := by decide +kernel
theorem dX6_init_144 : decode cX6_init 144 = .ok (.bipush 9, 2) := by decide +kernel
theorem dX6_init_146 : decode cX6_init 146 = .ok (.iconst 0, 1) := by decide +kernel
theorem dX6_init_147 : decode cX6_init 147 = .ok (.iastore, 1) := by decide +kernel
theorem dX6_init_148 : decode cX6_init 148 = .ok (.dup, 1) := by decide +kernel
theorem dX6_init_149 : decode cX6_init 149 = .ok (.bipush 10, 2) := by decide +kernel
theorem dX6_init_151 : decode cX6_init 151 = .ok (.iconst 0, 1) := by decide +kernel
theorem dX6_init_152 : decode cX6_init 152 = .ok (.iastore, 1) := by decide +kernel
theorem dX6_init_153 : decode cX6_init 153 = .ok (.dup, 1) := by decide +kernel
theorem dX6_init_154 : decode cX6_init 154 = .ok (.bipush 11, 2) := by decide +kernel
theorem dX6_init_156 : decode cX6_init 156 = .ok (.iconst 0, 1) := by decide +kernel
theorem dX6_init_157 : decode cX6_init 157 = .ok (.iastore, 1) := by decide +kernel
theorem dX6_init_158 : decode cX6_init 158 = .ok (.dup, 1) := by decide +kernel
theorem dX6_init_159 : decode cX6_init 159 = .ok (.bipush 12, 2) := by decide +kernel
theorem dX6_init_161 : decode cX6_init 161 = .ok (.iconst 0, 1) := by decide +kernel
theorem dX6_init_162 : decode cX6_init 162 = .ok (.iastore, 1) := by decide +kernel
theorem dX6_init_163 : decode cX6_init 163 = .ok (.dup, 1) := by decide +kernel
theorem dX6_init_164 : decode cX6_init 164 = .ok (.bipush 13, 2) := by decide +kernel
theorem dX6_init_166 : decode cX6_init 166 = .ok (.iconst 0, 1) := by decide +kernel
theorem dX6_init_167 : decode cX6_init 167 = .ok (.iastore, 1) := by decide +kernel
theorem dX6_init_168 : decode cX6_init 168 = .ok (.dup, 1) := by decide +kernel
theorem dX6_init_169 : decode cX6_init 169 = .ok (.bipush 14, 2) := by decide +kernel
theorem dX6_init_171 : decode cX6_init 171 = .ok (.iconst 0, 1) := by decide +kernel
theorem dX6_init_172 : decode cX6_init 172 = .ok (.iastore, 1) := by decide +kernel
theorem dX6_init_173 : decode cX6_init 173 = .ok (.dup, 1) := by decide +kernel
theorem dX6_init_174 : decode cX6_init 174 = .ok (.bipush 15, 2) := by decide +kernel
theorem dX6_init_176 : decode cX6_init 176 = .ok (.iconst 0, 1) := by decide +kernel
theorem dX6_init_177 : decode cX6_init 177 = .ok (.iastore, 1) := by decide +kernel
theorem dX6_init_178 : decode cX6_init 178 = .ok (.putfield 45, 3) := by decide +kernel
theorem dX6_init_181 : decode cX6_init 181 = .ok (.aload_n 0, 1) := by decide +kernel
theorem dX6_init_182 : decode cX6_init 182 = .ok (.bipush 7, 2) := by decide +kernel
theorem dX6_init_184 : decode cX6_init 184 = .ok (.newarray .int, 2) := by decide +kernel
theorem dX6_init_186 : decode cX6_init 186 = .ok (.putfield 48, 3) := by decide +kernel
theorem dX6_init_189 : decode cX6_init 189 = .ok (.aload_n 0, 1) := by decide +kernel
theorem dX6_init_190 : decode cX6_init 190 = .ok (.bipush 112, 2) := by decide +kernel
theorem dX6_init_192 : decode cX6_init 192 = .ok (.newarray .int, 2) := by decide +kernel
theorem dX6_init_194 : decode cX6_init 194 = .ok (.putfield 51, 3) := by decide +kernel
theorem dX6_init_197 : decode cX6_init 197 = .ok (.aload_n 0, 1) := by decide +kernel
theorem dX6_init_198 : decode cX6_init 198 = .ok (.sipush 1281, 3) := by decide +kernel
theorem dX6_init_201 : decode cX6_init 201 = .ok (.newarray .int, 2) := by decide +kernel
theorem dX6_init_203 : decode cX6_init 203 = .ok (.putfield 54, 3) := by decide +kernel
theorem dX6_init_206 : decode cX6_init 206 = .ok (.iconst 0, 1) := by decide +kernel
theorem dX6_init_207 : decode cX6_init 207 = .ok (.istore_n 1, 1) := by decide +kernel
theorem dX6_init_208 : decode cX6_init 208 = .ok (.iload_n 1, 1) := by decide +kernel
theorem dX6_init_209 : decode cX6_init 209 = .ok (.bipush 7, 2) := by decide +kernel
theorem dX6_init_211 : decode cX6_init 211 = .ok (.if_icmp .ge 17, 3) := by decide +kernel
theorem dX6_init_214 : decode cX6_init 214 = .ok (.aload_n 0, 1) := by decide +kernel
theorem dX6_init_215 : decode cX6_init 215 = .ok (.getfield 13, 3) := by decide +kernel
theorem dX6_init_218 : decode cX6_init 218 = .ok (.iload_n 1, 1) := by decide +kernel
theorem dX6_init_219 : decode cX6_init 219 = .ok (.bipush (-9), 2) := by decide +kernel
theorem dX6_init_221 : decode cX6_init 221 = .ok (.iastore, 1) := by decide +kernel
theorem dX6_init_222 : decode cX6_init 222 = .ok (.iinc 1 1, 3) := by decide +kernel
theorem dX6_init_225 : decode cX6_init 225 = .ok (.goto (-17), 3) := by decide +kernel
theorem dX6_init_228 : decode cX6_init 228 = .ok (.return_, 1) := by decide +kernel
theorem dX6_isIn_0 : decode cX6_isIn 0 = .ok (.iload_n 0, 1) := by decide +kernel
theorem dX6_isIn_1 : decode cX6_isIn 1 = .ok (.iload_n 1, 1) := by decide +kernel
theorem dX6_isIn_2 : decode cX6_isIn 2 = .ok (.if_icmp .lt 12, 3) := by decide +kernel
theorem dX6_isIn_5 : decode cX6_isIn 5 = .ok (.iload_n 0, 1) := by decide +kernel
theorem dX6_isIn_6 : decode cX6_isIn 6 = .ok (.iload_n 2, 1) := by decide +kernel
theorem dX6_isIn_7 : decode cX6_isIn 7 = .ok (.if_icmp .gt 7, 3) := by decide +kernel
theorem dX6_isIn_10 : decode cX6_isIn 10 = .ok (.iconst 1, 1) := by decide +kernel
theorem dX6_isIn_11 : decode cX6_isIn 11 = .ok (.goto 4, 3) := by decide +kernel
theorem dX6_isIn_14 : decode cX6_isIn 14 = .ok (.iconst 0, 1) := by decide +kernel
theorem dX6_isIn_15 : decode cX6_isIn 15 = .ok (.ireturn, 1) := by decide +kernel
theorem dX6_common_0 : decode cX6_common 0 = .ok (.lload_n 0, 1) := by decide +kernel
theorem dX6_common_1 : decode cX6_common 1 = .ok (.lstore 4, 2) := by decide +kernel
theorem dX6_common_3 : decode cX6_common 3 = .ok (.lload_n 2, 1) := by decide +kernel
theorem dX6_common_4 : decode cX6_common 4 = .ok (.lstore 6, 2) := by decide +kernel
theorem dX6_common_6 : decode cX6_common 6 = .ok (.lload 6, 2) := by decide +kernel
theorem dX6_common_8 : decode cX6_common 8 = .ok (.lconst 0, 1) := by decide +kernel
theorem dX6_common_9 : decode cX6_common 9 = .ok (.lcmp, 1) := by decide +kernel
theorem dX6_common_10 : decode cX6_common 10 = .ok (.ifCond .le 21, 3) := by decide +kernel
theorem dX6_common_13 : decode cX6_common 13 = .ok (.lload 4, 2) := by decide +kernel
theorem dX6_common_15 : decode cX6_common 15 = .ok (.lload 6, 2) := by decide +kernel
theorem dX6_common_17 : decode cX6_common 17 = .ok (.lrem, 1) := by decide +kernel
theorem dX6_common_18 : decode cX6_common 18 = .ok (.lstore 8, 2) := by decide +kernel
theorem dX6_common_20 : decode cX6_common 20 = .ok (.lload 6, 2) := by decide +kernel
theorem dX6_common_22 : decode cX6_common 22 = .ok (.lstore 4, 2) := by decide +kernel
theorem dX6_common_24 : decode cX6_common 24 = .ok (.lload 8, 2) := by decide +kernel
theorem dX6_common_26 : decode cX6_common 26 = .ok (.lstore 6, 2) := by decide +kernel
theorem dX6_common_28 : decode cX6_common 28 = .ok (.goto (-22), 3) := by decide +kernel
theorem dX6_common_31 : decode cX6_common 31 = .ok (.lload 4, 2) := by decide +kernel
theorem dX6_common_33 : decode cX6_common 33 = .ok (.lreturn, 1) := by decide +kernel
set_option maxRecDepth 20000 in
theorem ggX6_isSection_X6_isIn : GoodIn wsX6_isSection wsX6_isIn := goodIn_r _ [5] (by decide +kernel) (by decide +kernel)
set_option maxRecDepth 20000 in
theorem gX6_isSection_X6_isIn : GoodIn wsX6_isSection (va_wsS RX6 60 yX6_isIn wsX6_isIn) := goodIn_app (goodIn_of _ (by decide +kernel)) ggX6_isSection_X6_isIn
theorem dX6_isSection_0 : decode cX6_isSection 0 = .ok (.iload_n 1, 1) := by decide +kernel
theorem dX6_isSection_1 : decode cX6_isSection 1 = .ok (.iconst 0, 1) := by decide +kernel
theorem dX6_isSection_2 : decode cX6_isSection 2 = .ok (.aload_n 0, 1) := by decide +kernel
theorem dX6_isSection_3 : decode cX6_isSection 3 = .ok (.getfield 57, 3) := by decide +kernel
theorem dX6_isSection_6 : decode cX6_isSection 6 = .ok (.iconst 1, 1) := by decide +kernel
theorem dX6_isSection_7 : decode cX6_isSection 7 = .ok (.isub, 1) := by decide +kernel
theorem dX6_isSection_8 : decode cX6_isSection 8 = .ok (.invokestatic 60, 3) := by decide +kernel
theorem dX6_isSection_11 : decode cX6_isSection 11 = .ok (.ireturn, 1) := by decide +kernel
set_option maxRecDepth 20000 in
theorem ggX6_isTie_X6_isIn : GoodIn wsX6_isTie wsX6_isIn := goodIn_r _ [5] (by decide +kernel) (by decide +kernel)
set_option maxRecDepth 20000 in
theorem gX6_isTie_X6_isIn : GoodIn wsX6_isTie (va_wsS RX6 60 yX6_isIn wsX6_isIn) := goodIn_app (goodIn_of _ (by decide +kernel)) ggX6_isTie_X6_isIn
theorem dX6_isTie_0 : decode cX6_isTie 0 = .ok (.iload_n 1, 1) := by decide +kernel
theorem dX6_isTie_1 : decode cX6_isTie 1 = .ok (.iconst 0, 1) := by decide +kernel
theorem dX6_isTie_2 : decode cX6_isTie 2 = .ok (.aload_n 0, 1) := by decide +kernel
theorem dX6_isTie_3 : decode cX6_isTie 3 = .ok (.getfield 64, 3) := by decide +kernel
theorem dX6_isTie_6 : decode cX6_isTie 6 = .ok (.iconst 1, 1) := by decide +kernel
theorem dX6_isTie_7 : decode cX6_isTie 7 = .ok (.isub, 1) := by decide +kernel
theorem dX6_isTie_8 : decode cX6_isTie 8 = .ok (.invokestatic 60, 3) := by decide +kernel
theorem dX6_isTie_11 : decode cX6_isTie 11 = .ok (.ireturn, 1) := by decide +kernel
set_option maxRecDepth 20000 in
theorem ggX6_isValue_X6_isIn : GoodIn wsX6_isValue wsX6_isIn := goodIn_r _ [4] (by decide +kernel) (by decide +kernel)
set_option maxRecDepth 20000 in
theorem gX6_isValue_X6_isIn : GoodIn wsX6_isValue (va_wsS RX6 60 yX6_isIn wsX6_isIn) := goodIn_app (goodIn_of _ (by decide +kernel)) ggX6_isValue_X6_isIn
theorem dX6_isValue_0 : decode cX6_isValue 0 = .ok (.iload_n 0, 1) := by decide +kernel
theorem dX6_isValue_1 : decode cX6_isValue 1 = .ok (.iconst 0, 1) := by decide +kernel
theorem dX6_isValue_2 : decode cX6_isValue 2 = .ok (.bipush 19, 2) := by decide +kernel
theorem dX6_isValue_4 : decode cX6_isValue 4 = .ok (.invokestatic 60, 3) := by decide +kernel
theorem dX6_isValue_7 : decode cX6_isValue 7 = .ok (.ireturn, 1) := by decide +kernel
theorem dX6_ticksOf_0 : decode cX6_ticksOf 0 = .ok (.bipush 96, 2) := by decide +kernel
theorem dX6_ticksOf_2 : decode cX6_ticksOf 2 = .ok (.iload_n 0, 1) := by decide +kernel
theorem dX6_ticksOf_3 : decode cX6_ticksOf 3 = .ok (.iconst 4, 1) := by decide +kernel
theorem dX6_ticksOf_4 : decode cX6_ticksOf 4 = .ok (.idiv, 1) := by decide +kernel
theorem dX6_ticksOf_5 : decode cX6_ticksOf 5 = .ok (.ishr, 1) := by decide +kernel
theorem dX6_ticksOf_6 : decode cX6_ticksOf 6 = .ok (.istore_n 1, 1) := by decide +kernel
theorem dX6_ticksOf_7 : decode cX6_ticksOf 7 = .ok (.iload_n 0, 1) := by decide +kernel
theorem dX6_ticksOf_8 : decode cX6_ticksOf 8 = .ok (.iconst 1, 1) := by decide +kernel
theorem dX6_ticksOf_9 : decode cX6_ticksOf 9 = .ok (.ishr, 1) := by decide +kernel
theorem dX6_ticksOf_10 : decode cX6_ticksOf 10 = .ok (.iconst 1, 1) := by decide +kernel
theorem dX6_ticksOf_11 : decode cX6_ticksOf 11 = .ok (.iand, 1) := by decide +kernel
theorem dX6_ticksOf_12 : decode cX6_ticksOf 12 = .ok (.iconst 1, 1) := by decide +kernel
theorem dX6_ticksOf_13 : decode cX6_ticksOf 13 = .ok (.if_icmp .ne 11, 3) := by decide +kernel
theorem dX6_ticksOf_16 : decode cX6_ticksOf 16 = .ok (.iload_n 1, 1) := by decide +kernel
theorem dX6_ticksOf_17 : decode cX6_ticksOf 17 = .ok (.iload_n 1, 1) := by decide +kernel
theorem dX6_ticksOf_18 : decode cX6_ticksOf 18 = .ok (.iconst 2, 1) := by decide +kernel
theorem dX6_ticksOf_19 : decode cX6_ticksOf 19 = .ok (.idiv, 1) := by decide +kernel
theorem dX6_ticksOf_20 : decode cX6_ticksOf 20 = .ok (.iadd, 1) := by decide +kernel
theorem dX6_ticksOf_21 : decode cX6_ticksOf 21 = .ok (.goto 4, 3) := by decide +kernel
theorem dX6_ticksOf_24 : decode cX6_ticksOf 24 = .ok (.iload_n 1, 1) := by decide +kernel
theorem dX6_ticksOf_25 : decode cX6_ticksOf 25 = .ok (.istore_n 1, 1) := by decide +kernel
theorem dX6_ticksOf_26 : decode cX6_ticksOf 26 = .ok (.iload_n 0, 1) := by decide +kernel
theorem dX6_ticksOf_27 : decode cX6_ticksOf 27 = .ok (.iconst 1, 1) := by decide +kernel
theorem dX6_ticksOf_28 : decode cX6_ticksOf 28 = .ok (.iand, 1) := by decide +kernel
theorem dX6_ticksOf_29 : decode cX6_ticksOf 29 = .ok (.iconst 1, 1) := by decide +kernel
theorem dX6_ticksOf_30 : decode cX6_ticksOf 30 = .ok (.if_icmp .ne 11, 3) := by decide +kernel
theorem dX6_ticksOf_33 : decode cX6_ticksOf 33 = .ok (.iload_n 1, 1) := by decide +kernel
theorem dX6_ticksOf_34 : decode cX6_ticksOf 34 = .ok (.iconst 3, 1) := by decide +kernel
theorem dX6_ticksOf_35 : decode cX6_ticksOf 35 = .ok (.idiv, 1) := by decide +kernel
theorem dX6_ticksOf_36 : decode cX6_ticksOf 36 = .ok (.iconst 2, 1) := by decide +kernel
theorem dX6_ticksOf_37 : decode cX6_ticksOf 37 = .ok (.imul, 1) := by decide +kernel
theorem dX6_ticksOf_38 : decode cX6_ticksOf 38 = .ok (.goto 4, 3) := by decide +kernel
theorem dX6_ticksOf_41 : decode cX6_ticksOf 41 = .ok (.iload_n 1, 1) := by decide +kernel
theorem dX6_ticksOf_42 : decode cX6_ticksOf 42 = .ok (.ireturn, 1) := by decide +kernel
set_option maxRecDepth 20000 in
theorem ggX6_section_X6_isIn : GoodIn wsX6_section wsX6_isIn := goodIn_r _ [7] (by decide +kernel) (by decide +kernel)
set_option maxRecDepth 20000 in
theorem gX6_section_X6_isIn : GoodIn wsX6_section (va_wsS RX6 60 yX6_isIn wsX6_isIn) := goodIn_app (goodIn_of _ (by decide +kernel)) ggX6_section_X6_isIn
theorem dX6_section_0 : decode cX6_section 0 = .ok (.iload_n 1, 1) := by decide +kernel
theorem dX6_section_1 : decode cX6_section 1 = .ok (.iconst 1, 1) := by decide +kernel
theorem dX6_section_2 : decode cX6_section 2 = .ok (.bipush 99, 2) := by decide +kernel
theorem dX6_section_4 : decode cX6_section 4 = .ok (.invokestatic 60, 3) := by decide +kernel
theorem dX6_section_7 : decode cX6_section 7 = .ok (.ifCond .ne 6, 3) := by decide +kernel
theorem dX6_section_10 : decode cX6_section 10 = .ok (.bipush (-2), 2) := by decide +kernel
theorem dX6_section_12 : decode cX6_section 12 = .ok (.ireturn, 1) := by decide +kernel
theorem dX6_section_13 : decode cX6_section 13 = .ok (.aload_n 0, 1) := by decide +kernel
theorem dX6_section_14 : decode cX6_section 14 = .ok (.getfield 57, 3) := by decide +kernel
theorem dX6_section_17 : decode cX6_section 17 = .ok (.bipush 7, 2) := by decide +kernel
theorem dX6_section_19 : decode cX6_section 19 = .ok (.if_icmp .ne 6, 3) := by decide +kernel
theorem dX6_section_22 : decode cX6_section 22 = .ok (.bipush (-4), 2) := by decide +kernel
theorem dX6_section_24 : decode cX6_section 24 = .ok (.ireturn, 1) := by decide +kernel
theorem dX6_section_25 : decode cX6_section 25 = .ok (.aload_n 0, 1) := by decide +kernel
theorem dX6_section_26 : decode cX6_section 26 = .ok (.getfield 7, 3) := by decide +kernel
theorem dX6_section_29 : decode cX6_section 29 = .ok (.aload_n 0, 1) := by decide +kernel
theorem dX6_section_30 : decode cX6_section 30 = .ok (.getfield 57, 3) := by decide +kernel
theorem dX6_section_33 : decode cX6_section 33 = .ok (.iload_n 1, 1) := by decide +kernel
theorem dX6_section_34 : decode cX6_section 34 = .ok (.iastore, 1) := by decide +kernel
theorem dX6_section_35 : decode cX6_section 35 = .ok (.aload_n 0, 1) := by decide +kernel
theorem dX6_section_36 : decode cX6_section 36 = .ok (.getfield 13, 3) := by decide +kernel
theorem dX6_section_39 : decode cX6_section 39 = .ok (.aload_n 0, 1) := by decide +kernel
theorem dX6_section_40 : decode cX6_section 40 = .ok (.getfield 57, 3) := by decide +kernel
theorem dX6_section_43 : decode cX6_section 43 = .ok (.bipush (-9), 2) := by decide +kernel
theorem dX6_section_45 : decode cX6_section 45 = .ok (.iastore, 1) := by decide +kernel
theorem dX6_section_46 : decode cX6_section 46 = .ok (.aload_n 0, 1) := by decide +kernel
theorem dX6_section_47 : decode cX6_section 47 = .ok (.dup, 1) := by decide +kernel
theorem dX6_section_48 : decode cX6_section 48 = .ok (.getfield 57, 3) := by decide +kernel
theorem dX6_section_51 : decode cX6_section 51 = .ok (.iconst 1, 1) := by decide +kernel
theorem dX6_section_52 : decode cX6_section 52 = .ok (.iadd, 1) := by decide +kernel
theorem dX6_section_53 : decode cX6_section 53 = .ok (.putfield 57, 3) := by decide +kernel
theorem dX6_section_56 : decode cX6_section 56 = .ok (.aload_n 0, 1) := by decide +kernel
theorem dX6_section_57 : decode cX6_section 57 = .ok (.getfield 57, 3) := by decide +kernel
theorem dX6_section_60 : decode cX6_section 60 = .ok (.iconst 1, 1) := by decide +kernel
theorem dX6_section_61 : decode cX6_section 61 = .ok (.isub, 1) := by decide +kernel
theorem dX6_section_62 : decode cX6_section 62 = .ok (.ireturn, 1) := by decide +kernel
set_option maxRecDepth 20000 in
theorem ggX6_beats_X6_isSection : GoodIn wsX6_beats wsX6_isSection := goodIn_r _ [6, 7, 8, 9, 5, 10, 11, 12, 13, 14, 15, 16, 17, 18, 19, 20, 21, 22, 23, 24, 25, 26, 27, 28, 29] (by decide +kernel) (by decide +kernel)
set_option maxRecDepth 20000 in
theorem gX6_beats_X6_isSection : GoodIn wsX6_beats (wsV RX6 67 RX6 yX6_isSection wsX6_isSection) := goodIn_app (goodIn_of _ (by decide +kernel)) ggX6_beats_X6_isSection
set_option maxRecDepth 20000 in
theorem ggX6_beats_X6_isIn : GoodIn wsX6_beats wsX6_isIn := goodIn_r _ [10] (by decide +kernel) (by decide +kernel)
set_option maxRecDepth 20000 in
theorem gX6_beats_X6_isIn : GoodIn wsX6_beats (va_wsS RX6 60 yX6_isIn wsX6_isIn) := goodIn_app (goodIn_of _ (by decide +kernel)) ggX6_beats_X6_isIn
theorem dX6_beats_0 : decode cX6_beats 0 = .ok (.aload_n 0, 1) := by decide +kernel
theorem dX6_beats_1 : decode cX6_beats 1 = .ok (.iload_n 1, 1) := by decide +kernel
theorem dX6_beats_2 : decode cX6_beats 2 = .ok (.invokevirtual 67, 3) := by decide +kernel
theorem dX6_beats_5 : decode cX6_beats 5 = .ok (.ifCond .ne 5, 3) := by decide +kernel
theorem dX6_beats_8 : decode cX6_beats 8 = .ok (.iconst (-1), 1) := by decide +kernel
theorem dX6_beats_9 : decode cX6_beats 9 = .ok (.ireturn, 1) := by decide +kernel
theorem dX6_beats_10 : decode cX6_beats 10 = .ok (.iload_n 2, 1) := by decide +kernel
theorem dX6_beats_11 : decode cX6_beats 11 = .ok (.iconst 1, 1) := by decide +kernel
theorem dX6_beats_12 : decode cX6_beats 12 = .ok (.bipush 99, 2) := by decide +kernel
theorem dX6_beats_14 : decode cX6_beats 14 = .ok (.invokestatic 60, 3) := by decide +kernel
theorem dX6_beats_17 : decode cX6_beats 17 = .ok (.ifCond .ne 6, 3) := by decide +kernel
theorem dX6_beats_20 : decode cX6_beats 20 = .ok (.bipush (-2), 2) := by decide +kernel
theorem dX6_beats_22 : decode cX6_beats 22 = .ok (.ireturn, 1) := by decide +kernel
theorem dX6_beats_23 : decode cX6_beats 23 = .ok (.aload_n 0, 1) := by decide +kernel
theorem dX6_beats_24 : decode cX6_beats 24 = .ok (.getfield 7, 3) := by decide +kernel
theorem dX6_beats_27 : decode cX6_beats 27 = .ok (.iload_n 1, 1) := by decide +kernel
theorem dX6_beats_28 : decode cX6_beats 28 = .ok (.iaload, 1) := by decide +kernel
theorem dX6_beats_29 : decode cX6_beats 29 = .ok (.istore_n 3, 1) := by decide +kernel
theorem dX6_beats_30 : decode cX6_beats 30 = .ok (.aload_n 0, 1) := by decide +kernel
theorem dX6_beats_31 : decode cX6_beats 31 = .ok (.getfield 7, 3) := by decide +kernel
theorem dX6_beats_34 : decode cX6_beats 34 = .ok (.iload_n 1, 1) := by decide +kernel
theorem dX6_beats_35 : decode cX6_beats 35 = .ok (.iload_n 2, 1) := by decide +kernel
theorem dX6_beats_36 : decode cX6_beats 36 = .ok (.iastore, 1) := by decide +kernel
theorem dX6_beats_37 : decode cX6_beats 37 = .ok (.iload_n 3, 1) := by decide +kernel
theorem dX6_beats_38 : decode cX6_beats 38 = .ok (.ireturn, 1) := by decide +kernel
set_option maxRecDepth 20000 in
theorem ggX6_start_X6_isIn : GoodIn wsX6_start wsX6_isIn := goodIn_r _ [5] (by decide +kernel) (by decide +kernel)
set_option maxRecDepth 20000 in
theorem gX6_start_X6_isIn : GoodIn wsX6_start (va_wsS RX6 60 yX6_isIn wsX6_isIn) := goodIn_app (goodIn_of _ (by decide +kernel)) ggX6_start_X6_isIn
theorem dX6_start_0 : decode cX6_start 0 = .ok (.iload_n 1, 1) := by decide +kernel
theorem dX6_start_1 : decode cX6_start 1 = .ok (.bipush 20, 2) := by decide +kernel
theorem dX6_start_3 : decode cX6_start 3 = .ok (.sipush 400, 3) := by decide +kernel
theorem dX6_start_6 : decode cX6_start 6 = .ok (.invokestatic 60, 3) := by decide +kernel
theorem dX6_start_9 : decode cX6_start 9 = .ok (.ifCond .ne 6, 3) := by decide +kernel
theorem dX6_start_12 : decode cX6_start 12 = .ok (.bipush (-2), 2) := by decide +kernel
theorem dX6_start_14 : decode cX6_start 14 = .ok (.ireturn, 1) := by decide +kernel
theorem dX6_start_15 : decode cX6_start 15 = .ok (.aload_n 0, 1) := by decide +kernel
theorem dX6_start_16 : decode cX6_start 16 = .ok (.getfield 16, 3) := by decide +kernel
theorem dX6_start_19 : decode cX6_start 19 = .ok (.istore_n 2, 1) := by decide +kernel
theorem dX6_start_20 : decode cX6_start 20 = .ok (.aload_n 0, 1) := by decide +kernel
theorem dX6_start_21 : decode cX6_start 21 = .ok (.iload_n 1, 1) := by decide +kernel
theorem dX6_start_22 : decode cX6_start 22 = .ok (.putfield 16, 3) := by decide +kernel
theorem dX6_start_25 : decode cX6_start 25 = .ok (.iload_n 2, 1) := by decide +kernel
theorem dX6_start_26 : decode cX6_start 26 = .ok (.ireturn, 1) := by decide +kernel
set_option maxRecDepth 20000 in
theorem ggX6_tie_X6_isSection : GoodIn wsX6_tie wsX6_isSection := goodIn_r _ [7, 8, 9, 10, 6, 11, 15, 16, 17, 18, 19, 20, 21, 22, 23, 24, 25, 26, 27, 28, 29, 30, 31, 32, 33] (by decide +kernel) (by decide +kernel)
set_option maxRecDepth 20000 in
theorem gX6_tie_X6_isSection : GoodIn wsX6_tie (wsV RX6 67 RX6 yX6_isSection wsX6_isSection) := goodIn_app (goodIn_of _ (by decide +kernel)) ggX6_tie_X6_isSection
set_option maxRecDepth 20000 in
theorem ggX6_tie_X6_isValue : GoodIn wsX6_tie wsX6_isValue := goodIn_r _ [14, 9, 10, 6, 11] (by decide +kernel) (by decide +kernel)
set_option maxRecDepth 20000 in
theorem gX6_tie_X6_isValue : GoodIn wsX6_tie (va_wsS RX6 71 yX6_isValue wsX6_isValue) := goodIn_app (goodIn_of _ (by decide +kernel)) ggX6_tie_X6_isValue
set_option maxRecDepth 20000 in
theorem ggX6_tie_X6_isIn : GoodIn wsX6_tie wsX6_isIn := goodIn_r _ [11] (by decide +kernel) (by decide +kernel)
set_option maxRecDepth 20000 in
theorem gX6_tie_X6_isIn : GoodIn wsX6_tie (va_wsS RX6 60 yX6_isIn wsX6_isIn) := goodIn_app (goodIn_of _ (by decide +kernel)) ggX6_tie_X6_isIn
theorem dX6_tie_0 : decode cX6_tie 0 = .ok (.aload_n 0, 1) := by decide +kernel
theorem dX6_tie_1 : decode cX6_tie 1 = .ok (.iload_n 1, 1) := by decide +kernel
theorem dX6_tie_2 : decode cX6_tie 2 = .ok (.invokevirtual 67, 3) := by decide +kernel
theorem dX6_tie_5 : decode cX6_tie 5 = .ok (.ifCond .eq 31, 3) := by decide +kernel
theorem dX6_tie_8 : decode cX6_tie 8 = .ok (.aload_n 0, 1) := by decide +kernel
theorem dX6_tie_9 : decode cX6_tie 9 = .ok (.iload_n 3, 1) := by decide +kernel
theorem dX6_tie_10 : decode cX6_tie 10 = .ok (.invokevirtual 67, 3) := by decide +kernel
theorem dX6_tie_13 : decode cX6_tie 13 = .ok (.ifCond .eq 23, 3) := by decide +kernel
theorem dX6_tie_16 : decode cX6_tie 16 = .ok (.iload_n 1, 1) := by decide +kernel
theorem dX6_tie_17 : decode cX6_tie 17 = .ok (.iload_n 3, 1) := by decide +kernel
theorem dX6_tie_18 : decode cX6_tie 18 = .ok (.if_icmp .eq 18, 3) := by decide +kernel
theorem dX6_tie_21 : decode cX6_tie 21 = .ok (.iload_n 2, 1) := by decide +kernel
theorem dX6_tie_22 : decode cX6_tie 22 = .ok (.invokestatic 71, 3) := by decide +kernel
theorem dX6_tie_25 : decode cX6_tie 25 = .ok (.ifCond .eq 11, 3) := by decide +kernel
theorem dX6_tie_28 : decode cX6_tie 28 = .ok (.iload 4, 2) := by decide +kernel
theorem dX6_tie_30 : decode cX6_tie 30 = .ok (.invokestatic 71, 3) := by decide +kernel
theorem dX6_tie_33 : decode cX6_tie 33 = .ok (.ifCond .ne 5, 3) := by decide +kernel
theorem dX6_tie_36 : decode cX6_tie 36 = .ok (.iconst (-1), 1) := by decide +kernel
theorem dX6_tie_37 : decode cX6_tie 37 = .ok (.ireturn, 1) := by decide +kernel
theorem dX6_tie_38 : decode cX6_tie 38 = .ok (.iload 5, 2) := by decide +kernel
theorem dX6_tie_40 : decode cX6_tie 40 = .ok (.iconst 0, 1) := by decide +kernel
theorem dX6_tie_41 : decode cX6_tie 41 = .ok (.bipush 9, 2) := by decide +kernel
theorem dX6_tie_43 : decode cX6_tie 43 = .ok (.invokestatic 60, 3) := by decide +kernel
theorem dX6_tie_46 : decode cX6_tie 46 = .ok (.ifCond .ne 6, 3) := by decide +kernel
theorem dX6_tie_49 : decode cX6_tie 49 = .ok (.bipush (-2), 2) := by decide +kernel
theorem dX6_tie_51 : decode cX6_tie 51 = .ok (.ireturn, 1) := by decide +kernel
theorem dX6_tie_52 : decode cX6_tie 52 = .ok (.aload_n 0, 1) := by decide +kernel
theorem dX6_tie_53 : decode cX6_tie 53 = .ok (.getfield 64, 3) := by decide +kernel
theorem dX6_tie_56 : decode cX6_tie 56 = .ok (.bipush 12, 2) := by decide +kernel
theorem dX6_tie_58 : decode cX6_tie 58 = .ok (.if_icmp .ne 6, 3) := by decide +kernel
theorem dX6_tie_61 : decode cX6_tie 61 = .ok (.bipush (-4), 2) := by decide +kernel
theorem dX6_tie_63 : decode cX6_tie 63 = .ok (.ireturn, 1) := by decide +kernel
theorem dX6_tie_64 : decode cX6_tie 64 = .ok (.aload_n 0, 1) := by decide +kernel
theorem dX6_tie_65 : decode cX6_tie 65 = .ok (.getfield 20, 3) := by decide +kernel
theorem dX6_tie_68 : decode cX6_tie 68 = .ok (.iconst 5, 1) := by decide +kernel
theorem dX6_tie_69 : decode cX6_tie 69 = .ok (.aload_n 0, 1) := by decide +kernel
theorem dX6_tie_70 : decode cX6_tie 70 = .ok (.getfield 64, 3) := by decide +kernel
theorem dX6_tie_73 : decode cX6_tie 73 = .ok (.imul, 1) := by decide +kernel
theorem dX6_tie_74 : decode cX6_tie 74 = .ok (.iload_n 1, 1) := by decide +kernel
theorem dX6_tie_75 : decode cX6_tie 75 = .ok (.iastore, 1) := by decide +kernel
theorem dX6_tie_76 : decode cX6_tie 76 = .ok (.aload_n 0, 1) := by decide +kernel
theorem dX6_tie_77 : decode cX6_tie 77 = .ok (.getfield 20, 3) := by decide +kernel
theorem dX6_tie_80 : decode cX6_tie 80 = .ok (.iconst 5, 1) := by decide +kernel
theorem dX6_tie_81 : decode cX6_tie 81 = .ok (.aload_n 0, 1) := by decide +kernel
theorem dX6_tie_82 : decode cX6_tie 82 = .ok (.getfield 64, 3) := by decide +kernel
theorem dX6_tie_85 : decode cX6_tie 85 = .ok (.imul, 1) := by decide +kernel
theorem dX6_tie_86 : decode cX6_tie 86 = .ok (.iconst 1, 1) := by decide +kernel
theorem dX6_tie_87 : decode cX6_tie 87 = .ok (.iadd, 1) := by decide +kernel
theorem dX6_tie_88 : decode cX6_tie 88 = .ok (.iload_n 2, 1) := by decide +kernel
theorem dX6_tie_89 : decode cX6_tie 89 = .ok (.iastore, 1) := by decide +kernel
theorem dX6_tie_90 : decode cX6_tie 90 = .ok (.aload_n 0, 1) := by decide +kernel
theorem dX6_tie_91 : decode cX6_tie 91 = .ok (.getfield 20, 3) := by decide +kernel
theorem dX6_tie_94 : decode cX6_tie 94 = .ok (.iconst 5, 1) := by decide +kernel
theorem dX6_tie_95 : decode cX6_tie 95 = .ok (.aload_n 0, 1) := by decide +kernel
theorem dX6_tie_96 : decode cX6_tie 96 = .ok (.getfield 64, 3) := by decide +kernel
theorem dX6_tie_99 : decode cX6_tie 99 = .ok (.imul, 1) := by decide +kernel
theorem dX6_tie_100 : decode cX6_tie 100 = .ok (.iconst 2, 1) := by decide +kernel
theorem dX6_tie_101 : decode cX6_tie 101 = .ok (.iadd, 1) := by decide +kernel
theorem dX6_tie_102 : decode cX6_tie 102 = .ok (.iload_n 3, 1) := by decide +kernel
theorem dX6_tie_103 : decode cX6_tie 103 = .ok (.iastore, 1) := by decide +kernel
theorem dX6_tie_104 : decode cX6_tie 104 = .ok (.aload_n 0, 1) := by decide +kernel
theorem dX6_tie_105 : decode cX6_tie 105 = .ok (.getfield 20, 3) := by decide +kernel
theorem dX6_tie_108 : decode cX6_tie 108 = .ok (.iconst 5, 1) := by decide +kernel
theorem dX6_tie_109 : decode cX6_tie 109 = .ok (.aload_n 0, 1) := by decide +kernel
theorem dX6_tie_110 : decode cX6_tie 110 = .ok (.getfield 64, 3) := by decide +kernel
theorem dX6_tie_113 : decode cX6_tie 113 = .ok (.imul, 1) := by decide +kernel
theorem dX6_tie_114 : decode cX6_tie 114 = .ok (.iconst 3, 1) := by decide +kernel
theorem dX6_tie_115 : decode cX6_tie 115 = .ok (.iadd, 1) := by decide +kernel
theorem dX6_tie_116 : decode cX6_tie 116 = .ok (.iload 4, 2) := by decide +kernel
theorem dX6_tie_118 : decode cX6_tie 118 = .ok (.iastore, 1) := by decide +kernel
theorem dX6_tie_119 : decode cX6_tie 119 = .ok (.aload_n 0, 1) := by decide +kernel
theorem dX6_tie_120 : decode cX6_tie 120 = .ok (.getfield 20, 3) := by decide +kernel
theorem dX6_tie_123 : decode cX6_tie 123 = .ok (.iconst 5, 1) := by decide +kernel
theorem dX6_tie_124 : decode cX6_tie 124 = .ok (.aload_n 0, 1) := by decide +kernel
theorem dX6_tie_125 : decode cX6_tie 125 = .ok (.getfield 64, 3) := by decide +kernel
theorem dX6_tie_128 : decode cX6_tie 128 = .ok (.imul, 1) := by decide +kernel
theorem dX6_tie_129 : decode cX6_tie 129 = .ok (.iconst 4, 1) := by decide +kernel
theorem dX6_tie_130 : decode cX6_tie 130 = .ok (.iadd, 1) := by decide +kernel
theorem dX6_tie_131 : decode cX6_tie 131 = .ok (.iload 5, 2) := by decide +kernel
theorem dX6_tie_133 : decode cX6_tie 133 = .ok (.iastore, 1) := by decide +kernel
theorem dX6_tie_134 : decode cX6_tie 134 = .ok (.aload_n 0, 1) := by decide +kernel
theorem dX6_tie_135 : decode cX6_tie 135 = .ok (.dup, 1) := by decide +kernel
theorem dX6_tie_136 : decode cX6_tie 136 = .ok (.getfield 64, 3) := by decide +kernel
theorem dX6_tie_139 : decode cX6_tie 139 = .ok (.iconst 1, 1) := by decide +kernel
theorem dX6_tie_140 : decode cX6_tie 140 = .ok (.iadd, 1) := by decide +kernel
theorem dX6_tie_141 : decode cX6_tie 141 = .ok (.putfield 64, 3) := by decide +kernel
theorem dX6_tie_144 : decode cX6_tie 144 = .ok (.aload_n 0, 1) := by decide +kernel
theorem dX6_tie_145 : decode cX6_tie 145 = .ok (.getfield 64, 3) := by decide +kernel
theorem dX6_tie_148 : decode cX6_tie 148 = .ok (.iconst 1, 1) := by decide +kernel
theorem dX6_tie_149 : decode cX6_tie 149 = .ok (.isub, 1) := by decide +kernel
theorem dX6_tie_150 : decode cX6_tie 150 = .ok (.ireturn, 1) := by decide +kernel
set_option maxRecDepth 20000 in
theorem ggX6_ear_X6_isTie : GoodIn wsX6_ear wsX6_isTie := goodIn_r _ [6, 7, 8, 9, 5, 10, 11, 12, 13, 14, 15, 16, 17, 18, 19, 20, 21, 22, 23, 24, 25, 26, 27, 28, 29] (by decide +kernel) (by decide +kernel)
set_option maxRecDepth 20000 in
theorem gX6_ear_X6_isTie : GoodIn wsX6_ear (wsV RX6 74 RX6 yX6_isTie wsX6_isTie) := goodIn_app (goodIn_of _ (by decide +kernel)) ggX6_ear_X6_isTie
set_option maxRecDepth 20000 in
theorem ggX6_ear_X6_isIn : GoodIn wsX6_ear wsX6_isIn := goodIn_r _ [10] (by decide +kernel) (by decide +kernel)
set_option maxRecDepth 20000 in
theorem gX6_ear_X6_isIn : GoodIn wsX6_ear (va_wsS RX6 60 yX6_isIn wsX6_isIn) := goodIn_app (goodIn_of _ (by decide +kernel)) ggX6_ear_X6_isIn
theorem dX6_ear_0 : decode cX6_ear 0 = .ok (.aload_n 0, 1) := by decide +kernel
theorem dX6_ear_1 : decode cX6_ear 1 = .ok (.iload_n 1, 1) := by decide +kernel
theorem dX6_ear_2 : decode cX6_ear 2 = .ok (.invokevirtual 74, 3) := by decide +kernel
theorem dX6_ear_5 : decode cX6_ear 5 = .ok (.ifCond .ne 5, 3) := by decide +kernel
theorem dX6_ear_8 : decode cX6_ear 8 = .ok (.iconst (-1), 1) := by decide +kernel
theorem dX6_ear_9 : decode cX6_ear 9 = .ok (.ireturn, 1) := by decide +kernel
theorem dX6_ear_10 : decode cX6_ear 10 = .ok (.iload_n 2, 1) := by decide +kernel
theorem dX6_ear_11 : decode cX6_ear 11 = .ok (.iconst 0, 1) := by decide +kernel
theorem dX6_ear_12 : decode cX6_ear 12 = .ok (.bipush 9, 2) := by decide +kernel
theorem dX6_ear_14 : decode cX6_ear 14 = .ok (.invokestatic 60, 3) := by decide +kernel
theorem dX6_ear_17 : decode cX6_ear 17 = .ok (.ifCond .ne 6, 3) := by decide +kernel
theorem dX6_ear_20 : decode cX6_ear 20 = .ok (.bipush (-2), 2) := by decide +kernel
theorem dX6_ear_22 : decode cX6_ear 22 = .ok (.ireturn, 1) := by decide +kernel
theorem dX6_ear_23 : decode cX6_ear 23 = .ok (.aload_n 0, 1) := by decide +kernel
theorem dX6_ear_24 : decode cX6_ear 24 = .ok (.getfield 20, 3) := by decide +kernel
theorem dX6_ear_27 : decode cX6_ear 27 = .ok (.iconst 5, 1) := by decide +kernel
theorem dX6_ear_28 : decode cX6_ear 28 = .ok (.iload_n 1, 1) := by decide +kernel
theorem dX6_ear_29 : decode cX6_ear 29 = .ok (.imul, 1) := by decide +kernel
theorem dX6_ear_30 : decode cX6_ear 30 = .ok (.iconst 4, 1) := by decide +kernel
theorem dX6_ear_31 : decode cX6_ear 31 = .ok (.iadd, 1) := by decide +kernel
theorem dX6_ear_32 : decode cX6_ear 32 = .ok (.iaload, 1) := by decide +kernel
theorem dX6_ear_33 : decode cX6_ear 33 = .ok (.istore_n 3, 1) := by decide +kernel
theorem dX6_ear_34 : decode cX6_ear 34 = .ok (.aload_n 0, 1) := by decide +kernel
theorem dX6_ear_35 : decode cX6_ear 35 = .ok (.getfield 20, 3) := by decide +kernel
theorem dX6_ear_38 : decode cX6_ear 38 = .ok (.iconst 5, 1) := by decide +kernel
theorem dX6_ear_39 : decode cX6_ear 39 = .ok (.iload_n 1, 1) := by decide +kernel
theorem dX6_ear_40 : decode cX6_ear 40 = .ok (.imul, 1) := by decide +kernel
theorem dX6_ear_41 : decode cX6_ear 41 = .ok (.iconst 4, 1) := by decide +kernel
theorem dX6_ear_42 : decode cX6_ear 42 = .ok (.iadd, 1) := by decide +kernel
theorem dX6_ear_43 : decode cX6_ear 43 = .ok (.iload_n 2, 1) := by decide +kernel
theorem dX6_ear_44 : decode cX6_ear 44 = .ok (.iastore, 1) := by decide +kernel
theorem dX6_ear_45 : decode cX6_ear 45 = .ok (.iload_n 3, 1) := by decide +kernel
theorem dX6_ear_46 : decode cX6_ear 46 = .ok (.ireturn, 1) := by decide +kernel
set_option maxRecDepth 20000 in
theorem ggX6_untie_X6_isTie : GoodIn wsX6_untie wsX6_isTie := goodIn_r _ [7, 1, 8, 9, 6, 10, 11, 12, 13, 14, 15, 16, 17, 18, 19, 20, 21, 22, 23, 24, 25, 26, 27, 28, 29] (by decide +kernel) (by decide +kernel)
set_option maxRecDepth 20000 in
theorem gX6_untie_X6_isTie : GoodIn wsX6_untie (wsV RX6 74 RX6 yX6_isTie wsX6_isTie) := goodIn_app (goodIn_of _ (by decide +kernel)) ggX6_untie_X6_isTie
theorem dX6_untie_0 : decode cX6_untie 0 = .ok (.aload_n 0, 1) := by decide +kernel
theorem dX6_untie_1 : decode cX6_untie 1 = .ok (.iload_n 1, 1) := by decide +kernel
theorem dX6_untie_2 : decode cX6_untie 2 = .ok (.invokevirtual 74, 3) := by decide +kernel
theorem dX6_untie_5 : decode cX6_untie 5 = .ok (.ifCond .ne 5, 3) := by decide +kernel
theorem dX6_untie_8 : decode cX6_untie 8 = .ok (.iconst (-1), 1) := by decide +kernel
theorem dX6_untie_9 : decode cX6_untie 9 = .ok (.ireturn, 1) := by decide +kernel
theorem dX6_untie_10 : decode cX6_untie 10 = .ok (.iconst 5, 1) := by decide +kernel
theorem dX6_untie_11 : decode cX6_untie 11 = .ok (.iload_n 1, 1) := by decide +kernel
theorem dX6_untie_12 : decode cX6_untie 12 = .ok (.imul, 1) := by decide +kernel
theorem dX6_untie_13 : decode cX6_untie 13 = .ok (.istore_n 2, 1) := by decide +kernel
theorem dX6_untie_14 : decode cX6_untie 14 = .ok (.iload_n 2, 1) := by decide +kernel
theorem dX6_untie_15 : decode cX6_untie 15 = .ok (.iconst 5, 1) := by decide +kernel
theorem dX6_untie_16 : decode cX6_untie 16 = .ok (.aload_n 0, 1) := by decide +kernel
theorem dX6_untie_17 : decode cX6_untie 17 = .ok (.getfield 64, 3) := by decide +kernel
theorem dX6_untie_20 : decode cX6_untie 20 = .ok (.iconst 1, 1) := by decide +kernel
theorem dX6_untie_21 : decode cX6_untie 21 = .ok (.isub, 1) := by decide +kernel
theorem dX6_untie_22 : decode cX6_untie 22 = .ok (.imul, 1) := by decide +kernel
theorem dX6_untie_23 : decode cX6_untie 23 = .ok (.if_icmp .ge 23, 3) := by decide +kernel
theorem dX6_untie_26 : decode cX6_untie 26 = .ok (.aload_n 0, 1) := by decide +kernel
theorem dX6_untie_27 : decode cX6_untie 27 = .ok (.getfield 20, 3) := by decide +kernel
theorem dX6_untie_30 : decode cX6_untie 30 = .ok (.iload_n 2, 1) := by decide +kernel
theorem dX6_untie_31 : decode cX6_untie 31 = .ok (.aload_n 0, 1) := by decide +kernel
theorem dX6_untie_32 : decode cX6_untie 32 = .ok (.getfield 20, 3) := by decide +kernel
theorem dX6_untie_35 : decode cX6_untie 35 = .ok (.iload_n 2, 1) := by decide +kernel
theorem dX6_untie_36 : decode cX6_untie 36 = .ok (.iconst 5, 1) := by decide +kernel
theorem dX6_untie_37 : decode cX6_untie 37 = .ok (.iadd, 1) := by decide +kernel
theorem dX6_untie_38 : decode cX6_untie 38 = .ok (.iaload, 1) := by decide +kernel
theorem dX6_untie_39 : decode cX6_untie 39 = .ok (.iastore, 1) := by decide +kernel
theorem dX6_untie_40 : decode cX6_untie 40 = .ok (.iinc 2 1, 3) := by decide +kernel
theorem dX6_untie_43 : decode cX6_untie 43 = .ok (.goto (-29), 3) := by decide +kernel
theorem dX6_untie_46 : decode cX6_untie 46 = .ok (.aload_n 0, 1) := by decide +kernel
theorem dX6_untie_47 : decode cX6_untie 47 = .ok (.dup, 1) := by decide +kernel
theorem dX6_untie_48 : decode cX6_untie 48 = .ok (.getfield 64, 3) := by decide +kernel
theorem dX6_untie_51 : decode cX6_untie 51 = .ok (.iconst 1, 1) := by decide +kernel
theorem dX6_untie_52 : decode cX6_untie 52 = .ok (.isub, 1) := by decide +kernel
theorem dX6_untie_53 : decode cX6_untie 53 = .ok (.putfield 64, 3) := by decide +kernel
theorem dX6_untie_56 : decode cX6_untie 56 = .ok (.aload_n 0, 1) := by decide +kernel
theorem dX6_untie_57 : decode cX6_untie 57 = .ok (.getfield 64, 3) := by decide +kernel
theorem dX6_untie_60 : decode cX6_untie 60 = .ok (.ireturn, 1) := by decide +kernel
theorem dX6_clear_0 : decode cX6_clear 0 = .ok (.aload_n 0, 1) := by decide +kernel
theorem dX6_clear_1 : decode cX6_clear 1 = .ok (.getfield 64, 3) := by decide +kernel
theorem dX6_clear_4 : decode cX6_clear 4 = .ok (.istore_n 1, 1) := by decide +kernel
theorem dX6_clear_5 : decode cX6_clear 5 = .ok (.aload_n 0, 1) := by decide +kernel
theorem dX6_clear_6 : decode cX6_clear 6 = .ok (.iconst 0, 1) := by decide +kernel
theorem dX6_clear_7 : decode cX6_clear 7 = .ok (.putfield 64, 3) := by decide +kernel
theorem dX6_clear_10 : decode cX6_clear 10 = .ok (.aload_n 0, 1) := by decide +kernel
theorem dX6_clear_11 : decode cX6_clear 11 = .ok (.iconst 0, 1) := by decide +kernel
theorem dX6_clear_12 : decode cX6_clear 12 = .ok (.putfield 57, 3) := by decide +kernel
theorem dX6_clear_15 : decode cX6_clear 15 = .ok (.iload_n 1, 1) := by decide +kernel
theorem dX6_clear_16 : decode cX6_clear 16 = .ok (.ireturn, 1) := by decide +kernel
set_option maxRecDepth 20000 in
theorem ggX6_ticks_X6_isValue : GoodIn wsX6_ticks wsX6_isValue := goodIn_r _ [4, 5, 6, 3, 7] (by decide +kernel) (by decide +kernel)
set_option maxRecDepth 20000 in
theorem gX6_ticks_X6_isValue : GoodIn wsX6_ticks (va_wsS RX6 71 yX6_isValue wsX6_isValue) := goodIn_app (goodIn_of _ (by decide +kernel)) ggX6_ticks_X6_isValue
set_option maxRecDepth 20000 in
theorem ggX6_ticks_X6_ticksOf : GoodIn wsX6_ticks wsX6_ticksOf := goodIn_r _ [10] (by decide +kernel) (by decide +kernel)
set_option maxRecDepth 20000 in
theorem gX6_ticks_X6_ticksOf : GoodIn wsX6_ticks (va_wsS RX6 77 yX6_ticksOf wsX6_ticksOf) := goodIn_app (goodIn_of _ (by decide +kernel)) ggX6_ticks_X6_ticksOf
theorem dX6_ticks_0 : decode cX6_ticks 0 = .ok (.iload_n 1, 1) := by decide +kernel
theorem dX6_ticks_1 : decode cX6_ticks 1 = .ok (.invokestatic 71, 3) := by decide +kernel
theorem dX6_ticks_4 : decode cX6_ticks 4 = .ok (.ifCond .eq 10, 3) := by decide +kernel
theorem dX6_ticks_7 : decode cX6_ticks 7 = .ok (.iload_n 1, 1) := by decide +kernel
theorem dX6_ticks_8 : decode cX6_ticks 8 = .ok (.invokestatic 77, 3) := by decide +kernel
theorem dX6_ticks_11 : decode cX6_ticks 11 = .ok (.goto 4, 3) := by decide +kernel
theorem dX6_ticks_14 : decode cX6_ticks 14 = .ok (.iconst (-1), 1) := by decide +kernel
theorem dX6_ticks_15 : decode cX6_ticks 15 = .ok (.ireturn, 1) := by decide +kernel
set_option maxRecDepth 20000 in
theorem ggX6_comes_X6_common : GoodIn wsX6_comes wsX6_common := goodIn_r _ [10] (by decide +kernel) (by decide +kernel)
set_option maxRecDepth 20000 in
theorem gX6_comes_X6_common : GoodIn wsX6_comes (va_wsS RX6 81 yX6_common wsX6_common) := goodIn_app (goodIn_of _ (by decide +kernel)) ggX6_comes_X6_common
theorem dX6_comes_0 : decode cX6_comes 0 = .ok (.aload_n 0, 1) := by decide +kernel
theorem dX6_comes_1 : decode cX6_comes 1 = .ok (.getfield 26, 3) := by decide +kernel
theorem dX6_comes_4 : decode cX6_comes 4 = .ok (.iload_n 1, 1) := by decide +kernel
theorem dX6_comes_5 : decode cX6_comes 5 = .ok (.laload, 1) := by decide +kernel
theorem dX6_comes_6 : decode cX6_comes 6 = .ok (.lload 4, 2) := by decide +kernel
theorem dX6_comes_8 : decode cX6_comes 8 = .ok (.lmul, 1) := by decide +kernel
theorem dX6_comes_9 : decode cX6_comes 9 = .ok (.lstore 8, 2) := by decide +kernel
theorem dX6_comes_11 : decode cX6_comes 11 = .ok (.aload_n 0, 1) := by decide +kernel
theorem dX6_comes_12 : decode cX6_comes 12 = .ok (.getfield 30, 3) := by decide +kernel
theorem dX6_comes_15 : decode cX6_comes 15 = .ok (.iload_n 1, 1) := by decide +kernel
theorem dX6_comes_16 : decode cX6_comes 16 = .ok (.laload, 1) := by decide +kernel
theorem dX6_comes_17 : decode cX6_comes 17 = .ok (.lload 6, 2) := by decide +kernel
theorem dX6_comes_19 : decode cX6_comes 19 = .ok (.lmul, 1) := by decide +kernel
theorem dX6_comes_20 : decode cX6_comes 20 = .ok (.lstore 10, 2) := by decide +kernel
theorem dX6_comes_22 : decode cX6_comes 22 = .ok (.lload 8, 2) := by decide +kernel
theorem dX6_comes_24 : decode cX6_comes 24 = .ok (.lload 10, 2) := by decide +kernel
theorem dX6_comes_26 : decode cX6_comes 26 = .ok (.invokestatic 81, 3) := by decide +kernel
theorem dX6_comes_29 : decode cX6_comes 29 = .ok (.lstore 12, 2) := by decide +kernel
theorem dX6_comes_31 : decode cX6_comes 31 = .ok (.aload_n 0, 1) := by decide +kernel
theorem dX6_comes_32 : decode cX6_comes 32 = .ok (.getfield 26, 3) := by decide +kernel
theorem dX6_comes_35 : decode cX6_comes 35 = .ok (.iload_n 2, 1) := by decide +kernel
theorem dX6_comes_36 : decode cX6_comes 36 = .ok (.lload 8, 2) := by decide +kernel
theorem dX6_comes_38 : decode cX6_comes 38 = .ok (.lload 12, 2) := by decide +kernel
theorem dX6_comes_40 : decode cX6_comes 40 = .ok (.ldiv, 1) := by decide +kernel
theorem dX6_comes_41 : decode cX6_comes 41 = .ok (.lastore, 1) := by decide +kernel
theorem dX6_comes_42 : decode cX6_comes 42 = .ok (.aload_n 0, 1) := by decide +kernel
theorem dX6_comes_43 : decode cX6_comes 43 = .ok (.getfield 30, 3) := by decide +kernel
theorem dX6_comes_46 : decode cX6_comes 46 = .ok (.iload_n 2, 1) := by decide +kernel
theorem dX6_comes_47 : decode cX6_comes 47 = .ok (.lload 10, 2) := by decide +kernel
theorem dX6_comes_49 : decode cX6_comes 49 = .ok (.lload 12, 2) := by decide +kernel
theorem dX6_comes_51 : decode cX6_comes 51 = .ok (.ldiv, 1) := by decide +kernel
theorem dX6_comes_52 : decode cX6_comes 52 = .ok (.lastore, 1) := by decide +kernel
theorem dX6_comes_53 : decode cX6_comes 53 = .ok (.aload_n 0, 1) := by decide +kernel
theorem dX6_comes_54 : decode cX6_comes 54 = .ok (.getfield 33, 3) := by decide +kernel
theorem dX6_comes_57 : decode cX6_comes 57 = .ok (.iload_n 2, 1) := by decide +kernel
theorem dX6_comes_58 : decode cX6_comes 58 = .ok (.aload_n 0, 1) := by decide +kernel
theorem dX6_comes_59 : decode cX6_comes 59 = .ok (.getfield 33, 3) := by decide +kernel
theorem dX6_comes_62 : decode cX6_comes 62 = .ok (.iload_n 1, 1) := by decide +kernel
theorem dX6_comes_63 : decode cX6_comes 63 = .ok (.iaload, 1) := by decide +kernel
theorem dX6_comes_64 : decode cX6_comes 64 = .ok (.iconst 1, 1) := by decide +kernel
theorem dX6_comes_65 : decode cX6_comes 65 = .ok (.iload_n 3, 1) := by decide +kernel
theorem dX6_comes_66 : decode cX6_comes 66 = .ok (.ishl, 1) := by decide +kernel
theorem dX6_comes_67 : decode cX6_comes 67 = .ok (.ior, 1) := by decide +kernel
theorem dX6_comes_68 : decode cX6_comes 68 = .ok (.iastore, 1) := by decide +kernel
theorem dX6_comes_69 : decode cX6_comes 69 = .ok (.aload_n 0, 1) := by decide +kernel
theorem dX6_comes_70 : decode cX6_comes 70 = .ok (.getfield 36, 3) := by decide +kernel
theorem dX6_comes_73 : decode cX6_comes 73 = .ok (.aload_n 0, 1) := by decide +kernel
theorem dX6_comes_74 : decode cX6_comes 74 = .ok (.getfield 85, 3) := by decide +kernel
theorem dX6_comes_77 : decode cX6_comes 77 = .ok (.iload_n 2, 1) := by decide +kernel
theorem dX6_comes_78 : decode cX6_comes 78 = .ok (.iastore, 1) := by decide +kernel
theorem dX6_comes_79 : decode cX6_comes 79 = .ok (.aload_n 0, 1) := by decide +kernel
theorem dX6_comes_80 : decode cX6_comes 80 = .ok (.getfield 39, 3) := by decide +kernel
theorem dX6_comes_83 : decode cX6_comes 83 = .ok (.aload_n 0, 1) := by decide +kernel
theorem dX6_comes_84 : decode cX6_comes 84 = .ok (.getfield 85, 3) := by decide +kernel
theorem dX6_comes_87 : decode cX6_comes 87 = .ok (.iload_n 3, 1) := by decide +kernel
theorem dX6_comes_88 : decode cX6_comes 88 = .ok (.iastore, 1) := by decide +kernel
theorem dX6_comes_89 : decode cX6_comes 89 = .ok (.aload_n 0, 1) := by decide +kernel
theorem dX6_comes_90 : decode cX6_comes 90 = .ok (.dup, 1) := by decide +kernel
theorem dX6_comes_91 : decode cX6_comes 91 = .ok (.getfield 85, 3) := by decide +kernel
theorem dX6_comes_94 : decode cX6_comes 94 = .ok (.iconst 1, 1) := by decide +kernel
theorem dX6_comes_95 : decode cX6_comes 95 = .ok (.iadd, 1) := by decide +kernel
theorem dX6_comes_96 : decode cX6_comes 96 = .ok (.putfield 85, 3) := by decide +kernel
theorem dX6_comes_99 : decode cX6_comes 99 = .ok (.return_, 1) := by decide +kernel
set_option maxRecDepth 20000 in
theorem ggX6_spread_X6_ticksOf : GoodIn wsX6_spread wsX6_ticksOf := goodIn_r _ [12] (by decide +kernel) (by decide +kernel)
set_option maxRecDepth 20000 in
theorem gX6_spread_X6_ticksOf : GoodIn wsX6_spread (va_wsS RX6 77 yX6_ticksOf wsX6_ticksOf) := goodIn_app (goodIn_of _ (by decide +kernel)) ggX6_spread_X6_ticksOf
set_option maxRecDepth 20000 in
theorem ggX6_spread_X6_comes : GoodIn wsX6_spread wsX6_comes := goodIn_r _ [16, 1, 2, 3, 4, 6, 5, 17, 18, 11, 19, 20, 21, 22, 23, 24, 25, 26, 27, 28, 29, 30, 31, 32, 33, 34, 35, 36, 37, 38] (by decide +kernel) (by decide +kernel)
set_option maxRecDepth 20000 in
theorem gX6_spread_X6_comes : GoodIn wsX6_spread (wsV RX6 88 RX6 yX6_comes wsX6_comes) := goodIn_app (goodIn_of _ (by decide +kernel)) ggX6_spread_X6_comes
theorem dX6_spread_0 : decode cX6_spread 0 = .ok (.iconst 0, 1) := by decide +kernel
theorem dX6_spread_1 : decode cX6_spread 1 = .ok (.istore_n 3, 1) := by decide +kernel
theorem dX6_spread_2 : decode cX6_spread 2 = .ok (.iload_n 3, 1) := by decide +kernel
theorem dX6_spread_3 : decode cX6_spread 3 = .ok (.bipush 7, 2) := by decide +kernel
theorem dX6_spread_5 : decode cX6_spread 5 = .ok (.if_icmp .ge 16, 3) := by decide +kernel
theorem dX6_spread_8 : decode cX6_spread 8 = .ok (.aload_n 0, 1) := by decide +kernel
theorem dX6_spread_9 : decode cX6_spread 9 = .ok (.getfield 26, 3) := by decide +kernel
theorem dX6_spread_12 : decode cX6_spread 12 = .ok (.iload_n 3, 1) := by decide +kernel
theorem dX6_spread_13 : decode cX6_spread 13 = .ok (.lconst 0, 1) := by decide +kernel
theorem dX6_spread_14 : decode cX6_spread 14 = .ok (.lastore, 1) := by decide +kernel
theorem dX6_spread_15 : decode cX6_spread 15 = .ok (.iinc 3 1, 3) := by decide +kernel
theorem dX6_spread_18 : decode cX6_spread 18 = .ok (.goto (-16), 3) := by decide +kernel
theorem dX6_spread_21 : decode cX6_spread 21 = .ok (.aload_n 0, 1) := by decide +kernel
theorem dX6_spread_22 : decode cX6_spread 22 = .ok (.getfield 26, 3) := by decide +kernel
theorem dX6_spread_25 : decode cX6_spread 25 = .ok (.iload_n 1, 1) := by decide +kernel
theorem dX6_spread_26 : decode cX6_spread 26 = .ok (.lconst 1, 1) := by decide +kernel
theorem dX6_spread_27 : decode cX6_spread 27 = .ok (.lastore, 1) := by decide +kernel
theorem dX6_spread_28 : decode cX6_spread 28 = .ok (.aload_n 0, 1) := by decide +kernel
theorem dX6_spread_29 : decode cX6_spread 29 = .ok (.getfield 30, 3) := by decide +kernel
theorem dX6_spread_32 : decode cX6_spread 32 = .ok (.iload_n 1, 1) := by decide +kernel
theorem dX6_spread_33 : decode cX6_spread 33 = .ok (.lconst 1, 1) := by decide +kernel
theorem dX6_spread_34 : decode cX6_spread 34 = .ok (.lastore, 1) := by decide +kernel
theorem dX6_spread_35 : decode cX6_spread 35 = .ok (.aload_n 0, 1) := by decide +kernel
theorem dX6_spread_36 : decode cX6_spread 36 = .ok (.getfield 33, 3) := by decide +kernel
theorem dX6_spread_39 : decode cX6_spread 39 = .ok (.iload_n 1, 1) := by decide +kernel
theorem dX6_spread_40 : decode cX6_spread 40 = .ok (.iconst 0, 1) := by decide +kernel
theorem dX6_spread_41 : decode cX6_spread 41 = .ok (.iastore, 1) := by decide +kernel
theorem dX6_spread_42 : decode cX6_spread 42 = .ok (.aload_n 0, 1) := by decide +kernel
theorem dX6_spread_43 : decode cX6_spread 43 = .ok (.getfield 36, 3) := by decide +kernel
theorem dX6_spread_46 : decode cX6_spread 46 = .ok (.iconst 0, 1) := by decide +kernel
theorem dX6_spread_47 : decode cX6_spread 47 = .ok (.iload_n 1, 1) := by decide +kernel
theorem dX6_spread_48 : decode cX6_spread 48 = .ok (.iastore, 1) := by decide +kernel
theorem dX6_spread_49 : decode cX6_spread 49 = .ok (.aload_n 0, 1) := by decide +kernel
theorem dX6_spread_50 : decode cX6_spread 50 = .ok (.getfield 39, 3) := by decide +kernel
theorem dX6_spread_53 : decode cX6_spread 53 = .ok (.iconst 0, 1) := by decide +kernel
theorem dX6_spread_54 : decode cX6_spread 54 = .ok (.bipush (-9), 2) := by decide +kernel
theorem dX6_spread_56 : decode cX6_spread 56 = .ok (.iastore, 1) := by decide +kernel
theorem dX6_spread_57 : decode cX6_spread 57 = .ok (.aload_n 0, 1) := by decide +kernel
theorem dX6_spread_58 : decode cX6_spread 58 = .ok (.iconst 1, 1) := by decide +kernel
theorem dX6_spread_59 : decode cX6_spread 59 = .ok (.putfield 85, 3) := by decide +kernel
theorem dX6_spread_62 : decode cX6_spread 62 = .ok (.iconst 0, 1) := by decide +kernel
theorem dX6_spread_63 : decode cX6_spread 63 = .ok (.istore_n 3, 1) := by decide +kernel
theorem dX6_spread_64 : decode cX6_spread 64 = .ok (.iload_n 3, 1) := by decide +kernel
theorem dX6_spread_65 : decode cX6_spread 65 = .ok (.aload_n 0, 1) := by decide +kernel
theorem dX6_spread_66 : decode cX6_spread 66 = .ok (.getfield 85, 3) := by decide +kernel
theorem dX6_spread_69 : decode cX6_spread 69 = .ok (.if_icmp .ge 183, 3) := by decide +kernel
theorem dX6_spread_72 : decode cX6_spread 72 = .ok (.aload_n 0, 1) := by decide +kernel
theorem dX6_spread_73 : decode cX6_spread 73 = .ok (.getfield 85, 3) := by decide +kernel
theorem dX6_spread_76 : decode cX6_spread 76 = .ok (.istore_n 3, 1) := by decide +kernel
theorem dX6_spread_77 : decode cX6_spread 77 = .ok (.iconst 0, 1) := by decide +kernel
theorem dX6_spread_78 : decode cX6_spread 78 = .ok (.istore 4, 2) := by decide +kernel
theorem dX6_spread_80 : decode cX6_spread 80 = .ok (.iload 4, 2) := by decide +kernel
theorem dX6_spread_82 : decode cX6_spread 82 = .ok (.iload_n 2, 1) := by decide +kernel
theorem dX6_spread_83 : decode cX6_spread 83 = .ok (.if_icmp .ge 166, 3) := by decide +kernel
theorem dX6_spread_86 : decode cX6_spread 86 = .ok (.aload_n 0, 1) := by decide +kernel
theorem dX6_spread_87 : decode cX6_spread 87 = .ok (.getfield 20, 3) := by decide +kernel
theorem dX6_spread_90 : decode cX6_spread 90 = .ok (.iconst 5, 1) := by decide +kernel
theorem dX6_spread_91 : decode cX6_spread 91 = .ok (.iload 4, 2) := by decide +kernel
theorem dX6_spread_93 : decode cX6_spread 93 = .ok (.imul, 1) := by decide +kernel
theorem dX6_spread_94 : decode cX6_spread 94 = .ok (.iaload, 1) := by decide +kernel
theorem dX6_spread_95 : decode cX6_spread 95 = .ok (.istore 5, 2) := by decide +kernel
theorem dX6_spread_97 : decode cX6_spread 97 = .ok (.aload_n 0, 1) := by decide +kernel
theorem dX6_spread_98 : decode cX6_spread 98 = .ok (.getfield 20, 3) := by decide +kernel
theorem dX6_spread_101 : decode cX6_spread 101 = .ok (.iconst 5, 1) := by decide +kernel
theorem dX6_spread_102 : decode cX6_spread 102 = .ok (.iload 4, 2) := by decide +kernel
theorem dX6_spread_104 : decode cX6_spread 104 = .ok (.imul, 1) := by decide +kernel
theorem dX6_spread_105 : decode cX6_spread 105 = .ok (.iconst 2, 1) := by decide +kernel
theorem dX6_spread_106 : decode cX6_spread 106 = .ok (.iadd, 1) := by decide +kernel
theorem dX6_spread_107 : decode cX6_spread 107 = .ok (.iaload, 1) := by decide +kernel
theorem dX6_spread_108 : decode cX6_spread 108 = .ok (.istore 6, 2) := by decide +kernel
theorem dX6_spread_110 : decode cX6_spread 110 = .ok (.aload_n 0, 1) := by decide +kernel
theorem dX6_spread_111 : decode cX6_spread 111 = .ok (.getfield 20, 3) := by decide +kernel
theorem dX6_spread_114 : decode cX6_spread 114 = .ok (.iconst 5, 1) := by decide +kernel
theorem dX6_spread_115 : decode cX6_spread 115 = .ok (.iload 4, 2) := by decide +kernel
theorem dX6_spread_117 : decode cX6_spread 117 = .ok (.imul, 1) := by decide +kernel
theorem dX6_spread_118 : decode cX6_spread 118 = .ok (.iconst 1, 1) := by decide +kernel
theorem dX6_spread_119 : decode cX6_spread 119 = .ok (.iadd, 1) := by decide +kernel
theorem dX6_spread_120 : decode cX6_spread 120 = .ok (.iaload, 1) := by decide +kernel
theorem dX6_spread_121 : decode cX6_spread 121 = .ok (.invokestatic 77, 3) := by decide +kernel
theorem dX6_spread_124 : decode cX6_spread 124 = .ok (.i2l, 1) := by decide +kernel
theorem dX6_spread_125 : decode cX6_spread 125 = .ok (.lstore 7, 2) := by decide +kernel
theorem dX6_spread_127 : decode cX6_spread 127 = .ok (.aload_n 0, 1) := by decide +kernel
theorem dX6_spread_128 : decode cX6_spread 128 = .ok (.getfield 20, 3) := by decide +kernel
theorem dX6_spread_131 : decode cX6_spread 131 = .ok (.iconst 5, 1) := by decide +kernel
theorem dX6_spread_132 : decode cX6_spread 132 = .ok (.iload 4, 2) := by decide +kernel
theorem dX6_spread_134 : decode cX6_spread 134 = .ok (.imul, 1) := by decide +kernel
theorem dX6_spread_135 : decode cX6_spread 135 = .ok (.iconst 3, 1) := by decide +kernel
theorem dX6_spread_136 : decode cX6_spread 136 = .ok (.iadd, 1) := by decide +kernel
theorem dX6_spread_137 : decode cX6_spread 137 = .ok (.iaload, 1) := by decide +kernel
theorem dX6_spread_138 : decode cX6_spread 138 = .ok (.invokestatic 77, 3) := by decide +kernel
theorem dX6_spread_141 : decode cX6_spread 141 = .ok (.i2l, 1) := by decide +kernel
theorem dX6_spread_142 : decode cX6_spread 142 = .ok (.lstore 9, 2) := by decide +kernel
theorem dX6_spread_144 : decode cX6_spread 144 = .ok (.aload_n 0, 1) := by decide +kernel
theorem dX6_spread_145 : decode cX6_spread 145 = .ok (.getfield 23, 3) := by decide +kernel
theorem dX6_spread_148 : decode cX6_spread 148 = .ok (.iload 4, 2) := by decide +kernel
theorem dX6_spread_150 : decode cX6_spread 150 = .ok (.iaload, 1) := by decide +kernel
theorem dX6_spread_151 : decode cX6_spread 151 = .ok (.ifCond .ne 44, 3) := by decide +kernel
theorem dX6_spread_154 : decode cX6_spread 154 = .ok (.aload_n 0, 1) := by decide +kernel
theorem dX6_spread_155 : decode cX6_spread 155 = .ok (.getfield 26, 3) := by decide +kernel
theorem dX6_spread_158 : decode cX6_spread 158 = .ok (.iload 5, 2) := by decide +kernel
theorem dX6_spread_160 : decode cX6_spread 160 = .ok (.laload, 1) := by decide +kernel
theorem dX6_spread_161 : decode cX6_spread 161 = .ok (.lconst 0, 1) := by decide +kernel
theorem dX6_spread_162 : decode cX6_spread 162 = .ok (.lcmp, 1) := by decide +kernel
theorem dX6_spread_163 : decode cX6_spread 163 = .ok (.ifCond .le 32, 3) := by decide +kernel
theorem dX6_spread_166 : decode cX6_spread 166 = .ok (.aload_n 0, 1) := by decide +kernel
theorem dX6_spread_167 : decode cX6_spread 167 = .ok (.getfield 26, 3) := by decide +kernel
theorem dX6_spread_170 : decode cX6_spread 170 = .ok (.iload 6, 2) := by decide +kernel
theorem dX6_spread_172 : decode cX6_spread 172 = .ok (.laload, 1) := by decide +kernel
theorem dX6_spread_173 : decode cX6_spread 173 = .ok (.lconst 0, 1) := by decide +kernel
theorem dX6_spread_174 : decode cX6_spread 174 = .ok (.lcmp, 1) := by decide +kernel
theorem dX6_spread_175 : decode cX6_spread 175 = .ok (.ifCond .ne 20, 3) := by decide +kernel
theorem dX6_spread_178 : decode cX6_spread 178 = .ok (.aload_n 0, 1) := by decide +kernel
theorem dX6_spread_179 : decode cX6_spread 179 = .ok (.iload 5, 2) := by decide +kernel
theorem dX6_spread_181 : decode cX6_spread 181 = .ok (.iload 6, 2) := by decide +kernel
theorem dX6_spread_183 : decode cX6_spread 183 = .ok (.iload 4, 2) := by decide +kernel
theorem dX6_spread_185 : decode cX6_spread 185 = .ok (.lload 9, 2) := by decide +kernel
theorem dX6_spread_187 : decode cX6_spread 187 = .ok (.lload 7, 2) := by decide +kernel
theorem dX6_spread_189 : decode cX6_spread 189 = .ok (.invokevirtual 88, 3) := by decide +kernel
theorem dX6_spread_192 : decode cX6_spread 192 = .ok (.goto 51, 3) := by decide +kernel
theorem dX6_spread_195 : decode cX6_spread 195 = .ok (.aload_n 0, 1) := by decide +kernel
theorem dX6_spread_196 : decode cX6_spread 196 = .ok (.getfield 23, 3) := by decide +kernel
theorem dX6_spread_199 : decode cX6_spread 199 = .ok (.iload 4, 2) := by decide +kernel
theorem dX6_spread_201 : decode cX6_spread 201 = .ok (.iaload, 1) := by decide +kernel
theorem dX6_spread_202 : decode cX6_spread 202 = .ok (.ifCond .ne 41, 3) := by decide +kernel
theorem dX6_spread_205 : decode cX6_spread 205 = .ok (.aload_n 0, 1) := by decide +kernel
theorem dX6_spread_206 : decode cX6_spread 206 = .ok (.getfield 26, 3) := by decide +kernel
theorem dX6_spread_209 : decode cX6_spread 209 = .ok (.iload 6, 2) := by decide +kernel
theorem dX6_spread_211 : decode cX6_spread 211 = .ok (.laload, 1) := by decide +kernel
theorem dX6_spread_212 : decode cX6_spread 212 = .ok (.lconst 0, 1) := by decide +kernel
theorem dX6_spread_213 : decode cX6_spread 213 = .ok (.lcmp, 1) := by decide +kernel
theorem dX6_spread_214 : decode cX6_spread 214 = .ok (.ifCond .le 29, 3) := by decide +kernel
theorem dX6_spread_217 : decode cX6_spread 217 = .ok (.aload_n 0, 1) := by decide +kernel
theorem dX6_spread_218 : decode cX6_spread 218 = .ok (.getfield 26, 3) := by decide +kernel
theorem dX6_spread_221 : decode cX6_spread 221 = .ok (.iload 5, 2) := by decide +kernel
theorem dX6_spread_223 : decode cX6_spread 223 = .ok (.laload, 1) := by decide +kernel
theorem dX6_spread_224 : decode cX6_spread 224 = .ok (.lconst 0, 1) := by decide +kernel
theorem dX6_spread_225 : decode cX6_spread 225 = .ok (.lcmp, 1) := by decide +kernel
theorem dX6_spread_226 : decode cX6_spread 226 = .ok (.ifCond .ne 17, 3) := by decide +kernel
theorem dX6_spread_229 : decode cX6_spread 229 = .ok (.aload_n 0, 1) := by decide +kernel
theorem dX6_spread_230 : decode cX6_spread 230 = .ok (.iload 6, 2) := by decide +kernel
theorem dX6_spread_232 : decode cX6_spread 232 = .ok (.iload 5, 2) := by decide +kernel
theorem dX6_spread_234 : decode cX6_spread 234 = .ok (.iload 4, 2) := by decide +kernel
theorem dX6_spread_236 : decode cX6_spread 236 = .ok (.lload 7, 2) := by decide +kernel
theorem dX6_spread_238 : decode cX6_spread 238 = .ok (.lload 9, 2) := by decide +kernel
theorem dX6_spread_240 : decode cX6_spread 240 = .ok (.invokevirtual 88, 3) := by decide +kernel
theorem dX6_spread_243 : decode cX6_spread 243 = .ok (.iinc 4 1, 3) := by decide +kernel
theorem dX6_spread_246 : decode cX6_spread 246 = .ok (.goto (-166), 3) := by decide +kernel
theorem dX6_spread_249 : decode cX6_spread 249 = .ok (.goto (-185), 3) := by decide +kernel
theorem dX6_spread_252 : decode cX6_spread 252 = .ok (.return_, 1) := by decide +kernel
set_option maxRecDepth 20000 in
theorem ggX6_findSorts_X6_ticksOf : GoodIn wsX6_findSorts wsX6_ticksOf := goodIn_r _ [9] (by decide +kernel) (by decide +kernel)
set_option maxRecDepth 20000 in
theorem gX6_findSorts_X6_ticksOf : GoodIn wsX6_findSorts (va_wsS RX6 77 yX6_ticksOf wsX6_ticksOf) := goodIn_app (goodIn_of _ (by decide +kernel)) ggX6_findSorts_X6_ticksOf
set_option maxRecDepth 20000 in
theorem ggX6_findSorts_X6_spread : GoodIn wsX6_findSorts wsX6_spread := goodIn_r _ [13, 4, 5, 14, 15, 16, 17, 2, 3, 6, 7, 8, 9, 18, 19, 20, 21, 22, 23, 24, 25, 26, 27, 28, 29, 30, 31, 32, 33, 34, 35, 36, 37, 38, 39, 40, 41, 42, 43] (by decide +kernel) (by decide +kernel)
set_option maxRecDepth 20000 in
theorem gX6_findSorts_X6_spread : GoodIn wsX6_findSorts (wsV RX6 92 RX6 yX6_spread wsX6_spread) := goodIn_app (goodIn_of _ (by decide +kernel)) ggX6_findSorts_X6_spread
theorem dX6_findSorts_0 : decode cX6_findSorts 0 = .ok (.iconst 0, 1) := by decide +kernel
theorem dX6_findSorts_1 : decode cX6_findSorts 1 = .ok (.istore_n 1, 1) := by decide +kernel
theorem dX6_findSorts_2 : decode cX6_findSorts 2 = .ok (.iload_n 1, 1) := by decide +kernel
theorem dX6_findSorts_3 : decode cX6_findSorts 3 = .ok (.aload_n 0, 1) := by decide +kernel
theorem dX6_findSorts_4 : decode cX6_findSorts 4 = .ok (.getfield 64, 3) := by decide +kernel
theorem dX6_findSorts_7 : decode cX6_findSorts 7 = .ok (.if_icmp .ge 111, 3) := by decide +kernel
theorem dX6_findSorts_10 : decode cX6_findSorts 10 = .ok (.aload_n 0, 1) := by decide +kernel
theorem dX6_findSorts_11 : decode cX6_findSorts 11 = .ok (.getfield 20, 3) := by decide +kernel
theorem dX6_findSorts_14 : decode cX6_findSorts 14 = .ok (.iconst 5, 1) := by decide +kernel
theorem dX6_findSorts_15 : decode cX6_findSorts 15 = .ok (.iload_n 1, 1) := by decide +kernel
theorem dX6_findSorts_16 : decode cX6_findSorts 16 = .ok (.imul, 1) := by decide +kernel
theorem dX6_findSorts_17 : decode cX6_findSorts 17 = .ok (.iconst 2, 1) := by decide +kernel
theorem dX6_findSorts_18 : decode cX6_findSorts 18 = .ok (.iadd, 1) := by decide +kernel
theorem dX6_findSorts_19 : decode cX6_findSorts 19 = .ok (.iaload, 1) := by decide +kernel
theorem dX6_findSorts_20 : decode cX6_findSorts 20 = .ok (.istore_n 2, 1) := by decide +kernel
theorem dX6_findSorts_21 : decode cX6_findSorts 21 = .ok (.aload_n 0, 1) := by decide +kernel
theorem dX6_findSorts_22 : decode cX6_findSorts 22 = .ok (.getfield 20, 3) := by decide +kernel
theorem dX6_findSorts_25 : decode cX6_findSorts 25 = .ok (.iconst 5, 1) := by decide +kernel
theorem dX6_findSorts_26 : decode cX6_findSorts 26 = .ok (.iload_n 1, 1) := by decide +kernel
theorem dX6_findSorts_27 : decode cX6_findSorts 27 = .ok (.imul, 1) := by decide +kernel
theorem dX6_findSorts_28 : decode cX6_findSorts 28 = .ok (.iconst 1, 1) := by decide +kernel
theorem dX6_findSorts_29 : decode cX6_findSorts 29 = .ok (.iadd, 1) := by decide +kernel
theorem dX6_findSorts_30 : decode cX6_findSorts 30 = .ok (.iaload, 1) := by decide +kernel
theorem dX6_findSorts_31 : decode cX6_findSorts 31 = .ok (.invokestatic 77, 3) := by decide +kernel
theorem dX6_findSorts_34 : decode cX6_findSorts 34 = .ok (.i2l, 1) := by decide +kernel
theorem dX6_findSorts_35 : decode cX6_findSorts 35 = .ok (.lstore_n 3, 1) := by decide +kernel
theorem dX6_findSorts_36 : decode cX6_findSorts 36 = .ok (.aload_n 0, 1) := by decide +kernel
theorem dX6_findSorts_37 : decode cX6_findSorts 37 = .ok (.getfield 20, 3) := by decide +kernel
theorem dX6_findSorts_40 : decode cX6_findSorts 40 = .ok (.iconst 5, 1) := by decide +kernel
theorem dX6_findSorts_41 : decode cX6_findSorts 41 = .ok (.iload_n 1, 1) := by decide +kernel
theorem dX6_findSorts_42 : decode cX6_findSorts 42 = .ok (.imul, 1) := by decide +kernel
theorem dX6_findSorts_43 : decode cX6_findSorts 43 = .ok (.iconst 3, 1) := by decide +kernel
theorem dX6_findSorts_44 : decode cX6_findSorts 44 = .ok (.iadd, 1) := by decide +kernel
theorem dX6_findSorts_45 : decode cX6_findSorts 45 = .ok (.iaload, 1) := by decide +kernel
theorem dX6_findSorts_46 : decode cX6_findSorts 46 = .ok (.invokestatic 77, 3) := by decide +kernel
theorem dX6_findSorts_49 : decode cX6_findSorts 49 = .ok (.i2l, 1) := by decide +kernel
theorem dX6_findSorts_50 : decode cX6_findSorts 50 = .ok (.lstore 5, 2) := by decide +kernel
theorem dX6_findSorts_52 : decode cX6_findSorts 52 = .ok (.aload_n 0, 1) := by decide +kernel
theorem dX6_findSorts_53 : decode cX6_findSorts 53 = .ok (.aload_n 0, 1) := by decide +kernel
theorem dX6_findSorts_54 : decode cX6_findSorts 54 = .ok (.getfield 20, 3) := by decide +kernel
theorem dX6_findSorts_57 : decode cX6_findSorts 57 = .ok (.iconst 5, 1) := by decide +kernel
theorem dX6_findSorts_58 : decode cX6_findSorts 58 = .ok (.iload_n 1, 1) := by decide +kernel
theorem dX6_findSorts_59 : decode cX6_findSorts 59 = .ok (.imul, 1) := by decide +kernel
theorem dX6_findSorts_60 : decode cX6_findSorts 60 = .ok (.iaload, 1) := by decide +kernel
theorem dX6_findSorts_61 : decode cX6_findSorts 61 = .ok (.iload_n 1, 1) := by decide +kernel
theorem dX6_findSorts_62 : decode cX6_findSorts 62 = .ok (.invokevirtual 92, 3) := by decide +kernel
theorem dX6_findSorts_65 : decode cX6_findSorts 65 = .ok (.aload_n 0, 1) := by decide +kernel
theorem dX6_findSorts_66 : decode cX6_findSorts 66 = .ok (.getfield 23, 3) := by decide +kernel
theorem dX6_findSorts_69 : decode cX6_findSorts 69 = .ok (.iload_n 1, 1) := by decide +kernel
theorem dX6_findSorts_70 : decode cX6_findSorts 70 = .ok (.aload_n 0, 1) := by decide +kernel
theorem dX6_findSorts_71 : decode cX6_findSorts 71 = .ok (.getfield 26, 3) := by decide +kernel
theorem dX6_findSorts_74 : decode cX6_findSorts 74 = .ok (.iload_n 2, 1) := by decide +kernel
theorem dX6_findSorts_75 : decode cX6_findSorts 75 = .ok (.laload, 1) := by decide +kernel
theorem dX6_findSorts_76 : decode cX6_findSorts 76 = .ok (.lconst 0, 1) := by decide +kernel
theorem dX6_findSorts_77 : decode cX6_findSorts 77 = .ok (.lcmp, 1) := by decide +kernel
theorem dX6_findSorts_78 : decode cX6_findSorts 78 = .ok (.ifCond .ne 7, 3) := by decide +kernel
theorem dX6_findSorts_81 : decode cX6_findSorts 81 = .ok (.iconst 0, 1) := by decide +kernel
theorem dX6_findSorts_82 : decode cX6_findSorts 82 = .ok (.goto 29, 3) := by decide +kernel
theorem dX6_findSorts_85 : decode cX6_findSorts 85 = .ok (.aload_n 0, 1) := by decide +kernel
theorem dX6_findSorts_86 : decode cX6_findSorts 86 = .ok (.getfield 26, 3) := by decide +kernel
theorem dX6_findSorts_89 : decode cX6_findSorts 89 = .ok (.iload_n 2, 1) := by decide +kernel
theorem dX6_findSorts_90 : decode cX6_findSorts 90 = .ok (.laload, 1) := by decide +kernel
theorem dX6_findSorts_91 : decode cX6_findSorts 91 = .ok (.lload_n 3, 1) := by decide +kernel
theorem dX6_findSorts_92 : decode cX6_findSorts 92 = .ok (.lmul, 1) := by decide +kernel
theorem dX6_findSorts_93 : decode cX6_findSorts 93 = .ok (.aload_n 0, 1) := by decide +kernel
theorem dX6_findSorts_94 : decode cX6_findSorts 94 = .ok (.getfield 30, 3) := by decide +kernel
theorem dX6_findSorts_97 : decode cX6_findSorts 97 = .ok (.iload_n 2, 1) := by decide +kernel
theorem dX6_findSorts_98 : decode cX6_findSorts 98 = .ok (.laload, 1) := by decide +kernel
theorem dX6_findSorts_99 : decode cX6_findSorts 99 = .ok (.lload 5, 2) := by decide +kernel
theorem dX6_findSorts_101 : decode cX6_findSorts 101 = .ok (.lmul, 1) := by decide +kernel
theorem dX6_findSorts_102 : decode cX6_findSorts 102 = .ok (.lcmp, 1) := by decide +kernel
theorem dX6_findSorts_103 : decode cX6_findSorts 103 = .ok (.ifCond .ne 7, 3) := by decide +kernel
theorem dX6_findSorts_106 : decode cX6_findSorts 106 = .ok (.iconst 1, 1) := by decide +kernel
theorem dX6_findSorts_107 : decode cX6_findSorts 107 = .ok (.goto 4, 3) := by decide +kernel
theorem dX6_findSorts_110 : decode cX6_findSorts 110 = .ok (.iconst 2, 1) := by decide +kernel
theorem dX6_findSorts_111 : decode cX6_findSorts 111 = .ok (.iastore, 1) := by decide +kernel
theorem dX6_findSorts_112 : decode cX6_findSorts 112 = .ok (.iinc 1 1, 3) := by decide +kernel
theorem dX6_findSorts_115 : decode cX6_findSorts 115 = .ok (.goto (-113), 3) := by decide +kernel
theorem dX6_findSorts_118 : decode cX6_findSorts 118 = .ok (.return_, 1) := by decide +kernel
set_option maxRecDepth 20000 in
theorem ggX6_spreadAll_X6_findSorts : GoodIn wsX6_spreadAll wsX6_findSorts := goodIn_r _ [6, 1, 7, 8, 9, 10, 11, 12, 5, 13, 14, 15, 16, 17, 18, 19, 20, 21, 22, 23, 24, 25, 26, 27, 28, 29, 30, 31, 32, 33, 34, 35, 36, 37, 38, 39, 40, 41, 42, 43, 44, 45, 46, 47] (by decide +kernel) (by decide +kernel)
set_option maxRecDepth 20000 in
theorem gX6_spreadAll_X6_findSorts : GoodIn wsX6_spreadAll (wsV RX6 96 RX6 yX6_findSorts wsX6_findSorts) := goodIn_app (goodIn_of _ (by decide +kernel)) ggX6_spreadAll_X6_findSorts
set_option maxRecDepth 20000 in
theorem ggX6_spreadAll_X6_spread : GoodIn wsX6_spreadAll wsX6_spread := goodIn_r _ [17, 9, 10, 18, 19, 20, 21, 7, 8, 11, 12, 5, 13, 22, 23, 24, 25, 26, 27, 28, 29, 30, 31, 32, 33, 34, 35, 36, 37, 38, 39, 40, 41, 42, 43, 44, 45, 46, 47] (by decide +kernel) (by decide +kernel)
set_option maxRecDepth 20000 in
theorem gX6_spreadAll_X6_spread : GoodIn wsX6_spreadAll (wsV RX6 92 RX6 yX6_spread wsX6_spread) := goodIn_app (goodIn_of _ (by decide +kernel)) ggX6_spreadAll_X6_spread
theorem dX6_spreadAll_0 : decode cX6_spreadAll 0 = .ok (.aload_n 0, 1) := by decide +kernel
theorem dX6_spreadAll_1 : decode cX6_spreadAll 1 = .ok (.invokevirtual 96, 3) := by decide +kernel
theorem dX6_spreadAll_4 : decode cX6_spreadAll 4 = .ok (.aload_n 0, 1) := by decide +kernel
theorem dX6_spreadAll_5 : decode cX6_spreadAll 5 = .ok (.iload_n 1, 1) := by decide +kernel
theorem dX6_spreadAll_6 : decode cX6_spreadAll 6 = .ok (.aload_n 0, 1) := by decide +kernel
theorem dX6_spreadAll_7 : decode cX6_spreadAll 7 = .ok (.getfield 64, 3) := by decide +kernel
theorem dX6_spreadAll_10 : decode cX6_spreadAll 10 = .ok (.invokevirtual 92, 3) := by decide +kernel
theorem dX6_spreadAll_13 : decode cX6_spreadAll 13 = .ok (.return_, 1) := by decide +kernel
set_option maxRecDepth 20000 in
theorem ggX6_isPinHeld_X6_placeOf : GoodIn wsX6_isPinHeld wsX6_placeOf := goodIn_r _ [6, 7, 8, 9, 10, 11, 12, 13, 14, 15, 16, 17, 18, 19, 20, 21, 22, 23, 24, 25, 26, 27] (by decide +kernel) (by decide +kernel)
set_option maxRecDepth 20000 in
theorem gX6_isPinHeld_X6_placeOf : GoodIn wsX6_isPinHeld (wsV RX6 99 RX6 yX6_placeOf wsX6_placeOf) := goodIn_app (goodIn_of _ (by decide +kernel)) ggX6_isPinHeld_X6_placeOf
theorem dX6_isPinHeld_0 : decode cX6_isPinHeld 0 = .ok (.aload_n 0, 1) := by decide +kernel
theorem dX6_isPinHeld_1 : decode cX6_isPinHeld 1 = .ok (.getfield 13, 3) := by decide +kernel
theorem dX6_isPinHeld_4 : decode cX6_isPinHeld 4 = .ok (.iload_n 1, 1) := by decide +kernel
theorem dX6_isPinHeld_5 : decode cX6_isPinHeld 5 = .ok (.iaload, 1) := by decide +kernel
theorem dX6_isPinHeld_6 : decode cX6_isPinHeld 6 = .ok (.bipush (-9), 2) := by decide +kernel
theorem dX6_isPinHeld_8 : decode cX6_isPinHeld 8 = .ok (.if_icmp .eq 22, 3) := by decide +kernel
theorem dX6_isPinHeld_11 : decode cX6_isPinHeld 11 = .ok (.aload_n 0, 1) := by decide +kernel
theorem dX6_isPinHeld_12 : decode cX6_isPinHeld 12 = .ok (.aload_n 0, 1) := by decide +kernel
theorem dX6_isPinHeld_13 : decode cX6_isPinHeld 13 = .ok (.getfield 13, 3) := by decide +kernel
theorem dX6_isPinHeld_16 : decode cX6_isPinHeld 16 = .ok (.iload_n 1, 1) := by decide +kernel
theorem dX6_isPinHeld_17 : decode cX6_isPinHeld 17 = .ok (.iaload, 1) := by decide +kernel
theorem dX6_isPinHeld_18 : decode cX6_isPinHeld 18 = .ok (.invokevirtual 99, 3) := by decide +kernel
theorem dX6_isPinHeld_21 : decode cX6_isPinHeld 21 = .ok (.bipush (-9), 2) := by decide +kernel
theorem dX6_isPinHeld_23 : decode cX6_isPinHeld 23 = .ok (.if_icmp .eq 7, 3) := by decide +kernel
theorem dX6_isPinHeld_26 : decode cX6_isPinHeld 26 = .ok (.iconst 1, 1) := by decide +kernel
theorem dX6_isPinHeld_27 : decode cX6_isPinHeld 27 = .ok (.goto 4, 3) := by decide +kernel
theorem dX6_isPinHeld_30 : decode cX6_isPinHeld 30 = .ok (.iconst 0, 1) := by decide +kernel
theorem dX6_isPinHeld_31 : decode cX6_isPinHeld 31 = .ok (.ireturn, 1) := by decide +kernel
theorem dX6_tiesAt_0 : decode cX6_tiesAt 0 = .ok (.iconst 0, 1) := by decide +kernel
theorem dX6_tiesAt_1 : decode cX6_tiesAt 1 = .ok (.istore_n 2, 1) := by decide +kernel
theorem dX6_tiesAt_2 : decode cX6_tiesAt 2 = .ok (.iconst 0, 1) := by decide +kernel
theorem dX6_tiesAt_3 : decode cX6_tiesAt 3 = .ok (.istore_n 3, 1) := by decide +kernel
theorem dX6_tiesAt_4 : decode cX6_tiesAt 4 = .ok (.iload_n 3, 1) := by decide +kernel
theorem dX6_tiesAt_5 : decode cX6_tiesAt 5 = .ok (.aload_n 0, 1) := by decide +kernel
theorem dX6_tiesAt_6 : decode cX6_tiesAt 6 = .ok (.getfield 64, 3) := by decide +kernel
theorem dX6_tiesAt_9 : decode cX6_tiesAt 9 = .ok (.if_icmp .ge 43, 3) := by decide +kernel
theorem dX6_tiesAt_12 : decode cX6_tiesAt 12 = .ok (.iload_n 2, 1) := by decide +kernel
theorem dX6_tiesAt_13 : decode cX6_tiesAt 13 = .ok (.aload_n 0, 1) := by decide +kernel
theorem dX6_tiesAt_14 : decode cX6_tiesAt 14 = .ok (.getfield 20, 3) := by decide +kernel
theorem dX6_tiesAt_17 : decode cX6_tiesAt 17 = .ok (.iconst 5, 1) := by decide +kernel
theorem dX6_tiesAt_18 : decode cX6_tiesAt 18 = .ok (.iload_n 3, 1) := by decide +kernel
theorem dX6_tiesAt_19 : decode cX6_tiesAt 19 = .ok (.imul, 1) := by decide +kernel
theorem dX6_tiesAt_20 : decode cX6_tiesAt 20 = .ok (.iaload, 1) := by decide +kernel
theorem dX6_tiesAt_21 : decode cX6_tiesAt 21 = .ok (.iload_n 1, 1) := by decide +kernel
theorem dX6_tiesAt_22 : decode cX6_tiesAt 22 = .ok (.if_icmp .eq 17, 3) := by decide +kernel
theorem dX6_tiesAt_25 : decode cX6_tiesAt 25 = .ok (.aload_n 0, 1) := by decide +kernel
theorem dX6_tiesAt_26 : decode cX6_tiesAt 26 = .ok (.getfield 20, 3) := by decide +kernel
theorem dX6_tiesAt_29 : decode cX6_tiesAt 29 = .ok (.iconst 5, 1) := by decide +kernel
theorem dX6_tiesAt_30 : decode cX6_tiesAt 30 = .ok (.iload_n 3, 1) := by decide +kernel
theorem dX6_tiesAt_31 : decode cX6_tiesAt 31 = .ok (.imul, 1) := by decide +kernel
theorem dX6_tiesAt_32 : decode cX6_tiesAt 32 = .ok (.iconst 2, 1) := by decide +kernel
theorem dX6_tiesAt_33 : decode cX6_tiesAt 33 = .ok (.iadd, 1) := by decide +kernel
theorem dX6_tiesAt_34 : decode cX6_tiesAt 34 = .ok (.iaload, 1) := by decide +kernel
theorem dX6_tiesAt_35 : decode cX6_tiesAt 35 = .ok (.iload_n 1, 1) := by decide +kernel
theorem dX6_tiesAt_36 : decode cX6_tiesAt 36 = .ok (.if_icmp .ne 7, 3) := by decide +kernel
theorem dX6_tiesAt_39 : decode cX6_tiesAt 39 = .ok (.iconst 1, 1) := by decide +kernel
theorem dX6_tiesAt_40 : decode cX6_tiesAt 40 = .ok (.goto 4, 3) := by decide +kernel
theorem dX6_tiesAt_43 : decode cX6_tiesAt 43 = .ok (.iconst 0, 1) := by decide +kernel
theorem dX6_tiesAt_44 : decode cX6_tiesAt 44 = .ok (.iadd, 1) := by decide +kernel
theorem dX6_tiesAt_45 : decode cX6_tiesAt 45 = .ok (.istore_n 2, 1) := by decide +kernel
theorem dX6_tiesAt_46 : decode cX6_tiesAt 46 = .ok (.iinc 3 1, 3) := by decide +kernel
theorem dX6_tiesAt_49 : decode cX6_tiesAt 49 = .ok (.goto (-45), 3) := by decide +kernel
theorem dX6_tiesAt_52 : decode cX6_tiesAt 52 = .ok (.iload_n 2, 1) := by decide +kernel
theorem dX6_tiesAt_53 : decode cX6_tiesAt 53 = .ok (.ireturn, 1) := by decide +kernel
theorem dX6_leastMet_0 : decode cX6_leastMet 0 = .ok (.bipush 7, 2) := by decide +kernel
theorem dX6_leastMet_2 : decode cX6_leastMet 2 = .ok (.istore_n 1, 1) := by decide +kernel
theorem dX6_leastMet_3 : decode cX6_leastMet 3 = .ok (.iconst 0, 1) := by decide +kernel
theorem dX6_leastMet_4 : decode cX6_leastMet 4 = .ok (.istore_n 2, 1) := by decide +kernel
theorem dX6_leastMet_5 : decode cX6_leastMet 5 = .ok (.iload_n 2, 1) := by decide +kernel
theorem dX6_leastMet_6 : decode cX6_leastMet 6 = .ok (.aload_n 0, 1) := by decide +kernel
theorem dX6_leastMet_7 : decode cX6_leastMet 7 = .ok (.getfield 85, 3) := by decide +kernel
theorem dX6_leastMet_10 : decode cX6_leastMet 10 = .ok (.if_icmp .ge 30, 3) := by decide +kernel
theorem dX6_leastMet_13 : decode cX6_leastMet 13 = .ok (.aload_n 0, 1) := by decide +kernel
theorem dX6_leastMet_14 : decode cX6_leastMet 14 = .ok (.getfield 36, 3) := by decide +kernel
theorem dX6_leastMet_17 : decode cX6_leastMet 17 = .ok (.iload_n 2, 1) := by decide +kernel
theorem dX6_leastMet_18 : decode cX6_leastMet 18 = .ok (.iaload, 1) := by decide +kernel
theorem dX6_leastMet_19 : decode cX6_leastMet 19 = .ok (.iload_n 1, 1) := by decide +kernel
theorem dX6_leastMet_20 : decode cX6_leastMet 20 = .ok (.if_icmp .ge 12, 3) := by decide +kernel
theorem dX6_leastMet_23 : decode cX6_leastMet 23 = .ok (.aload_n 0, 1) := by decide +kernel
theorem dX6_leastMet_24 : decode cX6_leastMet 24 = .ok (.getfield 36, 3) := by decide +kernel
theorem dX6_leastMet_27 : decode cX6_leastMet 27 = .ok (.iload_n 2, 1) := by decide +kernel
theorem dX6_leastMet_28 : decode cX6_leastMet 28 = .ok (.iaload, 1) := by decide +kernel
theorem dX6_leastMet_29 : decode cX6_leastMet 29 = .ok (.goto 4, 3) := by decide +kernel
theorem dX6_leastMet_32 : decode cX6_leastMet 32 = .ok (.iload_n 1, 1) := by decide +kernel
theorem dX6_leastMet_33 : decode cX6_leastMet 33 = .ok (.istore_n 1, 1) := by decide +kernel
theorem dX6_leastMet_34 : decode cX6_leastMet 34 = .ok (.iinc 2 1, 3) := by decide +kernel
theorem dX6_leastMet_37 : decode cX6_leastMet 37 = .ok (.goto (-32), 3) := by decide +kernel
theorem dX6_leastMet_40 : decode cX6_leastMet 40 = .ok (.iload_n 1, 1) := by decide +kernel
theorem dX6_leastMet_41 : decode cX6_leastMet 41 = .ok (.ireturn, 1) := by decide +kernel
set_option maxRecDepth 20000 in
theorem ggX6_ofSection_X6_isSection : GoodIn wsX6_ofSection wsX6_isSection := goodIn_r _ [8, 9, 10, 11, 7, 12, 61, 62, 63, 64, 65, 66, 67, 68, 69, 70, 71, 72, 73, 74, 75, 76, 77, 78, 79] (by decide +kernel) (by decide +kernel)
set_option maxRecDepth 20000 in
theorem gX6_ofSection_X6_isSection : GoodIn wsX6_ofSection (wsV RX6 67 RX6 yX6_isSection wsX6_isSection) := goodIn_app (goodIn_of _ (by decide +kernel)) ggX6_ofSection_X6_isSection
set_option maxRecDepth 20000 in
theorem ggX6_ofSection_X6_spreadAll : GoodIn wsX6_ofSection wsX6_spreadAll := goodIn_r _ [16, 17, 18, 19, 20, 7, 21, 22, 23, 24, 25, 26, 27, 28, 29, 30, 31, 32, 33, 34, 35, 2, 36, 37, 38, 39, 40, 41, 42, 61, 62, 63, 64, 65, 66, 67, 68, 69, 70, 71, 72, 73, 74, 75, 76, 77, 78, 79] (by decide +kernel) (by decide +kernel)
set_option maxRecDepth 20000 in
theorem gX6_ofSection_X6_spreadAll : GoodIn wsX6_ofSection (wsV RX6 102 RX6 yX6_spreadAll wsX6_spreadAll) := goodIn_app (goodIn_of _ (by decide +kernel)) ggX6_ofSection_X6_spreadAll
set_option maxRecDepth 20000 in
theorem ggX6_ofSection_X6_tiesAt : GoodIn wsX6_ofSection wsX6_tiesAt := goodIn_r _ [46, 17, 22, 61, 62, 63, 64, 65, 66, 67, 68, 69, 70, 71, 72, 73, 74, 75, 76, 77, 78, 79] (by decide +kernel) (by decide +kernel)
set_option maxRecDepth 20000 in
theorem gX6_ofSection_X6_tiesAt : GoodIn wsX6_ofSection (wsV RX6 106 RX6 yX6_tiesAt wsX6_tiesAt) := goodIn_app (goodIn_of _ (by decide +kernel)) ggX6_ofSection_X6_tiesAt
set_option maxRecDepth 20000 in
theorem ggX6_ofSection_X6_leastMet : GoodIn wsX6_ofSection wsX6_leastMet := goodIn_r _ [50, 2, 34, 61, 62, 63, 64, 65, 66, 67, 68, 69, 70, 71, 72, 73, 74, 75, 76, 77, 78, 79] (by decide +kernel) (by decide +kernel)
set_option maxRecDepth 20000 in
theorem gX6_ofSection_X6_leastMet : GoodIn wsX6_ofSection (wsV RX6 109 RX6 yX6_leastMet wsX6_leastMet) := goodIn_app (goodIn_of _ (by decide +kernel)) ggX6_ofSection_X6_leastMet
set_option maxRecDepth 20000 in
theorem ggX6_ofSection_X6_isPinHeld : GoodIn wsX6_ofSection wsX6_isPinHeld := goodIn_r _ [54, 3, 55, 56, 57, 7, 58, 59, 60, 61, 62, 63, 64, 65, 66, 67, 68, 69, 70, 71, 72, 73, 74, 75, 76, 77, 78, 79] (by decide +kernel) (by decide +kernel)
set_option maxRecDepth 20000 in
theorem gX6_ofSection_X6_isPinHeld : GoodIn wsX6_ofSection (wsV RX6 113 RX6 yX6_isPinHeld wsX6_isPinHeld) := goodIn_app (goodIn_of _ (by decide +kernel)) ggX6_ofSection_X6_isPinHeld
theorem dX6_ofSection_0 : decode cX6_ofSection 0 = .ok (.aload_n 0, 1) := by decide +kernel
theorem dX6_ofSection_1 : decode cX6_ofSection 1 = .ok (.iload_n 1, 1) := by decide +kernel
theorem dX6_ofSection_2 : decode cX6_ofSection 2 = .ok (.invokevirtual 67, 3) := by decide +kernel
theorem dX6_ofSection_5 : decode cX6_ofSection 5 = .ok (.ifCond .ne 5, 3) := by decide +kernel
theorem dX6_ofSection_8 : decode cX6_ofSection 8 = .ok (.iconst (-1), 1) := by decide +kernel
theorem dX6_ofSection_9 : decode cX6_ofSection 9 = .ok (.ireturn, 1) := by decide +kernel
theorem dX6_ofSection_10 : decode cX6_ofSection 10 = .ok (.aload_n 0, 1) := by decide +kernel
theorem dX6_ofSection_11 : decode cX6_ofSection 11 = .ok (.iload_n 1, 1) := by decide +kernel
theorem dX6_ofSection_12 : decode cX6_ofSection 12 = .ok (.invokevirtual 102, 3) := by decide +kernel
theorem dX6_ofSection_15 : decode cX6_ofSection 15 = .ok (.iload_n 2, 1) := by decide +kernel
theorem dX6_ofSection_16 : decode cX6_ofSection 16 = .ok (.tableswitch 84 0 5 #[40, 47, 53, 58, 63, 70], 40) := by decide +kernel
theorem dX6_ofSection_56 : decode cX6_ofSection 56 = .ok (.aload_n 0, 1) := by decide +kernel
theorem dX6_ofSection_57 : decode cX6_ofSection 57 = .ok (.getfield 7, 3) := by decide +kernel
theorem dX6_ofSection_60 : decode cX6_ofSection 60 = .ok (.iload_n 1, 1) := by decide +kernel
theorem dX6_ofSection_61 : decode cX6_ofSection 61 = .ok (.iaload, 1) := by decide +kernel
theorem dX6_ofSection_62 : decode cX6_ofSection 62 = .ok (.ireturn, 1) := by decide +kernel
theorem dX6_ofSection_63 : decode cX6_ofSection 63 = .ok (.aload_n 0, 1) := by decide +kernel
theorem dX6_ofSection_64 : decode cX6_ofSection 64 = .ok (.iload_n 1, 1) := by decide +kernel
theorem dX6_ofSection_65 : decode cX6_ofSection 65 = .ok (.invokevirtual 106, 3) := by decide +kernel
theorem dX6_ofSection_68 : decode cX6_ofSection 68 = .ok (.ireturn, 1) := by decide +kernel
theorem dX6_ofSection_69 : decode cX6_ofSection 69 = .ok (.aload_n 0, 1) := by decide +kernel
theorem dX6_ofSection_70 : decode cX6_ofSection 70 = .ok (.getfield 85, 3) := by decide +kernel
theorem dX6_ofSection_73 : decode cX6_ofSection 73 = .ok (.ireturn, 1) := by decide +kernel
theorem dX6_ofSection_74 : decode cX6_ofSection 74 = .ok (.aload_n 0, 1) := by decide +kernel
theorem dX6_ofSection_75 : decode cX6_ofSection 75 = .ok (.invokevirtual 109, 3) := by decide +kernel
theorem dX6_ofSection_78 : decode cX6_ofSection 78 = .ok (.ireturn, 1) := by decide +kernel
theorem dX6_ofSection_79 : decode cX6_ofSection 79 = .ok (.aload_n 0, 1) := by decide +kernel
theorem dX6_ofSection_80 : decode cX6_ofSection 80 = .ok (.getfield 13, 3) := by decide +kernel
theorem dX6_ofSection_83 : decode cX6_ofSection 83 = .ok (.iload_n 1, 1) := by decide +kernel
theorem dX6_ofSection_84 : decode cX6_ofSection 84 = .ok (.iaload, 1) := by decide +kernel
theorem dX6_ofSection_85 : decode cX6_ofSection 85 = .ok (.ireturn, 1) := by decide +kernel
theorem dX6_ofSection_86 : decode cX6_ofSection 86 = .ok (.aload_n 0, 1) := by decide +kernel
theorem dX6_ofSection_87 : decode cX6_ofSection 87 = .ok (.iload_n 1, 1) := by decide +kernel
theorem dX6_ofSection_88 : decode cX6_ofSection 88 = .ok (.invokevirtual 113, 3) := by decide +kernel
theorem dX6_ofSection_91 : decode cX6_ofSection 91 = .ok (.ifCond .eq 7, 3) := by decide +kernel
theorem dX6_ofSection_94 : decode cX6_ofSection 94 = .ok (.iconst 1, 1) := by decide +kernel
theorem dX6_ofSection_95 : decode cX6_ofSection 95 = .ok (.goto 4, 3) := by decide +kernel
theorem dX6_ofSection_98 : decode cX6_ofSection 98 = .ok (.iconst 0, 1) := by decide +kernel
theorem dX6_ofSection_99 : decode cX6_ofSection 99 = .ok (.ireturn, 1) := by decide +kernel
theorem dX6_ofSection_100 : decode cX6_ofSection 100 = .ok (.bipush (-2), 2) := by decide +kernel
theorem dX6_ofSection_102 : decode cX6_ofSection 102 = .ok (.ireturn, 1) := by decide +kernel
set_option maxRecDepth 20000 in
theorem ggX6_ofTie_X6_isTie : GoodIn wsX6_ofTie wsX6_isTie := goodIn_r _ [7, 8, 9, 10, 6, 11, 36, 37, 38, 39, 40, 41, 42, 43, 44, 45, 46, 47, 48, 49, 50, 51, 52, 53, 54] (by decide +kernel) (by decide +kernel)
set_option maxRecDepth 20000 in
theorem gX6_ofTie_X6_isTie : GoodIn wsX6_ofTie (wsV RX6 74 RX6 yX6_isTie wsX6_isTie) := goodIn_app (goodIn_of _ (by decide +kernel)) ggX6_ofTie_X6_isTie
set_option maxRecDepth 20000 in
theorem ggX6_ofTie_X6_isIn : GoodIn wsX6_ofTie wsX6_isIn := goodIn_r _ [11] (by decide +kernel) (by decide +kernel)
set_option maxRecDepth 20000 in
theorem gX6_ofTie_X6_isIn : GoodIn wsX6_ofTie (va_wsS RX6 60 yX6_isIn wsX6_isIn) := goodIn_app (goodIn_of _ (by decide +kernel)) ggX6_ofTie_X6_isIn
set_option maxRecDepth 20000 in
theorem ggX6_ofTie_X6_findSorts : GoodIn wsX6_ofTie wsX6_findSorts := goodIn_r _ [15, 8, 2, 1, 16, 17, 18, 19, 6, 20, 21, 22, 23, 24, 25, 26, 27, 28, 29, 30, 31, 32, 33, 34, 35, 36, 37, 38, 39, 40, 41, 42, 43, 44, 45, 46, 47, 48, 49, 50, 51, 52, 53, 54] (by decide +kernel) (by decide +kernel)
set_option maxRecDepth 20000 in
theorem gX6_ofTie_X6_findSorts : GoodIn wsX6_ofTie (wsV RX6 96 RX6 yX6_findSorts wsX6_findSorts) := goodIn_app (goodIn_of _ (by decide +kernel)) ggX6_ofTie_X6_findSorts
theorem dX6_ofTie_0 : decode cX6_ofTie 0 = .ok (.aload_n 0, 1) := by decide +kernel
theorem dX6_ofTie_1 : decode cX6_ofTie 1 = .ok (.iload_n 1, 1) := by decide +kernel
theorem dX6_ofTie_2 : decode cX6_ofTie 2 = .ok (.invokevirtual 74, 3) := by decide +kernel
theorem dX6_ofTie_5 : decode cX6_ofTie 5 = .ok (.ifCond .ne 5, 3) := by decide +kernel
theorem dX6_ofTie_8 : decode cX6_ofTie 8 = .ok (.iconst (-1), 1) := by decide +kernel
theorem dX6_ofTie_9 : decode cX6_ofTie 9 = .ok (.ireturn, 1) := by decide +kernel
theorem dX6_ofTie_10 : decode cX6_ofTie 10 = .ok (.iload_n 2, 1) := by decide +kernel
theorem dX6_ofTie_11 : decode cX6_ofTie 11 = .ok (.iconst 0, 1) := by decide +kernel
theorem dX6_ofTie_12 : decode cX6_ofTie 12 = .ok (.iconst 5, 1) := by decide +kernel
theorem dX6_ofTie_13 : decode cX6_ofTie 13 = .ok (.invokestatic 60, 3) := by decide +kernel
theorem dX6_ofTie_16 : decode cX6_ofTie 16 = .ok (.ifCond .ne 6, 3) := by decide +kernel
theorem dX6_ofTie_19 : decode cX6_ofTie 19 = .ok (.bipush (-2), 2) := by decide +kernel
theorem dX6_ofTie_21 : decode cX6_ofTie 21 = .ok (.ireturn, 1) := by decide +kernel
theorem dX6_ofTie_22 : decode cX6_ofTie 22 = .ok (.aload_n 0, 1) := by decide +kernel
theorem dX6_ofTie_23 : decode cX6_ofTie 23 = .ok (.invokevirtual 96, 3) := by decide +kernel
theorem dX6_ofTie_26 : decode cX6_ofTie 26 = .ok (.iload_n 2, 1) := by decide +kernel
theorem dX6_ofTie_27 : decode cX6_ofTie 27 = .ok (.iconst 5, 1) := by decide +kernel
theorem dX6_ofTie_28 : decode cX6_ofTie 28 = .ok (.if_icmp .ne 12, 3) := by decide +kernel
theorem dX6_ofTie_31 : decode cX6_ofTie 31 = .ok (.aload_n 0, 1) := by decide +kernel
theorem dX6_ofTie_32 : decode cX6_ofTie 32 = .ok (.getfield 23, 3) := by decide +kernel
theorem dX6_ofTie_35 : decode cX6_ofTie 35 = .ok (.iload_n 1, 1) := by decide +kernel
theorem dX6_ofTie_36 : decode cX6_ofTie 36 = .ok (.iaload, 1) := by decide +kernel
theorem dX6_ofTie_37 : decode cX6_ofTie 37 = .ok (.goto 13, 3) := by decide +kernel
theorem dX6_ofTie_40 : decode cX6_ofTie 40 = .ok (.aload_n 0, 1) := by decide +kernel
theorem dX6_ofTie_41 : decode cX6_ofTie 41 = .ok (.getfield 20, 3) := by decide +kernel
theorem dX6_ofTie_44 : decode cX6_ofTie 44 = .ok (.iconst 5, 1) := by decide +kernel
theorem dX6_ofTie_45 : decode cX6_ofTie 45 = .ok (.iload_n 1, 1) := by decide +kernel
theorem dX6_ofTie_46 : decode cX6_ofTie 46 = .ok (.imul, 1) := by decide +kernel
theorem dX6_ofTie_47 : decode cX6_ofTie 47 = .ok (.iload_n 2, 1) := by decide +kernel
theorem dX6_ofTie_48 : decode cX6_ofTie 48 = .ok (.iadd, 1) := by decide +kernel
theorem dX6_ofTie_49 : decode cX6_ofTie 49 = .ok (.iaload, 1) := by decide +kernel
theorem dX6_ofTie_50 : decode cX6_ofTie 50 = .ok (.ireturn, 1) := by decide +kernel
set_option maxRecDepth 20000 in
theorem ggX6_told_X6_common : GoodIn wsX6_told wsX6_common := goodIn_r _ [4] (by decide +kernel) (by decide +kernel)
set_option maxRecDepth 20000 in
theorem gX6_told_X6_common : GoodIn wsX6_told (va_wsS RX6 81 yX6_common wsX6_common) := goodIn_app (goodIn_of _ (by decide +kernel)) ggX6_told_X6_common
theorem dX6_told_0 : decode cX6_told 0 = .ok (.lload_n 0, 1) := by decide +kernel
theorem dX6_told_1 : decode cX6_told 1 = .ok (.lload_n 2, 1) := by decide +kernel
theorem dX6_told_2 : decode cX6_told 2 = .ok (.invokestatic 81, 3) := by decide +kernel
theorem dX6_told_5 : decode cX6_told 5 = .ok (.lstore 5, 2) := by decide +kernel
theorem dX6_told_7 : decode cX6_told 7 = .ok (.iload 4, 2) := by decide +kernel
theorem dX6_told_9 : decode cX6_told 9 = .ok (.ifCond .ne 10, 3) := by decide +kernel
theorem dX6_told_12 : decode cX6_told 12 = .ok (.lload_n 0, 1) := by decide +kernel
theorem dX6_told_13 : decode cX6_told 13 = .ok (.lload 5, 2) := by decide +kernel
theorem dX6_told_15 : decode cX6_told 15 = .ok (.ldiv, 1) := by decide +kernel
theorem dX6_told_16 : decode cX6_told 16 = .ok (.goto 7, 3) := by decide +kernel
theorem dX6_told_19 : decode cX6_told 19 = .ok (.lload_n 2, 1) := by decide +kernel
theorem dX6_told_20 : decode cX6_told 20 = .ok (.lload 5, 2) := by decide +kernel
theorem dX6_told_22 : decode cX6_told 22 = .ok (.ldiv, 1) := by decide +kernel
theorem dX6_told_23 : decode cX6_told 23 = .ok (.lreturn, 1) := by decide +kernel
set_option maxRecDepth 20000 in
theorem ggX6_tempo_X6_isSection : GoodIn wsX6_tempo wsX6_isSection := goodIn_r _ [11, 12, 13, 14, 10, 15, 48, 49, 50, 51, 52, 53, 54, 55, 56, 57, 58, 59, 60, 61, 62, 63, 64, 65, 66] (by decide +kernel) (by decide +kernel)
set_option maxRecDepth 20000 in
theorem gX6_tempo_X6_isSection : GoodIn wsX6_tempo (wsV RX6 67 RX6 yX6_isSection wsX6_isSection) := goodIn_app (goodIn_of _ (by decide +kernel)) ggX6_tempo_X6_isSection
set_option maxRecDepth 20000 in
theorem ggX6_tempo_X6_isIn : GoodIn wsX6_tempo wsX6_isIn := goodIn_r _ [15] (by decide +kernel) (by decide +kernel)
set_option maxRecDepth 20000 in
theorem gX6_tempo_X6_isIn : GoodIn wsX6_tempo (va_wsS RX6 60 yX6_isIn wsX6_isIn) := goodIn_app (goodIn_of _ (by decide +kernel)) ggX6_tempo_X6_isIn
set_option maxRecDepth 20000 in
theorem ggX6_tempo_X6_spreadAll : GoodIn wsX6_tempo wsX6_spreadAll := goodIn_r _ [19, 20, 21, 22, 23, 10, 24, 25, 26, 3, 6, 27, 28, 29, 30, 31, 32, 33, 34, 35, 36, 37, 38, 39, 40, 41, 42, 43, 44, 48, 49, 50, 51, 52, 53, 54, 55, 56, 57, 58, 59, 60, 61, 62, 63, 64, 65, 66] (by decide +kernel) (by decide +kernel)
set_option maxRecDepth 20000 in
theorem gX6_tempo_X6_spreadAll : GoodIn wsX6_tempo (wsV RX6 102 RX6 yX6_spreadAll wsX6_spreadAll) := goodIn_app (goodIn_of _ (by decide +kernel)) ggX6_tempo_X6_spreadAll
set_option maxRecDepth 20000 in
theorem ggX6_tempo_X6_told : GoodIn wsX6_tempo wsX6_told := goodIn_r _ [47, 42, 43, 10, 44] (by decide +kernel) (by decide +kernel)
set_option maxRecDepth 20000 in
theorem gX6_tempo_X6_told : GoodIn wsX6_tempo (va_wsS RX6 122 yX6_told wsX6_told) := goodIn_app (goodIn_of _ (by decide +kernel)) ggX6_tempo_X6_told
theorem dX6_tempo_0 : decode cX6_tempo 0 = .ok (.aload_n 0, 1) := by decide +kernel
theorem dX6_tempo_1 : decode cX6_tempo 1 = .ok (.iload_n 1, 1) := by decide +kernel
theorem dX6_tempo_2 : decode cX6_tempo 2 = .ok (.invokevirtual 67, 3) := by decide +kernel
theorem dX6_tempo_5 : decode cX6_tempo 5 = .ok (.ifCond .ne 7, 3) := by decide +kernel
theorem dX6_tempo_8 : decode cX6_tempo 8 = .ok (.ldc2_w 116, 3) := by decide +kernel
theorem dX6_tempo_11 : decode cX6_tempo 11 = .ok (.lreturn, 1) := by decide +kernel
theorem dX6_tempo_12 : decode cX6_tempo 12 = .ok (.iload_n 2, 1) := by decide +kernel
theorem dX6_tempo_13 : decode cX6_tempo 13 = .ok (.iconst 0, 1) := by decide +kernel
theorem dX6_tempo_14 : decode cX6_tempo 14 = .ok (.iconst 1, 1) := by decide +kernel
theorem dX6_tempo_15 : decode cX6_tempo 15 = .ok (.invokestatic 60, 3) := by decide +kernel
theorem dX6_tempo_18 : decode cX6_tempo 18 = .ok (.ifCond .ne 7, 3) := by decide +kernel
theorem dX6_tempo_21 : decode cX6_tempo 21 = .ok (.ldc2_w 118, 3) := by decide +kernel
theorem dX6_tempo_24 : decode cX6_tempo 24 = .ok (.lreturn, 1) := by decide +kernel
theorem dX6_tempo_25 : decode cX6_tempo 25 = .ok (.aload_n 0, 1) := by decide +kernel
theorem dX6_tempo_26 : decode cX6_tempo 26 = .ok (.iconst 0, 1) := by decide +kernel
theorem dX6_tempo_27 : decode cX6_tempo 27 = .ok (.invokevirtual 102, 3) := by decide +kernel
theorem dX6_tempo_30 : decode cX6_tempo 30 = .ok (.aload_n 0, 1) := by decide +kernel
theorem dX6_tempo_31 : decode cX6_tempo 31 = .ok (.getfield 26, 3) := by decide +kernel
theorem dX6_tempo_34 : decode cX6_tempo 34 = .ok (.iload_n 1, 1) := by decide +kernel
theorem dX6_tempo_35 : decode cX6_tempo 35 = .ok (.laload, 1) := by decide +kernel
theorem dX6_tempo_36 : decode cX6_tempo 36 = .ok (.lconst 0, 1) := by decide +kernel
theorem dX6_tempo_37 : decode cX6_tempo 37 = .ok (.lcmp, 1) := by decide +kernel
theorem dX6_tempo_38 : decode cX6_tempo 38 = .ok (.ifCond .ne 9, 3) := by decide +kernel
theorem dX6_tempo_41 : decode cX6_tempo 41 = .ok (.ldc2_w 120, 3) := by decide +kernel
theorem dX6_tempo_44 : decode cX6_tempo 44 = .ok (.goto 25, 3) := by decide +kernel
theorem dX6_tempo_47 : decode cX6_tempo 47 = .ok (.aload_n 0, 1) := by decide +kernel
theorem dX6_tempo_48 : decode cX6_tempo 48 = .ok (.getfield 16, 3) := by decide +kernel
theorem dX6_tempo_51 : decode cX6_tempo 51 = .ok (.i2l, 1) := by decide +kernel
theorem dX6_tempo_52 : decode cX6_tempo 52 = .ok (.aload_n 0, 1) := by decide +kernel
theorem dX6_tempo_53 : decode cX6_tempo 53 = .ok (.getfield 26, 3) := by decide +kernel
theorem dX6_tempo_56 : decode cX6_tempo 56 = .ok (.iload_n 1, 1) := by decide +kernel
theorem dX6_tempo_57 : decode cX6_tempo 57 = .ok (.laload, 1) := by decide +kernel
theorem dX6_tempo_58 : decode cX6_tempo 58 = .ok (.lmul, 1) := by decide +kernel
theorem dX6_tempo_59 : decode cX6_tempo 59 = .ok (.aload_n 0, 1) := by decide +kernel
theorem dX6_tempo_60 : decode cX6_tempo 60 = .ok (.getfield 30, 3) := by decide +kernel
theorem dX6_tempo_63 : decode cX6_tempo 63 = .ok (.iload_n 1, 1) := by decide +kernel
theorem dX6_tempo_64 : decode cX6_tempo 64 = .ok (.laload, 1) := by decide +kernel
theorem dX6_tempo_65 : decode cX6_tempo 65 = .ok (.iload_n 2, 1) := by decide +kernel
theorem dX6_tempo_66 : decode cX6_tempo 66 = .ok (.invokestatic 122, 3) := by decide +kernel
theorem dX6_tempo_69 : decode cX6_tempo 69 = .ok (.lreturn, 1) := by decide +kernel
set_option maxRecDepth 20000 in
theorem ggX6_ratio_X6_isSection : GoodIn wsX6_ratio wsX6_isSection := goodIn_r _ [10, 11, 12, 13, 9, 14, 47, 48, 49, 50, 51, 52, 53, 54, 55, 56, 57, 58, 59, 60, 61, 62, 63, 64, 65] (by decide +kernel) (by decide +kernel)
set_option maxRecDepth 20000 in
theorem gX6_ratio_X6_isSection : GoodIn wsX6_ratio (wsV RX6 67 RX6 yX6_isSection wsX6_isSection) := goodIn_app (goodIn_of _ (by decide +kernel)) ggX6_ratio_X6_isSection
set_option maxRecDepth 20000 in
theorem ggX6_ratio_X6_isIn : GoodIn wsX6_ratio wsX6_isIn := goodIn_r _ [14] (by decide +kernel) (by decide +kernel)
set_option maxRecDepth 20000 in
theorem gX6_ratio_X6_isIn : GoodIn wsX6_ratio (va_wsS RX6 60 yX6_isIn wsX6_isIn) := goodIn_app (goodIn_of _ (by decide +kernel)) ggX6_ratio_X6_isIn
set_option maxRecDepth 20000 in
theorem ggX6_ratio_X6_spreadAll : GoodIn wsX6_ratio wsX6_spreadAll := goodIn_r _ [18, 19, 20, 21, 22, 9, 23, 24, 25, 3, 5, 26, 27, 28, 29, 30, 31, 32, 33, 34, 35, 36, 37, 38, 39, 40, 41, 42, 43, 47, 48, 49, 50, 51, 52, 53, 54, 55, 56, 57, 58, 59, 60, 61, 62, 63, 64, 65] (by decide +kernel) (by decide +kernel)
set_option maxRecDepth 20000 in
theorem gX6_ratio_X6_spreadAll : GoodIn wsX6_ratio (wsV RX6 102 RX6 yX6_spreadAll wsX6_spreadAll) := goodIn_app (goodIn_of _ (by decide +kernel)) ggX6_ratio_X6_spreadAll
set_option maxRecDepth 20000 in
theorem ggX6_ratio_X6_told : GoodIn wsX6_ratio wsX6_told := goodIn_r _ [46, 41, 42, 9, 43] (by decide +kernel) (by decide +kernel)
set_option maxRecDepth 20000 in
theorem gX6_ratio_X6_told : GoodIn wsX6_ratio (va_wsS RX6 122 yX6_told wsX6_told) := goodIn_app (goodIn_of _ (by decide +kernel)) ggX6_ratio_X6_told
theorem dX6_ratio_0 : decode cX6_ratio 0 = .ok (.aload_n 0, 1) := by decide +kernel
theorem dX6_ratio_1 : decode cX6_ratio 1 = .ok (.iload_n 1, 1) := by decide +kernel
theorem dX6_ratio_2 : decode cX6_ratio 2 = .ok (.invokevirtual 67, 3) := by decide +kernel
theorem dX6_ratio_5 : decode cX6_ratio 5 = .ok (.ifCond .eq 11, 3) := by decide +kernel
theorem dX6_ratio_8 : decode cX6_ratio 8 = .ok (.aload_n 0, 1) := by decide +kernel
theorem dX6_ratio_9 : decode cX6_ratio 9 = .ok (.iload_n 2, 1) := by decide +kernel
theorem dX6_ratio_10 : decode cX6_ratio 10 = .ok (.invokevirtual 67, 3) := by decide +kernel
theorem dX6_ratio_13 : decode cX6_ratio 13 = .ok (.ifCond .ne 7, 3) := by decide +kernel
theorem dX6_ratio_16 : decode cX6_ratio 16 = .ok (.ldc2_w 116, 3) := by decide +kernel
theorem dX6_ratio_19 : decode cX6_ratio 19 = .ok (.lreturn, 1) := by decide +kernel
theorem dX6_ratio_20 : decode cX6_ratio 20 = .ok (.iload_n 3, 1) := by decide +kernel
theorem dX6_ratio_21 : decode cX6_ratio 21 = .ok (.iconst 0, 1) := by decide +kernel
theorem dX6_ratio_22 : decode cX6_ratio 22 = .ok (.iconst 1, 1) := by decide +kernel
theorem dX6_ratio_23 : decode cX6_ratio 23 = .ok (.invokestatic 60, 3) := by decide +kernel
theorem dX6_ratio_26 : decode cX6_ratio 26 = .ok (.ifCond .ne 7, 3) := by decide +kernel
theorem dX6_ratio_29 : decode cX6_ratio 29 = .ok (.ldc2_w 118, 3) := by decide +kernel
theorem dX6_ratio_32 : decode cX6_ratio 32 = .ok (.lreturn, 1) := by decide +kernel
theorem dX6_ratio_33 : decode cX6_ratio 33 = .ok (.aload_n 0, 1) := by decide +kernel
theorem dX6_ratio_34 : decode cX6_ratio 34 = .ok (.iload_n 1, 1) := by decide +kernel
theorem dX6_ratio_35 : decode cX6_ratio 35 = .ok (.invokevirtual 102, 3) := by decide +kernel
theorem dX6_ratio_38 : decode cX6_ratio 38 = .ok (.aload_n 0, 1) := by decide +kernel
theorem dX6_ratio_39 : decode cX6_ratio 39 = .ok (.getfield 26, 3) := by decide +kernel
theorem dX6_ratio_42 : decode cX6_ratio 42 = .ok (.iload_n 2, 1) := by decide +kernel
theorem dX6_ratio_43 : decode cX6_ratio 43 = .ok (.laload, 1) := by decide +kernel
theorem dX6_ratio_44 : decode cX6_ratio 44 = .ok (.lconst 0, 1) := by decide +kernel
theorem dX6_ratio_45 : decode cX6_ratio 45 = .ok (.lcmp, 1) := by decide +kernel
theorem dX6_ratio_46 : decode cX6_ratio 46 = .ok (.ifCond .ne 9, 3) := by decide +kernel
theorem dX6_ratio_49 : decode cX6_ratio 49 = .ok (.ldc2_w 120, 3) := by decide +kernel
theorem dX6_ratio_52 : decode cX6_ratio 52 = .ok (.goto 19, 3) := by decide +kernel
theorem dX6_ratio_55 : decode cX6_ratio 55 = .ok (.aload_n 0, 1) := by decide +kernel
theorem dX6_ratio_56 : decode cX6_ratio 56 = .ok (.getfield 26, 3) := by decide +kernel
theorem dX6_ratio_59 : decode cX6_ratio 59 = .ok (.iload_n 2, 1) := by decide +kernel
theorem dX6_ratio_60 : decode cX6_ratio 60 = .ok (.laload, 1) := by decide +kernel
theorem dX6_ratio_61 : decode cX6_ratio 61 = .ok (.aload_n 0, 1) := by decide +kernel
theorem dX6_ratio_62 : decode cX6_ratio 62 = .ok (.getfield 30, 3) := by decide +kernel
theorem dX6_ratio_65 : decode cX6_ratio 65 = .ok (.iload_n 2, 1) := by decide +kernel
theorem dX6_ratio_66 : decode cX6_ratio 66 = .ok (.laload, 1) := by decide +kernel
theorem dX6_ratio_67 : decode cX6_ratio 67 = .ok (.iload_n 3, 1) := by decide +kernel
theorem dX6_ratio_68 : decode cX6_ratio 68 = .ok (.invokestatic 122, 3) := by decide +kernel
theorem dX6_ratio_71 : decode cX6_ratio 71 = .ok (.lreturn, 1) := by decide +kernel
set_option maxRecDepth 20000 in
theorem ggX6_off_X6_isTie : GoodIn wsX6_off wsX6_isTie := goodIn_r _ [12, 13, 14, 15, 11, 16, 46, 47, 48, 49, 50, 51, 52, 53, 54, 55, 56, 57, 58, 59, 60, 61, 62, 63, 64] (by decide +kernel) (by decide +kernel)
set_option maxRecDepth 20000 in
theorem gX6_off_X6_isTie : GoodIn wsX6_off (wsV RX6 74 RX6 yX6_isTie wsX6_isTie) := goodIn_app (goodIn_of _ (by decide +kernel)) ggX6_off_X6_isTie
set_option maxRecDepth 20000 in
theorem ggX6_off_X6_isIn : GoodIn wsX6_off wsX6_isIn := goodIn_r _ [16] (by decide +kernel) (by decide +kernel)
set_option maxRecDepth 20000 in
theorem gX6_off_X6_isIn : GoodIn wsX6_off (va_wsS RX6 60 yX6_isIn wsX6_isIn) := goodIn_app (goodIn_of _ (by decide +kernel)) ggX6_off_X6_isIn
set_option maxRecDepth 20000 in
theorem ggX6_off_X6_spreadAll : GoodIn wsX6_off wsX6_spreadAll := goodIn_r _ [20, 13, 21, 22, 23, 11, 24, 3, 4, 6, 7, 25, 26, 27, 28, 29, 30, 31, 32, 33, 34, 35, 36, 37, 38, 39, 40, 41, 42, 46, 47, 48, 49, 50, 51, 52, 53, 54, 55, 56, 57, 58, 59, 60, 61, 62, 63, 64] (by decide +kernel) (by decide +kernel)
set_option maxRecDepth 20000 in
theorem gX6_off_X6_spreadAll : GoodIn wsX6_off (wsV RX6 102 RX6 yX6_spreadAll wsX6_spreadAll) := goodIn_app (goodIn_of _ (by decide +kernel)) ggX6_off_X6_spreadAll
set_option maxRecDepth 20000 in
theorem ggX6_off_X6_ticksOf : GoodIn wsX6_off wsX6_ticksOf := goodIn_r _ [27] (by decide +kernel) (by decide +kernel)
set_option maxRecDepth 20000 in
theorem gX6_off_X6_ticksOf : GoodIn wsX6_off (va_wsS RX6 77 yX6_ticksOf wsX6_ticksOf) := goodIn_app (goodIn_of _ (by decide +kernel)) ggX6_off_X6_ticksOf
set_option maxRecDepth 20000 in
theorem ggX6_off_X6_told : GoodIn wsX6_off wsX6_told := goodIn_r _ [45, 40, 41, 11, 42] (by decide +kernel) (by decide +kernel)
set_option maxRecDepth 20000 in
theorem gX6_off_X6_told : GoodIn wsX6_off (va_wsS RX6 122 yX6_told wsX6_told) := goodIn_app (goodIn_of _ (by decide +kernel)) ggX6_off_X6_told
theorem dX6_off_0 : decode cX6_off 0 = .ok (.aload_n 0, 1) := by decide +kernel
theorem dX6_off_1 : decode cX6_off 1 = .ok (.iload_n 1, 1) := by decide +kernel
theorem dX6_off_2 : decode cX6_off 2 = .ok (.invokevirtual 74, 3) := by decide +kernel
theorem dX6_off_5 : decode cX6_off 5 = .ok (.ifCond .ne 7, 3) := by decide +kernel
theorem dX6_off_8 : decode cX6_off 8 = .ok (.ldc2_w 116, 3) := by decide +kernel
theorem dX6_off_11 : decode cX6_off 11 = .ok (.lreturn, 1) := by decide +kernel
theorem dX6_off_12 : decode cX6_off 12 = .ok (.iload_n 2, 1) := by decide +kernel
theorem dX6_off_13 : decode cX6_off 13 = .ok (.iconst 0, 1) := by decide +kernel
theorem dX6_off_14 : decode cX6_off 14 = .ok (.iconst 1, 1) := by decide +kernel
theorem dX6_off_15 : decode cX6_off 15 = .ok (.invokestatic 60, 3) := by decide +kernel
theorem dX6_off_18 : decode cX6_off 18 = .ok (.ifCond .ne 7, 3) := by decide +kernel
theorem dX6_off_21 : decode cX6_off 21 = .ok (.ldc2_w 118, 3) := by decide +kernel
theorem dX6_off_24 : decode cX6_off 24 = .ok (.lreturn, 1) := by decide +kernel
theorem dX6_off_25 : decode cX6_off 25 = .ok (.aload_n 0, 1) := by decide +kernel
theorem dX6_off_26 : decode cX6_off 26 = .ok (.aload_n 0, 1) := by decide +kernel
theorem dX6_off_27 : decode cX6_off 27 = .ok (.getfield 20, 3) := by decide +kernel
theorem dX6_off_30 : decode cX6_off 30 = .ok (.iconst 5, 1) := by decide +kernel
theorem dX6_off_31 : decode cX6_off 31 = .ok (.iload_n 1, 1) := by decide +kernel
theorem dX6_off_32 : decode cX6_off 32 = .ok (.imul, 1) := by decide +kernel
theorem dX6_off_33 : decode cX6_off 33 = .ok (.iaload, 1) := by decide +kernel
theorem dX6_off_34 : decode cX6_off 34 = .ok (.invokevirtual 102, 3) := by decide +kernel
theorem dX6_off_37 : decode cX6_off 37 = .ok (.aload_n 0, 1) := by decide +kernel
theorem dX6_off_38 : decode cX6_off 38 = .ok (.getfield 20, 3) := by decide +kernel
theorem dX6_off_41 : decode cX6_off 41 = .ok (.iconst 5, 1) := by decide +kernel
theorem dX6_off_42 : decode cX6_off 42 = .ok (.iload_n 1, 1) := by decide +kernel
theorem dX6_off_43 : decode cX6_off 43 = .ok (.imul, 1) := by decide +kernel
theorem dX6_off_44 : decode cX6_off 44 = .ok (.iconst 2, 1) := by decide +kernel
theorem dX6_off_45 : decode cX6_off 45 = .ok (.iadd, 1) := by decide +kernel
theorem dX6_off_46 : decode cX6_off 46 = .ok (.iaload, 1) := by decide +kernel
theorem dX6_off_47 : decode cX6_off 47 = .ok (.istore_n 3, 1) := by decide +kernel
theorem dX6_off_48 : decode cX6_off 48 = .ok (.aload_n 0, 1) := by decide +kernel
theorem dX6_off_49 : decode cX6_off 49 = .ok (.getfield 23, 3) := by decide +kernel
theorem dX6_off_52 : decode cX6_off 52 = .ok (.iload_n 1, 1) := by decide +kernel
theorem dX6_off_53 : decode cX6_off 53 = .ok (.iaload, 1) := by decide +kernel
theorem dX6_off_54 : decode cX6_off 54 = .ok (.ifCond .ne 7, 3) := by decide +kernel
theorem dX6_off_57 : decode cX6_off 57 = .ok (.ldc2_w 120, 3) := by decide +kernel
theorem dX6_off_60 : decode cX6_off 60 = .ok (.lreturn, 1) := by decide +kernel
theorem dX6_off_61 : decode cX6_off 61 = .ok (.aload_n 0, 1) := by decide +kernel
theorem dX6_off_62 : decode cX6_off 62 = .ok (.getfield 26, 3) := by decide +kernel
theorem dX6_off_65 : decode cX6_off 65 = .ok (.iload_n 3, 1) := by decide +kernel
theorem dX6_off_66 : decode cX6_off 66 = .ok (.laload, 1) := by decide +kernel
theorem dX6_off_67 : decode cX6_off 67 = .ok (.aload_n 0, 1) := by decide +kernel
theorem dX6_off_68 : decode cX6_off 68 = .ok (.getfield 20, 3) := by decide +kernel
theorem dX6_off_71 : decode cX6_off 71 = .ok (.iconst 5, 1) := by decide +kernel
theorem dX6_off_72 : decode cX6_off 72 = .ok (.iload_n 1, 1) := by decide +kernel
theorem dX6_off_73 : decode cX6_off 73 = .ok (.imul, 1) := by decide +kernel
theorem dX6_off_74 : decode cX6_off 74 = .ok (.iconst 1, 1) := by decide +kernel
theorem dX6_off_75 : decode cX6_off 75 = .ok (.iadd, 1) := by decide +kernel
theorem dX6_off_76 : decode cX6_off 76 = .ok (.iaload, 1) := by decide +kernel
theorem dX6_off_77 : decode cX6_off 77 = .ok (.invokestatic 77, 3) := by decide +kernel
theorem dX6_off_80 : decode cX6_off 80 = .ok (.i2l, 1) := by decide +kernel
theorem dX6_off_81 : decode cX6_off 81 = .ok (.lmul, 1) := by decide +kernel
theorem dX6_off_82 : decode cX6_off 82 = .ok (.aload_n 0, 1) := by decide +kernel
theorem dX6_off_83 : decode cX6_off 83 = .ok (.getfield 30, 3) := by decide +kernel
theorem dX6_off_86 : decode cX6_off 86 = .ok (.iload_n 3, 1) := by decide +kernel
theorem dX6_off_87 : decode cX6_off 87 = .ok (.laload, 1) := by decide +kernel
theorem dX6_off_88 : decode cX6_off 88 = .ok (.aload_n 0, 1) := by decide +kernel
theorem dX6_off_89 : decode cX6_off 89 = .ok (.getfield 20, 3) := by decide +kernel
theorem dX6_off_92 : decode cX6_off 92 = .ok (.iconst 5, 1) := by decide +kernel
theorem dX6_off_93 : decode cX6_off 93 = .ok (.iload_n 1, 1) := by decide +kernel
theorem dX6_off_94 : decode cX6_off 94 = .ok (.imul, 1) := by decide +kernel
theorem dX6_off_95 : decode cX6_off 95 = .ok (.iconst 3, 1) := by decide +kernel
theorem dX6_off_96 : decode cX6_off 96 = .ok (.iadd, 1) := by decide +kernel
theorem dX6_off_97 : decode cX6_off 97 = .ok (.iaload, 1) := by decide +kernel
theorem dX6_off_98 : decode cX6_off 98 = .ok (.invokestatic 77, 3) := by decide +kernel
theorem dX6_off_101 : decode cX6_off 101 = .ok (.i2l, 1) := by decide +kernel
theorem dX6_off_102 : decode cX6_off 102 = .ok (.lmul, 1) := by decide +kernel
theorem dX6_off_103 : decode cX6_off 103 = .ok (.iload_n 2, 1) := by decide +kernel
theorem dX6_off_104 : decode cX6_off 104 = .ok (.invokestatic 122, 3) := by decide +kernel
theorem dX6_off_107 : decode cX6_off 107 = .ok (.lreturn, 1) := by decide +kernel
set_option maxRecDepth 20000 in
theorem ggX6_ring_X6_isTie : GoodIn wsX6_ring wsX6_isTie := goodIn_r _ [8, 9, 10, 11, 7, 12, 40, 41, 42, 43, 44, 45, 46, 47, 48, 49, 50, 51, 52, 53, 54, 55, 56, 57, 58] (by decide +kernel) (by decide +kernel)
set_option maxRecDepth 20000 in
theorem gX6_ring_X6_isTie : GoodIn wsX6_ring (wsV RX6 74 RX6 yX6_isTie wsX6_isTie) := goodIn_app (goodIn_of _ (by decide +kernel)) ggX6_ring_X6_isTie
set_option maxRecDepth 20000 in
theorem ggX6_ring_X6_spreadAll : GoodIn wsX6_ring wsX6_spreadAll := goodIn_r _ [16, 9, 17, 18, 19, 7, 20, 1, 2, 21, 22, 23, 24, 25, 26, 27, 28, 29, 3, 30, 31, 32, 33, 34, 35, 36, 37, 38, 39, 40, 41, 42, 43, 44, 45, 46, 47, 48, 49, 50, 51, 52, 53, 54, 55, 56, 57, 58] (by decide +kernel) (by decide +kernel)
set_option maxRecDepth 20000 in
theorem gX6_ring_X6_spreadAll : GoodIn wsX6_ring (wsV RX6 102 RX6 yX6_spreadAll wsX6_spreadAll) := goodIn_app (goodIn_of _ (by decide +kernel)) ggX6_ring_X6_spreadAll
theorem dX6_ring_0 : decode cX6_ring 0 = .ok (.aload_n 0, 1) := by decide +kernel
theorem dX6_ring_1 : decode cX6_ring 1 = .ok (.iload_n 1, 1) := by decide +kernel
theorem dX6_ring_2 : decode cX6_ring 2 = .ok (.invokevirtual 74, 3) := by decide +kernel
theorem dX6_ring_5 : decode cX6_ring 5 = .ok (.ifCond .ne 5, 3) := by decide +kernel
theorem dX6_ring_8 : decode cX6_ring 8 = .ok (.iconst (-1), 1) := by decide +kernel
theorem dX6_ring_9 : decode cX6_ring 9 = .ok (.ireturn, 1) := by decide +kernel
theorem dX6_ring_10 : decode cX6_ring 10 = .ok (.aload_n 0, 1) := by decide +kernel
theorem dX6_ring_11 : decode cX6_ring 11 = .ok (.aload_n 0, 1) := by decide +kernel
theorem dX6_ring_12 : decode cX6_ring 12 = .ok (.getfield 20, 3) := by decide +kernel
theorem dX6_ring_15 : decode cX6_ring 15 = .ok (.iconst 5, 1) := by decide +kernel
theorem dX6_ring_16 : decode cX6_ring 16 = .ok (.iload_n 1, 1) := by decide +kernel
theorem dX6_ring_17 : decode cX6_ring 17 = .ok (.imul, 1) := by decide +kernel
theorem dX6_ring_18 : decode cX6_ring 18 = .ok (.iaload, 1) := by decide +kernel
theorem dX6_ring_19 : decode cX6_ring 19 = .ok (.invokevirtual 102, 3) := by decide +kernel
theorem dX6_ring_22 : decode cX6_ring 22 = .ok (.aload_n 0, 1) := by decide +kernel
theorem dX6_ring_23 : decode cX6_ring 23 = .ok (.getfield 23, 3) := by decide +kernel
theorem dX6_ring_26 : decode cX6_ring 26 = .ok (.iload_n 1, 1) := by decide +kernel
theorem dX6_ring_27 : decode cX6_ring 27 = .ok (.iaload, 1) := by decide +kernel
theorem dX6_ring_28 : decode cX6_ring 28 = .ok (.ifCond .ne 8, 3) := by decide +kernel
theorem dX6_ring_31 : decode cX6_ring 31 = .ok (.bipush (-9), 2) := by decide +kernel
theorem dX6_ring_33 : decode cX6_ring 33 = .ok (.goto 22, 3) := by decide +kernel
theorem dX6_ring_36 : decode cX6_ring 36 = .ok (.aload_n 0, 1) := by decide +kernel
theorem dX6_ring_37 : decode cX6_ring 37 = .ok (.getfield 33, 3) := by decide +kernel
theorem dX6_ring_40 : decode cX6_ring 40 = .ok (.aload_n 0, 1) := by decide +kernel
theorem dX6_ring_41 : decode cX6_ring 41 = .ok (.getfield 20, 3) := by decide +kernel
theorem dX6_ring_44 : decode cX6_ring 44 = .ok (.iconst 5, 1) := by decide +kernel
theorem dX6_ring_45 : decode cX6_ring 45 = .ok (.iload_n 1, 1) := by decide +kernel
theorem dX6_ring_46 : decode cX6_ring 46 = .ok (.imul, 1) := by decide +kernel
theorem dX6_ring_47 : decode cX6_ring 47 = .ok (.iconst 2, 1) := by decide +kernel
theorem dX6_ring_48 : decode cX6_ring 48 = .ok (.iadd, 1) := by decide +kernel
theorem dX6_ring_49 : decode cX6_ring 49 = .ok (.iaload, 1) := by decide +kernel
theorem dX6_ring_50 : decode cX6_ring 50 = .ok (.iaload, 1) := by decide +kernel
theorem dX6_ring_51 : decode cX6_ring 51 = .ok (.iconst 1, 1) := by decide +kernel
theorem dX6_ring_52 : decode cX6_ring 52 = .ok (.iload_n 1, 1) := by decide +kernel
theorem dX6_ring_53 : decode cX6_ring 53 = .ok (.ishl, 1) := by decide +kernel
theorem dX6_ring_54 : decode cX6_ring 54 = .ok (.ior, 1) := by decide +kernel
theorem dX6_ring_55 : decode cX6_ring 55 = .ok (.ireturn, 1) := by decide +kernel
theorem dX6_placeOf_0 : decode cX6_placeOf 0 = .ok (.iconst 0, 1) := by decide +kernel
theorem dX6_placeOf_1 : decode cX6_placeOf 1 = .ok (.istore_n 2, 1) := by decide +kernel
theorem dX6_placeOf_2 : decode cX6_placeOf 2 = .ok (.iload_n 2, 1) := by decide +kernel
theorem dX6_placeOf_3 : decode cX6_placeOf 3 = .ok (.aload_n 0, 1) := by decide +kernel
theorem dX6_placeOf_4 : decode cX6_placeOf 4 = .ok (.getfield 42, 3) := by decide +kernel
theorem dX6_placeOf_7 : decode cX6_placeOf 7 = .ok (.if_icmp .ge 21, 3) := by decide +kernel
theorem dX6_placeOf_10 : decode cX6_placeOf 10 = .ok (.aload_n 0, 1) := by decide +kernel
theorem dX6_placeOf_11 : decode cX6_placeOf 11 = .ok (.getfield 45, 3) := by decide +kernel
theorem dX6_placeOf_14 : decode cX6_placeOf 14 = .ok (.iload_n 2, 1) := by decide +kernel
theorem dX6_placeOf_15 : decode cX6_placeOf 15 = .ok (.iaload, 1) := by decide +kernel
theorem dX6_placeOf_16 : decode cX6_placeOf 16 = .ok (.iload_n 1, 1) := by decide +kernel
theorem dX6_placeOf_17 : decode cX6_placeOf 17 = .ok (.if_icmp .ne 5, 3) := by decide +kernel
theorem dX6_placeOf_20 : decode cX6_placeOf 20 = .ok (.iload_n 2, 1) := by decide +kernel
theorem dX6_placeOf_21 : decode cX6_placeOf 21 = .ok (.ireturn, 1) := by decide +kernel
theorem dX6_placeOf_22 : decode cX6_placeOf 22 = .ok (.iinc 2 1, 3) := by decide +kernel
theorem dX6_placeOf_25 : decode cX6_placeOf 25 = .ok (.goto (-23), 3) := by decide +kernel
theorem dX6_placeOf_28 : decode cX6_placeOf 28 = .ok (.bipush (-9), 2) := by decide +kernel
theorem dX6_placeOf_30 : decode cX6_placeOf 30 = .ok (.ireturn, 1) := by decide +kernel
theorem dX6_takesMark_0 : decode cX6_takesMark 0 = .ok (.aload_n 0, 1) := by decide +kernel
theorem dX6_takesMark_1 : decode cX6_takesMark 1 = .ok (.getfield 42, 3) := by decide +kernel
theorem dX6_takesMark_4 : decode cX6_takesMark 4 = .ok (.istore_n 2, 1) := by decide +kernel
theorem dX6_takesMark_5 : decode cX6_takesMark 5 = .ok (.iload_n 2, 1) := by decide +kernel
theorem dX6_takesMark_6 : decode cX6_takesMark 6 = .ok (.ifCond .le 35, 3) := by decide +kernel
theorem dX6_takesMark_9 : decode cX6_takesMark 9 = .ok (.aload_n 0, 1) := by decide +kernel
theorem dX6_takesMark_10 : decode cX6_takesMark 10 = .ok (.getfield 45, 3) := by decide +kernel
theorem dX6_takesMark_13 : decode cX6_takesMark 13 = .ok (.iload_n 2, 1) := by decide +kernel
theorem dX6_takesMark_14 : decode cX6_takesMark 14 = .ok (.iconst 1, 1) := by decide +kernel
theorem dX6_takesMark_15 : decode cX6_takesMark 15 = .ok (.isub, 1) := by decide +kernel
theorem dX6_takesMark_16 : decode cX6_takesMark 16 = .ok (.iaload, 1) := by decide +kernel
theorem dX6_takesMark_17 : decode cX6_takesMark 17 = .ok (.iload_n 1, 1) := by decide +kernel
theorem dX6_takesMark_18 : decode cX6_takesMark 18 = .ok (.if_icmp .le 23, 3) := by decide +kernel
theorem dX6_takesMark_21 : decode cX6_takesMark 21 = .ok (.aload_n 0, 1) := by decide +kernel
theorem dX6_takesMark_22 : decode cX6_takesMark 22 = .ok (.getfield 45, 3) := by decide +kernel
theorem dX6_takesMark_25 : decode cX6_takesMark 25 = .ok (.iload_n 2, 1) := by decide +kernel
theorem dX6_takesMark_26 : decode cX6_takesMark 26 = .ok (.aload_n 0, 1) := by decide +kernel
theorem dX6_takesMark_27 : decode cX6_takesMark 27 = .ok (.getfield 45, 3) := by decide +kernel
theorem dX6_takesMark_30 : decode cX6_takesMark 30 = .ok (.iload_n 2, 1) := by decide +kernel
theorem dX6_takesMark_31 : decode cX6_takesMark 31 = .ok (.iconst 1, 1) := by decide +kernel
theorem dX6_takesMark_32 : decode cX6_takesMark 32 = .ok (.isub, 1) := by decide +kernel
theorem dX6_takesMark_33 : decode cX6_takesMark 33 = .ok (.iaload, 1) := by decide +kernel
theorem dX6_takesMark_34 : decode cX6_takesMark 34 = .ok (.iastore, 1) := by decide +kernel
theorem dX6_takesMark_35 : decode cX6_takesMark 35 = .ok (.iinc 2 (-1), 3) := by decide +kernel
theorem dX6_takesMark_38 : decode cX6_takesMark 38 = .ok (.goto (-33), 3) := by decide +kernel
theorem dX6_takesMark_41 : decode cX6_takesMark 41 = .ok (.aload_n 0, 1) := by decide +kernel
theorem dX6_takesMark_42 : decode cX6_takesMark 42 = .ok (.getfield 45, 3) := by decide +kernel
theorem dX6_takesMark_45 : decode cX6_takesMark 45 = .ok (.iload_n 2, 1) := by decide +kernel
theorem dX6_takesMark_46 : decode cX6_takesMark 46 = .ok (.iload_n 1, 1) := by decide +kernel
theorem dX6_takesMark_47 : decode cX6_takesMark 47 = .ok (.iastore, 1) := by decide +kernel
theorem dX6_takesMark_48 : decode cX6_takesMark 48 = .ok (.aload_n 0, 1) := by decide +kernel
theorem dX6_takesMark_49 : decode cX6_takesMark 49 = .ok (.dup, 1) := by decide +kernel
theorem dX6_takesMark_50 : decode cX6_takesMark 50 = .ok (.getfield 42, 3) := by decide +kernel
theorem dX6_takesMark_53 : decode cX6_takesMark 53 = .ok (.iconst 1, 1) := by decide +kernel
theorem dX6_takesMark_54 : decode cX6_takesMark 54 = .ok (.iadd, 1) := by decide +kernel
theorem dX6_takesMark_55 : decode cX6_takesMark 55 = .ok (.putfield 42, 3) := by decide +kernel
theorem dX6_takesMark_58 : decode cX6_takesMark 58 = .ok (.return_, 1) := by decide +kernel
theorem dX6_losesMark_0 : decode cX6_losesMark 0 = .ok (.aload_n 0, 1) := by decide +kernel
theorem dX6_losesMark_1 : decode cX6_losesMark 1 = .ok (.dup, 1) := by decide +kernel
theorem dX6_losesMark_2 : decode cX6_losesMark 2 = .ok (.getfield 42, 3) := by decide +kernel
theorem dX6_losesMark_5 : decode cX6_losesMark 5 = .ok (.iconst 1, 1) := by decide +kernel
theorem dX6_losesMark_6 : decode cX6_losesMark 6 = .ok (.isub, 1) := by decide +kernel
theorem dX6_losesMark_7 : decode cX6_losesMark 7 = .ok (.putfield 42, 3) := by decide +kernel
theorem dX6_losesMark_10 : decode cX6_losesMark 10 = .ok (.iload_n 1, 1) := by decide +kernel
theorem dX6_losesMark_11 : decode cX6_losesMark 11 = .ok (.istore_n 2, 1) := by decide +kernel
theorem dX6_losesMark_12 : decode cX6_losesMark 12 = .ok (.iload_n 2, 1) := by decide +kernel
theorem dX6_losesMark_13 : decode cX6_losesMark 13 = .ok (.aload_n 0, 1) := by decide +kernel
theorem dX6_losesMark_14 : decode cX6_losesMark 14 = .ok (.getfield 42, 3) := by decide +kernel
theorem dX6_losesMark_17 : decode cX6_losesMark 17 = .ok (.if_icmp .ge 23, 3) := by decide +kernel
theorem dX6_losesMark_20 : decode cX6_losesMark 20 = .ok (.aload_n 0, 1) := by decide +kernel
theorem dX6_losesMark_21 : decode cX6_losesMark 21 = .ok (.getfield 45, 3) := by decide +kernel
theorem dX6_losesMark_24 : decode cX6_losesMark 24 = .ok (.iload_n 2, 1) := by decide +kernel
theorem dX6_losesMark_25 : decode cX6_losesMark 25 = .ok (.aload_n 0, 1) := by decide +kernel
theorem dX6_losesMark_26 : decode cX6_losesMark 26 = .ok (.getfield 45, 3) := by decide +kernel
theorem dX6_losesMark_29 : decode cX6_losesMark 29 = .ok (.iload_n 2, 1) := by decide +kernel
theorem dX6_losesMark_30 : decode cX6_losesMark 30 = .ok (.iconst 1, 1) := by decide +kernel
theorem dX6_losesMark_31 : decode cX6_losesMark 31 = .ok (.iadd, 1) := by decide +kernel
theorem dX6_losesMark_32 : decode cX6_losesMark 32 = .ok (.iaload, 1) := by decide +kernel
theorem dX6_losesMark_33 : decode cX6_losesMark 33 = .ok (.iastore, 1) := by decide +kernel
theorem dX6_losesMark_34 : decode cX6_losesMark 34 = .ok (.iinc 2 1, 3) := by decide +kernel
theorem dX6_losesMark_37 : decode cX6_losesMark 37 = .ok (.goto (-25), 3) := by decide +kernel
theorem dX6_losesMark_40 : decode cX6_losesMark 40 = .ok (.return_, 1) := by decide +kernel
set_option maxRecDepth 20000 in
theorem ggX6_mark_X6_isIn : GoodIn wsX6_mark wsX6_isIn := goodIn_r _ [5] (by decide +kernel) (by decide +kernel)
set_option maxRecDepth 20000 in
theorem gX6_mark_X6_isIn : GoodIn wsX6_mark (va_wsS RX6 60 yX6_isIn wsX6_isIn) := goodIn_app (goodIn_of _ (by decide +kernel)) ggX6_mark_X6_isIn
set_option maxRecDepth 20000 in
theorem ggX6_mark_X6_placeOf : GoodIn wsX6_mark wsX6_placeOf := goodIn_r _ [9, 1, 10, 19, 20, 21, 22, 23, 24, 25, 26, 27, 28, 29, 30, 31, 32, 33, 34, 35, 36, 37] (by decide +kernel) (by decide +kernel)
set_option maxRecDepth 20000 in
theorem gX6_mark_X6_placeOf : GoodIn wsX6_mark (wsV RX6 99 RX6 yX6_placeOf wsX6_placeOf) := goodIn_app (goodIn_of _ (by decide +kernel)) ggX6_mark_X6_placeOf
set_option maxRecDepth 20000 in
theorem ggX6_mark_X6_takesMark : GoodIn wsX6_mark wsX6_takesMark := goodIn_r _ [14, 1, 10, 19, 20, 21, 22, 23, 24, 25, 26, 27, 28, 29, 30, 31, 32, 33, 34, 35, 36, 37] (by decide +kernel) (by decide +kernel)
set_option maxRecDepth 20000 in
theorem gX6_mark_X6_takesMark : GoodIn wsX6_mark (wsV RX6 126 RX6 yX6_takesMark wsX6_takesMark) := goodIn_app (goodIn_of _ (by decide +kernel)) ggX6_mark_X6_takesMark
set_option maxRecDepth 20000 in
theorem ggX6_mark_X6_losesMark : GoodIn wsX6_mark wsX6_losesMark := goodIn_r _ [18, 1, 10, 19, 20, 21, 22, 23, 24, 25, 26, 27, 28, 29, 30, 31, 32, 33, 34, 35, 36, 37] (by decide +kernel) (by decide +kernel)
set_option maxRecDepth 20000 in
theorem gX6_mark_X6_losesMark : GoodIn wsX6_mark (wsV RX6 129 RX6 yX6_losesMark wsX6_losesMark) := goodIn_app (goodIn_of _ (by decide +kernel)) ggX6_mark_X6_losesMark
theorem dX6_mark_0 : decode cX6_mark 0 = .ok (.iload_n 1, 1) := by decide +kernel
theorem dX6_mark_1 : decode cX6_mark 1 = .ok (.bipush 20, 2) := by decide +kernel
theorem dX6_mark_3 : decode cX6_mark 3 = .ok (.sipush 400, 3) := by decide +kernel
theorem dX6_mark_6 : decode cX6_mark 6 = .ok (.invokestatic 60, 3) := by decide +kernel
theorem dX6_mark_9 : decode cX6_mark 9 = .ok (.ifCond .ne 6, 3) := by decide +kernel
theorem dX6_mark_12 : decode cX6_mark 12 = .ok (.bipush (-2), 2) := by decide +kernel
theorem dX6_mark_14 : decode cX6_mark 14 = .ok (.ireturn, 1) := by decide +kernel
theorem dX6_mark_15 : decode cX6_mark 15 = .ok (.aload_n 0, 1) := by decide +kernel
theorem dX6_mark_16 : decode cX6_mark 16 = .ok (.iload_n 1, 1) := by decide +kernel
theorem dX6_mark_17 : decode cX6_mark 17 = .ok (.invokevirtual 99, 3) := by decide +kernel
theorem dX6_mark_20 : decode cX6_mark 20 = .ok (.istore_n 3, 1) := by decide +kernel
theorem dX6_mark_21 : decode cX6_mark 21 = .ok (.iload_n 2, 1) := by decide +kernel
theorem dX6_mark_22 : decode cX6_mark 22 = .ok (.iload_n 3, 1) := by decide +kernel
theorem dX6_mark_23 : decode cX6_mark 23 = .ok (.bipush (-9), 2) := by decide +kernel
theorem dX6_mark_25 : decode cX6_mark 25 = .ok (.if_icmp .eq 7, 3) := by decide +kernel
theorem dX6_mark_28 : decode cX6_mark 28 = .ok (.iconst 1, 1) := by decide +kernel
theorem dX6_mark_29 : decode cX6_mark 29 = .ok (.goto 4, 3) := by decide +kernel
theorem dX6_mark_32 : decode cX6_mark 32 = .ok (.iconst 0, 1) := by decide +kernel
theorem dX6_mark_33 : decode cX6_mark 33 = .ok (.if_icmp .ne 5, 3) := by decide +kernel
theorem dX6_mark_36 : decode cX6_mark 36 = .ok (.iconst 0, 1) := by decide +kernel
theorem dX6_mark_37 : decode cX6_mark 37 = .ok (.ireturn, 1) := by decide +kernel
theorem dX6_mark_38 : decode cX6_mark 38 = .ok (.iload_n 2, 1) := by decide +kernel
theorem dX6_mark_39 : decode cX6_mark 39 = .ok (.ifCond .eq 15, 3) := by decide +kernel
theorem dX6_mark_42 : decode cX6_mark 42 = .ok (.aload_n 0, 1) := by decide +kernel
theorem dX6_mark_43 : decode cX6_mark 43 = .ok (.getfield 42, 3) := by decide +kernel
theorem dX6_mark_46 : decode cX6_mark 46 = .ok (.bipush 16, 2) := by decide +kernel
theorem dX6_mark_48 : decode cX6_mark 48 = .ok (.if_icmp .ne 6, 3) := by decide +kernel
theorem dX6_mark_51 : decode cX6_mark 51 = .ok (.bipush (-4), 2) := by decide +kernel
theorem dX6_mark_53 : decode cX6_mark 53 = .ok (.ireturn, 1) := by decide +kernel
theorem dX6_mark_54 : decode cX6_mark 54 = .ok (.iload_n 2, 1) := by decide +kernel
theorem dX6_mark_55 : decode cX6_mark 55 = .ok (.ifCond .eq 11, 3) := by decide +kernel
theorem dX6_mark_58 : decode cX6_mark 58 = .ok (.aload_n 0, 1) := by decide +kernel
theorem dX6_mark_59 : decode cX6_mark 59 = .ok (.iload_n 1, 1) := by decide +kernel
theorem dX6_mark_60 : decode cX6_mark 60 = .ok (.invokevirtual 126, 3) := by decide +kernel
theorem dX6_mark_63 : decode cX6_mark 63 = .ok (.goto 8, 3) := by decide +kernel
theorem dX6_mark_66 : decode cX6_mark 66 = .ok (.aload_n 0, 1) := by decide +kernel
theorem dX6_mark_67 : decode cX6_mark 67 = .ok (.iload_n 3, 1) := by decide +kernel
theorem dX6_mark_68 : decode cX6_mark 68 = .ok (.invokevirtual 129, 3) := by decide +kernel
theorem dX6_mark_71 : decode cX6_mark 71 = .ok (.iconst 1, 1) := by decide +kernel
theorem dX6_mark_72 : decode cX6_mark 72 = .ok (.ireturn, 1) := by decide +kernel
set_option maxRecDepth 20000 in
theorem ggX6_markAt_X6_isIn : GoodIn wsX6_markAt wsX6_isIn := goodIn_r _ [6] (by decide +kernel) (by decide +kernel)
set_option maxRecDepth 20000 in
theorem gX6_markAt_X6_isIn : GoodIn wsX6_markAt (va_wsS RX6 60 yX6_isIn wsX6_isIn) := goodIn_app (goodIn_of _ (by decide +kernel)) ggX6_markAt_X6_isIn
theorem dX6_markAt_0 : decode cX6_markAt 0 = .ok (.iload_n 1, 1) := by decide +kernel
theorem dX6_markAt_1 : decode cX6_markAt 1 = .ok (.iconst 0, 1) := by decide +kernel
theorem dX6_markAt_2 : decode cX6_markAt 2 = .ok (.bipush 15, 2) := by decide +kernel
theorem dX6_markAt_4 : decode cX6_markAt 4 = .ok (.invokestatic 60, 3) := by decide +kernel
theorem dX6_markAt_7 : decode cX6_markAt 7 = .ok (.ifCond .ne 6, 3) := by decide +kernel
theorem dX6_markAt_10 : decode cX6_markAt 10 = .ok (.bipush (-2), 2) := by decide +kernel
theorem dX6_markAt_12 : decode cX6_markAt 12 = .ok (.ireturn, 1) := by decide +kernel
theorem dX6_markAt_13 : decode cX6_markAt 13 = .ok (.iload_n 1, 1) := by decide +kernel
theorem dX6_markAt_14 : decode cX6_markAt 14 = .ok (.aload_n 0, 1) := by decide +kernel
theorem dX6_markAt_15 : decode cX6_markAt 15 = .ok (.getfield 42, 3) := by decide +kernel
theorem dX6_markAt_18 : decode cX6_markAt 18 = .ok (.if_icmp .ge 12, 3) := by decide +kernel
theorem dX6_markAt_21 : decode cX6_markAt 21 = .ok (.aload_n 0, 1) := by decide +kernel
theorem dX6_markAt_22 : decode cX6_markAt 22 = .ok (.getfield 45, 3) := by decide +kernel
theorem dX6_markAt_25 : decode cX6_markAt 25 = .ok (.iload_n 1, 1) := by decide +kernel
theorem dX6_markAt_26 : decode cX6_markAt 26 = .ok (.iaload, 1) := by decide +kernel
theorem dX6_markAt_27 : decode cX6_markAt 27 = .ok (.goto 5, 3) := by decide +kernel
theorem dX6_markAt_30 : decode cX6_markAt 30 = .ok (.bipush (-9), 2) := by decide +kernel
theorem dX6_markAt_32 : decode cX6_markAt 32 = .ok (.ireturn, 1) := by decide +kernel
theorem dX6_apart_0 : decode cX6_apart 0 = .ok (.lload_n 0, 1) := by decide +kernel
theorem dX6_apart_1 : decode cX6_apart 1 = .ok (.lload_n 2, 1) := by decide +kernel
theorem dX6_apart_2 : decode cX6_apart 2 = .ok (.lcmp, 1) := by decide +kernel
theorem dX6_apart_3 : decode cX6_apart 3 = .ok (.ifCond .le 9, 3) := by decide +kernel
theorem dX6_apart_6 : decode cX6_apart 6 = .ok (.lload_n 0, 1) := by decide +kernel
theorem dX6_apart_7 : decode cX6_apart 7 = .ok (.lload_n 2, 1) := by decide +kernel
theorem dX6_apart_8 : decode cX6_apart 8 = .ok (.lsub, 1) := by decide +kernel
theorem dX6_apart_9 : decode cX6_apart 9 = .ok (.goto 6, 3) := by decide +kernel
theorem dX6_apart_12 : decode cX6_apart 12 = .ok (.lload_n 2, 1) := by decide +kernel
theorem dX6_apart_13 : decode cX6_apart 13 = .ok (.lload_n 0, 1) := by decide +kernel
theorem dX6_apart_14 : decode cX6_apart 14 = .ok (.lsub, 1) := by decide +kernel
theorem dX6_apart_15 : decode cX6_apart 15 = .ok (.lreturn, 1) := by decide +kernel
set_option maxRecDepth 20000 in
theorem ggX6_nearestTo_X6_apart : GoodIn wsX6_nearestTo wsX6_apart := goodIn_r _ [9] (by decide +kernel) (by decide +kernel)
set_option maxRecDepth 20000 in
theorem gX6_nearestTo_X6_apart : GoodIn wsX6_nearestTo (va_wsS RX6 132 yX6_apart wsX6_apart) := goodIn_app (goodIn_of _ (by decide +kernel)) ggX6_nearestTo_X6_apart
theorem dX6_nearestTo_0 : decode cX6_nearestTo 0 = .ok (.bipush (-9), 2) := by decide +kernel
theorem dX6_nearestTo_2 : decode cX6_nearestTo 2 = .ok (.istore_n 2, 1) := by decide +kernel
theorem dX6_nearestTo_3 : decode cX6_nearestTo 3 = .ok (.lconst 0, 1) := by decide +kernel
theorem dX6_nearestTo_4 : decode cX6_nearestTo 4 = .ok (.lstore_n 3, 1) := by decide +kernel
theorem dX6_nearestTo_5 : decode cX6_nearestTo 5 = .ok (.iconst 0, 1) := by decide +kernel
theorem dX6_nearestTo_6 : decode cX6_nearestTo 6 = .ok (.istore 5, 2) := by decide +kernel
theorem dX6_nearestTo_8 : decode cX6_nearestTo 8 = .ok (.iload 5, 2) := by decide +kernel
theorem dX6_nearestTo_10 : decode cX6_nearestTo 10 = .ok (.aload_n 0, 1) := by decide +kernel
theorem dX6_nearestTo_11 : decode cX6_nearestTo 11 = .ok (.getfield 42, 3) := by decide +kernel
theorem dX6_nearestTo_14 : decode cX6_nearestTo 14 = .ok (.if_icmp .ge 71, 3) := by decide +kernel
theorem dX6_nearestTo_17 : decode cX6_nearestTo 17 = .ok (.aload_n 0, 1) := by decide +kernel
theorem dX6_nearestTo_18 : decode cX6_nearestTo 18 = .ok (.getfield 26, 3) := by decide +kernel
theorem dX6_nearestTo_21 : decode cX6_nearestTo 21 = .ok (.iload_n 1, 1) := by decide +kernel
theorem dX6_nearestTo_22 : decode cX6_nearestTo 22 = .ok (.laload, 1) := by decide +kernel
theorem dX6_nearestTo_23 : decode cX6_nearestTo 23 = .ok (.lconst 0, 1) := by decide +kernel
theorem dX6_nearestTo_24 : decode cX6_nearestTo 24 = .ok (.lcmp, 1) := by decide +kernel
theorem dX6_nearestTo_25 : decode cX6_nearestTo 25 = .ok (.ifCond .le 60, 3) := by decide +kernel
theorem dX6_nearestTo_28 : decode cX6_nearestTo 28 = .ok (.aload_n 0, 1) := by decide +kernel
theorem dX6_nearestTo_29 : decode cX6_nearestTo 29 = .ok (.getfield 45, 3) := by decide +kernel
theorem dX6_nearestTo_32 : decode cX6_nearestTo 32 = .ok (.iload 5, 2) := by decide +kernel
theorem dX6_nearestTo_34 : decode cX6_nearestTo 34 = .ok (.iaload, 1) := by decide +kernel
theorem dX6_nearestTo_35 : decode cX6_nearestTo 35 = .ok (.i2l, 1) := by decide +kernel
theorem dX6_nearestTo_36 : decode cX6_nearestTo 36 = .ok (.aload_n 0, 1) := by decide +kernel
theorem dX6_nearestTo_37 : decode cX6_nearestTo 37 = .ok (.getfield 30, 3) := by decide +kernel
theorem dX6_nearestTo_40 : decode cX6_nearestTo 40 = .ok (.iload_n 1, 1) := by decide +kernel
theorem dX6_nearestTo_41 : decode cX6_nearestTo 41 = .ok (.laload, 1) := by decide +kernel
theorem dX6_nearestTo_42 : decode cX6_nearestTo 42 = .ok (.lmul, 1) := by decide +kernel
theorem dX6_nearestTo_43 : decode cX6_nearestTo 43 = .ok (.aload_n 0, 1) := by decide +kernel
theorem dX6_nearestTo_44 : decode cX6_nearestTo 44 = .ok (.getfield 16, 3) := by decide +kernel
theorem dX6_nearestTo_47 : decode cX6_nearestTo 47 = .ok (.i2l, 1) := by decide +kernel
theorem dX6_nearestTo_48 : decode cX6_nearestTo 48 = .ok (.aload_n 0, 1) := by decide +kernel
theorem dX6_nearestTo_49 : decode cX6_nearestTo 49 = .ok (.getfield 26, 3) := by decide +kernel
theorem dX6_nearestTo_52 : decode cX6_nearestTo 52 = .ok (.iload_n 1, 1) := by decide +kernel
theorem dX6_nearestTo_53 : decode cX6_nearestTo 53 = .ok (.laload, 1) := by decide +kernel
theorem dX6_nearestTo_54 : decode cX6_nearestTo 54 = .ok (.lmul, 1) := by decide +kernel
theorem dX6_nearestTo_55 : decode cX6_nearestTo 55 = .ok (.invokestatic 132, 3) := by decide +kernel
theorem dX6_nearestTo_58 : decode cX6_nearestTo 58 = .ok (.lstore 6, 2) := by decide +kernel
theorem dX6_nearestTo_60 : decode cX6_nearestTo 60 = .ok (.iload_n 2, 1) := by decide +kernel
theorem dX6_nearestTo_61 : decode cX6_nearestTo 61 = .ok (.bipush (-9), 2) := by decide +kernel
theorem dX6_nearestTo_63 : decode cX6_nearestTo 63 = .ok (.if_icmp .eq 10, 3) := by decide +kernel
theorem dX6_nearestTo_66 : decode cX6_nearestTo 66 = .ok (.lload 6, 2) := by decide +kernel
theorem dX6_nearestTo_68 : decode cX6_nearestTo 68 = .ok (.lload_n 3, 1) := by decide +kernel
theorem dX6_nearestTo_69 : decode cX6_nearestTo 69 = .ok (.lcmp, 1) := by decide +kernel
theorem dX6_nearestTo_70 : decode cX6_nearestTo 70 = .ok (.ifCond .ge 9, 3) := by decide +kernel
theorem dX6_nearestTo_73 : decode cX6_nearestTo 73 = .ok (.iload 5, 2) := by decide +kernel
theorem dX6_nearestTo_75 : decode cX6_nearestTo 75 = .ok (.istore_n 2, 1) := by decide +kernel
theorem dX6_nearestTo_76 : decode cX6_nearestTo 76 = .ok (.lload 6, 2) := by decide +kernel
theorem dX6_nearestTo_78 : decode cX6_nearestTo 78 = .ok (.lstore_n 3, 1) := by decide +kernel
theorem dX6_nearestTo_79 : decode cX6_nearestTo 79 = .ok (.iinc 5 1, 3) := by decide +kernel
theorem dX6_nearestTo_82 : decode cX6_nearestTo 82 = .ok (.goto (-74), 3) := by decide +kernel
theorem dX6_nearestTo_85 : decode cX6_nearestTo 85 = .ok (.iload_n 2, 1) := by decide +kernel
theorem dX6_nearestTo_86 : decode cX6_nearestTo 86 = .ok (.ireturn, 1) := by decide +kernel
set_option maxRecDepth 20000 in
theorem ggX6_nearest_X6_isSection : GoodIn wsX6_nearest wsX6_isSection := goodIn_r _ [6, 7, 8, 9, 5, 10, 51, 52, 53, 54, 55, 56, 57, 58, 59, 60, 61, 62, 63, 64, 65, 66, 67, 68, 69] (by decide +kernel) (by decide +kernel)
set_option maxRecDepth 20000 in
theorem gX6_nearest_X6_isSection : GoodIn wsX6_nearest (wsV RX6 67 RX6 yX6_isSection wsX6_isSection) := goodIn_app (goodIn_of _ (by decide +kernel)) ggX6_nearest_X6_isSection
set_option maxRecDepth 20000 in
theorem ggX6_nearest_X6_spreadAll : GoodIn wsX6_nearest wsX6_spreadAll := goodIn_r _ [14, 15, 16, 17, 18, 5, 19, 20, 21, 22, 23, 24, 25, 26, 27, 28, 29, 30, 31, 32, 33, 34, 35, 36, 37, 38, 39, 40, 41, 51, 52, 53, 54, 55, 56, 57, 58, 59, 60, 61, 62, 63, 64, 65, 66, 67, 68, 69] (by decide +kernel) (by decide +kernel)
set_option maxRecDepth 20000 in
theorem gX6_nearest_X6_spreadAll : GoodIn wsX6_nearest (wsV RX6 102 RX6 yX6_spreadAll wsX6_spreadAll) := goodIn_app (goodIn_of _ (by decide +kernel)) ggX6_nearest_X6_spreadAll
set_option maxRecDepth 20000 in
theorem ggX6_nearest_X6_nearestTo : GoodIn wsX6_nearest wsX6_nearestTo := goodIn_r _ [45, 46, 22, 1, 23, 47, 48, 49, 5, 50, 51, 52, 53, 54, 55, 56, 57, 58, 59, 60, 61, 62, 63, 64, 65, 66, 67, 68, 69] (by decide +kernel) (by decide +kernel)
set_option maxRecDepth 20000 in
theorem gX6_nearest_X6_nearestTo : GoodIn wsX6_nearest (wsV RX6 135 RX6 yX6_nearestTo wsX6_nearestTo) := goodIn_app (goodIn_of _ (by decide +kernel)) ggX6_nearest_X6_nearestTo
theorem dX6_nearest_0 : decode cX6_nearest 0 = .ok (.aload_n 0, 1) := by decide +kernel
theorem dX6_nearest_1 : decode cX6_nearest 1 = .ok (.iload_n 1, 1) := by decide +kernel
theorem dX6_nearest_2 : decode cX6_nearest 2 = .ok (.invokevirtual 67, 3) := by decide +kernel
theorem dX6_nearest_5 : decode cX6_nearest 5 = .ok (.ifCond .ne 5, 3) := by decide +kernel
theorem dX6_nearest_8 : decode cX6_nearest 8 = .ok (.iconst (-1), 1) := by decide +kernel
theorem dX6_nearest_9 : decode cX6_nearest 9 = .ok (.ireturn, 1) := by decide +kernel
theorem dX6_nearest_10 : decode cX6_nearest 10 = .ok (.aload_n 0, 1) := by decide +kernel
theorem dX6_nearest_11 : decode cX6_nearest 11 = .ok (.iconst 0, 1) := by decide +kernel
theorem dX6_nearest_12 : decode cX6_nearest 12 = .ok (.invokevirtual 102, 3) := by decide +kernel
theorem dX6_nearest_15 : decode cX6_nearest 15 = .ok (.aload_n 0, 1) := by decide +kernel
theorem dX6_nearest_16 : decode cX6_nearest 16 = .ok (.iload_n 1, 1) := by decide +kernel
theorem dX6_nearest_17 : decode cX6_nearest 17 = .ok (.invokevirtual 135, 3) := by decide +kernel
theorem dX6_nearest_20 : decode cX6_nearest 20 = .ok (.istore_n 2, 1) := by decide +kernel
theorem dX6_nearest_21 : decode cX6_nearest 21 = .ok (.iload_n 2, 1) := by decide +kernel
theorem dX6_nearest_22 : decode cX6_nearest 22 = .ok (.bipush (-9), 2) := by decide +kernel
theorem dX6_nearest_24 : decode cX6_nearest 24 = .ok (.if_icmp .ne 8, 3) := by decide +kernel
theorem dX6_nearest_27 : decode cX6_nearest 27 = .ok (.bipush (-9), 2) := by decide +kernel
theorem dX6_nearest_29 : decode cX6_nearest 29 = .ok (.goto 9, 3) := by decide +kernel
theorem dX6_nearest_32 : decode cX6_nearest 32 = .ok (.aload_n 0, 1) := by decide +kernel
theorem dX6_nearest_33 : decode cX6_nearest 33 = .ok (.getfield 45, 3) := by decide +kernel
theorem dX6_nearest_36 : decode cX6_nearest 36 = .ok (.iload_n 2, 1) := by decide +kernel
theorem dX6_nearest_37 : decode cX6_nearest 37 = .ok (.iaload, 1) := by decide +kernel
theorem dX6_nearest_38 : decode cX6_nearest 38 = .ok (.ireturn, 1) := by decide +kernel
set_option maxRecDepth 20000 in
theorem ggX6_away_X6_isSection : GoodIn wsX6_away wsX6_isSection := goodIn_r _ [12, 13, 14, 15, 11, 16, 57, 58, 59, 60, 61, 62, 63, 64, 65, 66, 67, 68, 69, 70, 71, 72, 73, 74, 75] (by decide +kernel) (by decide +kernel)
set_option maxRecDepth 20000 in
theorem gX6_away_X6_isSection : GoodIn wsX6_away (wsV RX6 67 RX6 yX6_isSection wsX6_isSection) := goodIn_app (goodIn_of _ (by decide +kernel)) ggX6_away_X6_isSection
set_option maxRecDepth 20000 in
theorem ggX6_away_X6_isIn : GoodIn wsX6_away wsX6_isIn := goodIn_r _ [16] (by decide +kernel) (by decide +kernel)
set_option maxRecDepth 20000 in
theorem gX6_away_X6_isIn : GoodIn wsX6_away (va_wsS RX6 60 yX6_isIn wsX6_isIn) := goodIn_app (goodIn_of _ (by decide +kernel)) ggX6_away_X6_isIn
set_option maxRecDepth 20000 in
theorem ggX6_away_X6_spreadAll : GoodIn wsX6_away wsX6_spreadAll := goodIn_r _ [20, 21, 22, 23, 24, 11, 25, 26, 27, 7, 5, 28, 29, 30, 31, 32, 33, 34, 35, 36, 37, 38, 39, 40, 41, 42, 43, 44, 45, 57, 58, 59, 60, 61, 62, 63, 64, 65, 66, 67, 68, 69, 70, 71, 72, 73, 74, 75] (by decide +kernel) (by decide +kernel)
set_option maxRecDepth 20000 in
theorem gX6_away_X6_spreadAll : GoodIn wsX6_away (wsV RX6 102 RX6 yX6_spreadAll wsX6_spreadAll) := goodIn_app (goodIn_of _ (by decide +kernel)) ggX6_away_X6_spreadAll
set_option maxRecDepth 20000 in
theorem ggX6_away_X6_nearestTo : GoodIn wsX6_away wsX6_nearestTo := goodIn_r _ [49, 50, 7, 4, 5, 6, 51, 52, 11, 53, 57, 58, 59, 60, 61, 62, 63, 64, 65, 66, 67, 68, 69, 70, 71, 72, 73, 74, 75] (by decide +kernel) (by decide +kernel)
set_option maxRecDepth 20000 in
theorem gX6_away_X6_nearestTo : GoodIn wsX6_away (wsV RX6 135 RX6 yX6_nearestTo wsX6_nearestTo) := goodIn_app (goodIn_of _ (by decide +kernel)) ggX6_away_X6_nearestTo
set_option maxRecDepth 20000 in
theorem ggX6_away_X6_apart : GoodIn wsX6_away wsX6_apart := goodIn_r _ [53] (by decide +kernel) (by decide +kernel)
set_option maxRecDepth 20000 in
theorem gX6_away_X6_apart : GoodIn wsX6_away (va_wsS RX6 132 yX6_apart wsX6_apart) := goodIn_app (goodIn_of _ (by decide +kernel)) ggX6_away_X6_apart
set_option maxRecDepth 20000 in
theorem ggX6_away_X6_told : GoodIn wsX6_away wsX6_told := goodIn_r _ [56, 43, 44, 11, 45] (by decide +kernel) (by decide +kernel)
set_option maxRecDepth 20000 in
theorem gX6_away_X6_told : GoodIn wsX6_away (va_wsS RX6 122 yX6_told wsX6_told) := goodIn_app (goodIn_of _ (by decide +kernel)) ggX6_away_X6_told
theorem dX6_away_0 : decode cX6_away 0 = .ok (.aload_n 0, 1) := by decide +kernel
theorem dX6_away_1 : decode cX6_away 1 = .ok (.iload_n 1, 1) := by decide +kernel
theorem dX6_away_2 : decode cX6_away 2 = .ok (.invokevirtual 67, 3) := by decide +kernel
theorem dX6_away_5 : decode cX6_away 5 = .ok (.ifCond .ne 7, 3) := by decide +kernel
theorem dX6_away_8 : decode cX6_away 8 = .ok (.ldc2_w 116, 3) := by decide +kernel
theorem dX6_away_11 : decode cX6_away 11 = .ok (.lreturn, 1) := by decide +kernel
theorem dX6_away_12 : decode cX6_away 12 = .ok (.iload_n 2, 1) := by decide +kernel
theorem dX6_away_13 : decode cX6_away 13 = .ok (.iconst 0, 1) := by decide +kernel
theorem dX6_away_14 : decode cX6_away 14 = .ok (.iconst 1, 1) := by decide +kernel
theorem dX6_away_15 : decode cX6_away 15 = .ok (.invokestatic 60, 3) := by decide +kernel
theorem dX6_away_18 : decode cX6_away 18 = .ok (.ifCond .ne 7, 3) := by decide +kernel
theorem dX6_away_21 : decode cX6_away 21 = .ok (.ldc2_w 118, 3) := by decide +kernel
theorem dX6_away_24 : decode cX6_away 24 = .ok (.lreturn, 1) := by decide +kernel
theorem dX6_away_25 : decode cX6_away 25 = .ok (.aload_n 0, 1) := by decide +kernel
theorem dX6_away_26 : decode cX6_away 26 = .ok (.iconst 0, 1) := by decide +kernel
theorem dX6_away_27 : decode cX6_away 27 = .ok (.invokevirtual 102, 3) := by decide +kernel
theorem dX6_away_30 : decode cX6_away 30 = .ok (.aload_n 0, 1) := by decide +kernel
theorem dX6_away_31 : decode cX6_away 31 = .ok (.iload_n 1, 1) := by decide +kernel
theorem dX6_away_32 : decode cX6_away 32 = .ok (.invokevirtual 135, 3) := by decide +kernel
theorem dX6_away_35 : decode cX6_away 35 = .ok (.istore_n 3, 1) := by decide +kernel
theorem dX6_away_36 : decode cX6_away 36 = .ok (.iload_n 3, 1) := by decide +kernel
theorem dX6_away_37 : decode cX6_away 37 = .ok (.bipush (-9), 2) := by decide +kernel
theorem dX6_away_39 : decode cX6_away 39 = .ok (.if_icmp .ne 7, 3) := by decide +kernel
theorem dX6_away_42 : decode cX6_away 42 = .ok (.ldc2_w 120, 3) := by decide +kernel
theorem dX6_away_45 : decode cX6_away 45 = .ok (.lreturn, 1) := by decide +kernel
theorem dX6_away_46 : decode cX6_away 46 = .ok (.aload_n 0, 1) := by decide +kernel
theorem dX6_away_47 : decode cX6_away 47 = .ok (.getfield 45, 3) := by decide +kernel
theorem dX6_away_50 : decode cX6_away 50 = .ok (.iload_n 3, 1) := by decide +kernel
theorem dX6_away_51 : decode cX6_away 51 = .ok (.iaload, 1) := by decide +kernel
theorem dX6_away_52 : decode cX6_away 52 = .ok (.i2l, 1) := by decide +kernel
theorem dX6_away_53 : decode cX6_away 53 = .ok (.aload_n 0, 1) := by decide +kernel
theorem dX6_away_54 : decode cX6_away 54 = .ok (.getfield 30, 3) := by decide +kernel
theorem dX6_away_57 : decode cX6_away 57 = .ok (.iload_n 1, 1) := by decide +kernel
theorem dX6_away_58 : decode cX6_away 58 = .ok (.laload, 1) := by decide +kernel
theorem dX6_away_59 : decode cX6_away 59 = .ok (.lmul, 1) := by decide +kernel
theorem dX6_away_60 : decode cX6_away 60 = .ok (.aload_n 0, 1) := by decide +kernel
theorem dX6_away_61 : decode cX6_away 61 = .ok (.getfield 16, 3) := by decide +kernel
theorem dX6_away_64 : decode cX6_away 64 = .ok (.i2l, 1) := by decide +kernel
theorem dX6_away_65 : decode cX6_away 65 = .ok (.aload_n 0, 1) := by decide +kernel
theorem dX6_away_66 : decode cX6_away 66 = .ok (.getfield 26, 3) := by decide +kernel
theorem dX6_away_69 : decode cX6_away 69 = .ok (.iload_n 1, 1) := by decide +kernel
theorem dX6_away_70 : decode cX6_away 70 = .ok (.laload, 1) := by decide +kernel
theorem dX6_away_71 : decode cX6_away 71 = .ok (.lmul, 1) := by decide +kernel
theorem dX6_away_72 : decode cX6_away 72 = .ok (.invokestatic 132, 3) := by decide +kernel
theorem dX6_away_75 : decode cX6_away 75 = .ok (.lstore 4, 2) := by decide +kernel
theorem dX6_away_77 : decode cX6_away 77 = .ok (.lload 4, 2) := by decide +kernel
theorem dX6_away_79 : decode cX6_away 79 = .ok (.lconst 0, 1) := by decide +kernel
theorem dX6_away_80 : decode cX6_away 80 = .ok (.lcmp, 1) := by decide +kernel
theorem dX6_away_81 : decode cX6_away 81 = .ok (.ifCond .ne 8, 3) := by decide +kernel
theorem dX6_away_84 : decode cX6_away 84 = .ok (.iload_n 2, 1) := by decide +kernel
theorem dX6_away_85 : decode cX6_away 85 = .ok (.i2l, 1) := by decide +kernel
theorem dX6_away_86 : decode cX6_away 86 = .ok (.goto 15, 3) := by decide +kernel
theorem dX6_away_89 : decode cX6_away 89 = .ok (.lload 4, 2) := by decide +kernel
theorem dX6_away_91 : decode cX6_away 91 = .ok (.aload_n 0, 1) := by decide +kernel
theorem dX6_away_92 : decode cX6_away 92 = .ok (.getfield 30, 3) := by decide +kernel
theorem dX6_away_95 : decode cX6_away 95 = .ok (.iload_n 1, 1) := by decide +kernel
theorem dX6_away_96 : decode cX6_away 96 = .ok (.laload, 1) := by decide +kernel
theorem dX6_away_97 : decode cX6_away 97 = .ok (.iload_n 2, 1) := by decide +kernel
theorem dX6_away_98 : decode cX6_away 98 = .ok (.invokestatic 122, 3) := by decide +kernel
theorem dX6_away_101 : decode cX6_away 101 = .ok (.lreturn, 1) := by decide +kernel
set_option maxRecDepth 20000 in
theorem ggX6_pin_X6_isSection : GoodIn wsX6_pin wsX6_isSection := goodIn_r _ [6, 7, 8, 9, 5, 10, 11, 12, 13, 14, 15, 16, 17, 18, 19, 20, 21, 22, 23, 24, 25, 26, 27, 28, 29] (by decide +kernel) (by decide +kernel)
set_option maxRecDepth 20000 in
theorem gX6_pin_X6_isSection : GoodIn wsX6_pin (wsV RX6 67 RX6 yX6_isSection wsX6_isSection) := goodIn_app (goodIn_of _ (by decide +kernel)) ggX6_pin_X6_isSection
set_option maxRecDepth 20000 in
theorem ggX6_pin_X6_isIn : GoodIn wsX6_pin wsX6_isIn := goodIn_r _ [10] (by decide +kernel) (by decide +kernel)
set_option maxRecDepth 20000 in
theorem gX6_pin_X6_isIn : GoodIn wsX6_pin (va_wsS RX6 60 yX6_isIn wsX6_isIn) := goodIn_app (goodIn_of _ (by decide +kernel)) ggX6_pin_X6_isIn
theorem dX6_pin_0 : decode cX6_pin 0 = .ok (.aload_n 0, 1) := by decide +kernel
theorem dX6_pin_1 : decode cX6_pin 1 = .ok (.iload_n 1, 1) := by decide +kernel
theorem dX6_pin_2 : decode cX6_pin 2 = .ok (.invokevirtual 67, 3) := by decide +kernel
theorem dX6_pin_5 : decode cX6_pin 5 = .ok (.ifCond .ne 5, 3) := by decide +kernel
theorem dX6_pin_8 : decode cX6_pin 8 = .ok (.iconst (-1), 1) := by decide +kernel
theorem dX6_pin_9 : decode cX6_pin 9 = .ok (.ireturn, 1) := by decide +kernel
theorem dX6_pin_10 : decode cX6_pin 10 = .ok (.iload_n 2, 1) := by decide +kernel
theorem dX6_pin_11 : decode cX6_pin 11 = .ok (.bipush (-9), 2) := by decide +kernel
theorem dX6_pin_13 : decode cX6_pin 13 = .ok (.if_icmp .eq 18, 3) := by decide +kernel
theorem dX6_pin_16 : decode cX6_pin 16 = .ok (.iload_n 2, 1) := by decide +kernel
theorem dX6_pin_17 : decode cX6_pin 17 = .ok (.bipush 20, 2) := by decide +kernel
theorem dX6_pin_19 : decode cX6_pin 19 = .ok (.sipush 400, 3) := by decide +kernel
theorem dX6_pin_22 : decode cX6_pin 22 = .ok (.invokestatic 60, 3) := by decide +kernel
theorem dX6_pin_25 : decode cX6_pin 25 = .ok (.ifCond .ne 6, 3) := by decide +kernel
theorem dX6_pin_28 : decode cX6_pin 28 = .ok (.bipush (-2), 2) := by decide +kernel
theorem dX6_pin_30 : decode cX6_pin 30 = .ok (.ireturn, 1) := by decide +kernel
theorem dX6_pin_31 : decode cX6_pin 31 = .ok (.aload_n 0, 1) := by decide +kernel
theorem dX6_pin_32 : decode cX6_pin 32 = .ok (.getfield 13, 3) := by decide +kernel
theorem dX6_pin_35 : decode cX6_pin 35 = .ok (.iload_n 1, 1) := by decide +kernel
theorem dX6_pin_36 : decode cX6_pin 36 = .ok (.iaload, 1) := by decide +kernel
theorem dX6_pin_37 : decode cX6_pin 37 = .ok (.istore_n 3, 1) := by decide +kernel
theorem dX6_pin_38 : decode cX6_pin 38 = .ok (.aload_n 0, 1) := by decide +kernel
theorem dX6_pin_39 : decode cX6_pin 39 = .ok (.getfield 13, 3) := by decide +kernel
theorem dX6_pin_42 : decode cX6_pin 42 = .ok (.iload_n 1, 1) := by decide +kernel
theorem dX6_pin_43 : decode cX6_pin 43 = .ok (.iload_n 2, 1) := by decide +kernel
theorem dX6_pin_44 : decode cX6_pin 44 = .ok (.iastore, 1) := by decide +kernel
theorem dX6_pin_45 : decode cX6_pin 45 = .ok (.iload_n 3, 1) := by decide +kernel
theorem dX6_pin_46 : decode cX6_pin 46 = .ok (.ireturn, 1) := by decide +kernel
set_option maxRecDepth 20000 in
theorem ggX6_driftBy_X6_ticksOf : GoodIn wsX6_driftBy wsX6_ticksOf := goodIn_r _ [5] (by decide +kernel) (by decide +kernel)
set_option maxRecDepth 20000 in
theorem gX6_driftBy_X6_ticksOf : GoodIn wsX6_driftBy (va_wsS RX6 77 yX6_ticksOf wsX6_ticksOf) := goodIn_app (goodIn_of _ (by decide +kernel)) ggX6_driftBy_X6_ticksOf
theorem dX6_driftBy_0 : decode cX6_driftBy 0 = .ok (.iload_n 3, 1) := by decide +kernel
theorem dX6_driftBy_1 : decode cX6_driftBy 1 = .ok (.aload_n 0, 1) := by decide +kernel
theorem dX6_driftBy_2 : decode cX6_driftBy 2 = .ok (.getfield 20, 3) := by decide +kernel
theorem dX6_driftBy_5 : decode cX6_driftBy 5 = .ok (.iconst 5, 1) := by decide +kernel
theorem dX6_driftBy_6 : decode cX6_driftBy 6 = .ok (.iload_n 1, 1) := by decide +kernel
theorem dX6_driftBy_7 : decode cX6_driftBy 7 = .ok (.imul, 1) := by decide +kernel
theorem dX6_driftBy_8 : decode cX6_driftBy 8 = .ok (.iconst 1, 1) := by decide +kernel
theorem dX6_driftBy_9 : decode cX6_driftBy 9 = .ok (.iadd, 1) := by decide +kernel
theorem dX6_driftBy_10 : decode cX6_driftBy 10 = .ok (.iaload, 1) := by decide +kernel
theorem dX6_driftBy_11 : decode cX6_driftBy 11 = .ok (.invokestatic 77, 3) := by decide +kernel
theorem dX6_driftBy_14 : decode cX6_driftBy 14 = .ok (.imul, 1) := by decide +kernel
theorem dX6_driftBy_15 : decode cX6_driftBy 15 = .ok (.iload_n 2, 1) := by decide +kernel
theorem dX6_driftBy_16 : decode cX6_driftBy 16 = .ok (.aload_n 0, 1) := by decide +kernel
theorem dX6_driftBy_17 : decode cX6_driftBy 17 = .ok (.getfield 20, 3) := by decide +kernel
theorem dX6_driftBy_20 : decode cX6_driftBy 20 = .ok (.iconst 5, 1) := by decide +kernel
theorem dX6_driftBy_21 : decode cX6_driftBy 21 = .ok (.iload_n 1, 1) := by decide +kernel
theorem dX6_driftBy_22 : decode cX6_driftBy 22 = .ok (.imul, 1) := by decide +kernel
theorem dX6_driftBy_23 : decode cX6_driftBy 23 = .ok (.iconst 3, 1) := by decide +kernel
theorem dX6_driftBy_24 : decode cX6_driftBy 24 = .ok (.iadd, 1) := by decide +kernel
theorem dX6_driftBy_25 : decode cX6_driftBy 25 = .ok (.iaload, 1) := by decide +kernel
theorem dX6_driftBy_26 : decode cX6_driftBy 26 = .ok (.invokestatic 77, 3) := by decide +kernel
theorem dX6_driftBy_29 : decode cX6_driftBy 29 = .ok (.imul, 1) := by decide +kernel
theorem dX6_driftBy_30 : decode cX6_driftBy 30 = .ok (.isub, 1) := by decide +kernel
theorem dX6_driftBy_31 : decode cX6_driftBy 31 = .ok (.istore 4, 2) := by decide +kernel
theorem dX6_driftBy_33 : decode cX6_driftBy 33 = .ok (.iload 4, 2) := by decide +kernel
theorem dX6_driftBy_35 : decode cX6_driftBy 35 = .ok (.ifCond .ge 9, 3) := by decide +kernel
theorem dX6_driftBy_38 : decode cX6_driftBy 38 = .ok (.iload 4, 2) := by decide +kernel
theorem dX6_driftBy_40 : decode cX6_driftBy 40 = .ok (.ineg, 1) := by decide +kernel
theorem dX6_driftBy_41 : decode cX6_driftBy 41 = .ok (.goto 5, 3) := by decide +kernel
theorem dX6_driftBy_44 : decode cX6_driftBy 44 = .ok (.iload 4, 2) := by decide +kernel
theorem dX6_driftBy_46 : decode cX6_driftBy 46 = .ok (.ireturn, 1) := by decide +kernel
set_option maxRecDepth 20000 in
theorem ggX6_hangs_X6_driftBy : GoodIn wsX6_hangs wsX6_driftBy := goodIn_r _ [10, 1, 11, 12, 9, 13, 14, 15, 16, 17, 18, 19, 20, 21, 22, 23, 24, 25, 26, 27, 28, 29, 30, 31, 32] (by decide +kernel) (by decide +kernel)
set_option maxRecDepth 20000 in
theorem gX6_hangs_X6_driftBy : GoodIn wsX6_hangs (wsV RX6 139 RX6 yX6_driftBy wsX6_driftBy) := goodIn_app (goodIn_of _ (by decide +kernel)) ggX6_hangs_X6_driftBy
