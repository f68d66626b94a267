theorem dX7_init_0 : decode cX7_init 0 = .ok (.aload_n 0, 1) := by decide +kernel
theorem dX7_init_1 : decode cX7_init 1 = .ok (.invokespecial 1, 3) := by decide +kernel
theorem dX7_init_4 : decode cX7_init 4 = .ok (.aload_n 0, 1) := by decide +kernel
theorem dX7_init_5 : decode cX7_init 5 = .ok (.iconst 4, 1) := by decide +kernel
theorem dX7_init_6 : decode cX7_init 6 = .ok (.newarray .int, 2) := by decide +kernel
theorem dX7_init_8 : decode cX7_init 8 = .ok (.putfield 7, 3) := by decide +kernel
theorem dX7_init_11 : decode cX7_init 11 = .ok (.aload_n 0, 1) := by decide +kernel
theorem dX7_init_12 : decode cX7_init 12 = .ok (.iconst 4, 1) := by decide +kernel
theorem dX7_init_13 : decode cX7_init 13 = .ok (.newarray .int, 2) := by decide +kernel
theorem dX7_init_15 : decode cX7_init 15 = .ok (.putfield 13, 3) := by decide +kernel
theorem dX7_init_18 : decode cX7_init 18 = .ok (.aload_n 0, 1) := by decide +kernel
theorem dX7_init_19 : decode cX7_init 19 = .ok (.sipush 240, 3) := by decide +kernel
theorem dX7_init_22 : decode cX7_init 22 = .ok (.newarray .int, 2) := by decide +kernel
theorem dX7_init_24 : decode cX7_init 24 = .ok (.putfield 16, 3) := by decide +kernel
theorem dX7_init_27 : decode cX7_init 27 = .ok (.aload_n 0, 1) := by decide +kernel
theorem dX7_init_28 : decode cX7_init 28 = .ok (.bipush 60, 2) := by decide +kernel
theorem dX7_init_30 : decode cX7_init 30 = .ok (.newarray .int, 2) := by decide +kernel
theorem dX7_init_32 : decode cX7_init 32 = .ok (.putfield 19, 3) := by decide +kernel
theorem dX7_init_35 : decode cX7_init 35 = .ok (.aload_n 0, 1) := by decide +kernel
theorem dX7_init_36 : decode cX7_init 36 = .ok (.bipush 120, 2) := by decide +kernel
theorem dX7_init_38 : decode cX7_init 38 = .ok (.newarray .int, 2) := by decide +kernel
theorem dX7_init_40 : decode cX7_init 40 = .ok (.putfield 22, 3) := by decide +kernel
theorem dX7_init_43 : decode cX7_init 43 = .ok (.aload_n 0, 1) := by decide +kernel
theorem dX7_init_44 : decode cX7_init 44 = .ok (.bipush 120, 2) := by decide +kernel
theorem dX7_init_46 : decode cX7_init 46 = .ok (.newarray .int, 2) := by decide +kernel
theorem dX7_init_48 : decode cX7_init 48 = .ok (.putfield 25, 3) := by decide +kernel
theorem dX7_init_51 : decode cX7_init 51 = .ok (.aload_n 0, 1) := by decide +kernel
theorem dX7_init_52 : decode cX7_init 52 = .ok (.bipush 120, 2) := by decide +kernel
theorem dX7_init_54 : decode cX7_init 54 = .ok (.newarray .int, 2) := by decide +kernel
theorem dX7_init_56 : decode cX7_init 56 = .ok (.putfield 28, 3) := by decide +kernel
theorem dX7_init_59 : decode cX7_init 59 = .ok (.aload_n 0, 1) := by decide +kernel
theorem dX7_init_60 : decode cX7_init 60 = .ok (.bipush 120, 2) := by decide +kernel
theorem dX7_init_62 : decode cX7_init 62 = .ok (.newarray .int, 2) := by decide +kernel
theorem dX7_init_64 : decode cX7_init 64 = .ok (.putfield 31, 3) := by decide +kernel
theorem dX7_init_67 : decode cX7_init 67 = .ok (.aload_n 0, 1) := by decide +kernel
theorem dX7_init_68 : decode cX7_init 68 = .ok (.bipush 6, 2) := by decide +kernel
theorem dX7_init_70 : decode cX7_init 70 = .ok (.newarray .int, 2) := by decide +kernel
theorem dX7_init_72 : decode cX7_init 72 = .ok (.putfield 34, 3) := by decide +kernel
theorem dX7_init_75 : decode cX7_init 75 = .ok (.aload_n 0, 1) := by decide +kernel
theorem dX7_init_76 : decode cX7_init 76 = .ok (.bipush 6, 2) := by decide +kernel
theorem dX7_init_78 : decode cX7_init 78 = .ok (.newarray .int, 2) := by decide +kernel
theorem dX7_init_80 : decode cX7_init 80 = .ok (.putfield 37, 3) := by decide +kernel
theorem dX7_init_83 : decode cX7_init 83 = .ok (.aload_n 0, 1) := by decide +kernel
theorem dX7_init_84 : decode cX7_init 84 = .ok (.bipush 6, 2) := by decide +kernel
theorem dX7_init_86 : decode cX7_init 86 = .ok (.newarray .int, 2) := by decide +kernel
theorem dX7_init_88 : decode cX7_init 88 = .ok (.putfield 40, 3) := by decide +kernel
theorem dX7_init_91 : decode cX7_init 91 = .ok (.aload_n 0, 1) := by decide +kernel
theorem dX7_init_92 : decode cX7_init 92 = .ok (.bipush 6, 2) := by decide +kernel
theorem dX7_init_94 : decode cX7_init 94 = .ok (.newarray .int, 2) := by decide +kernel
theorem dX7_init_96 : decode cX7_init 96 = .ok (.putfield 43, 3) := by decide +kernel
theorem dX7_init_99 : decode cX7_init 99 = .ok (.aload_n 0, 1) := by decide +kernel
theorem dX7_init_100 : decode cX7_init 100 = .ok (.bipush 60, 2) := by decide +kernel
theorem dX7_init_102 : decode cX7_init 102 = .ok (.newarray .int, 2) := by decide +kernel
theorem dX7_init_104 : decode cX7_init 104 = .ok (.putfield 46, 3) := by decide +kernel
theorem dX7_init_107 : decode cX7_init 107 = .ok (.aload_n 0, 1) := by decide +kernel
theorem dX7_init_108 : decode cX7_init 108 = .ok (.bipush 60, 2) := by decide +kernel
theorem dX7_init_110 : decode cX7_init 110 = .ok (.newarray .int, 2) := by decide +kernel
theorem dX7_init_112 : decode cX7_init 112 = .ok (.putfield 49, 3) := by decide +kernel
theorem dX7_init_115 : decode cX7_init 115 = .ok (.aload_n 0, 1) := by decide +kernel
theorem dX7_init_116 : decode cX7_init 116 = .ok (.bipush 60, 2) := by decide +kernel
theorem dX7_init_118 : decode cX7_init 118 = .ok (.newarray .int, 2) := by decide +kernel
theorem dX7_init_120 : decode cX7_init 120 = .ok (.putfield 52, 3) := by decide +kernel
theorem dX7_init_123 : decode cX7_init 123 = .ok (.aload_n 0, 1) := by decide +kernel
theorem dX7_init_124 : decode cX7_init 124 = .ok (.bipush 60, 2) := by decide +kernel
theorem dX7_init_126 : decode cX7_init 126 = .ok (.newarray .int, 2) := by decide +kernel
theorem dX7_init_128 : decode cX7_init 128 = .ok (.putfield 55, 3) := by decide +kernel
theorem dX7_init_131 : decode cX7_init 131 = .ok (.aload_n 0, 1) := by decide +kernel
theorem dX7_init_132 : decode cX7_init 132 = .ok (.bipush 60, 2) := by decide +kernel
theorem dX7_init_134 : decode cX7_init 134 = .ok (.newarray .int, 2) := by decide +kernel
theorem dX7_init_136 : decode cX7_init 136 = .ok (.putfield 58, 3) := by decide +kernel
theorem dX7_init_139 : decode cX7_init 139 = .ok (.aload_n 0, 1) := by decide +kernel
theorem dX7_init_140 : decode cX7_init 140 = .ok (.bipush 14, 2) := by decide +kernel
theorem dX7_init_142 : decode cX7_init 142 = .ok (.newarray .long, 2) := by decide +kernel
theorem dX7_init_144 : decode cX7_init 144 = .ok (.putfield 61, 3) := by decide +kernel
theorem dX7_init_147 : decode cX7_init 147 = .ok (.aload_n 0, 1) := by decide +kernel
theorem dX7_init_148 : decode cX7_init 148 = .ok (.bipush 60, 2) := by decide +kernel
theorem dX7_init_150 : decode cX7_init 150 = .ok (.newarray .int, 2) := by decide +kernel
theorem dX7_init_152 : decode cX7_init 152 = .ok (.putfield 65, 3) := by decide +kernel
theorem dX7_init_155 : decode cX7_init 155 = .ok (.aload_n 0, 1) := by decide +kernel
theorem dX7_init_156 : decode cX7_init 156 = .ok (.bipush 6, 2) := by decide +kernel
theorem dX7_init_158 : decode cX7_init 158 = .ok (.newarray .int, 2) := by decide +kernel
theorem dX7_init_160 : decode cX7_init 160 = .ok (.putfield 68, 3) := by decide +kernel
theorem dX7_init_163 : decode cX7_init 163 = .ok (.aload_n 0, 1) := by decide +kernel
theorem dX7_init_164 : decode cX7_init 164 = .ok (.bipush 6, 2) := by decide +kernel
theorem dX7_init_166 : decode cX7_init 166 = .ok (.newarray .int, 2) := by decide +kernel
theorem dX7_init_168 : decode cX7_init 168 = .ok (.putfield 71, 3) := by decide +kernel
theorem dX7_init_171 : decode cX7_init 171 = .ok (.iconst 0, 1) := by decide +kernel
theorem dX7_init_172 : decode cX7_init 172 = .ok (.istore_n 1, 1) := by decide +kernel
theorem dX7_init_173 : decode cX7_init 173 = .ok (.iload_n 1, 1) := by decide +kernel
theorem dX7_init_174 : decode cX7_init 174 = .ok (.iconst 4, 1) := by decide +kernel
theorem dX7_init_175 : decode cX7_init 175 = .ok (.if_icmp .ge 16, 3) := by decide +kernel
theorem dX7_init_178 : decode cX7_init 178 = .ok (.aload_n 0, 1) := by decide +kernel
theorem dX7_init_179 : decode cX7_init 179 = .ok (.getfield 7, 3) := by decide +kernel
theorem dX7_init_182 : decode cX7_init 182 = .ok (.iload_n 1, 1) := by decide +kernel
theorem dX7_init_183 : decode cX7_init 183 = .ok (.iconst (-1), 1) := by decide +kernel
theorem dX7_init_184 : decode cX7_init 184 = .ok (.iastore, 1) := by decide +kernel
theorem dX7_init_185 : decode cX7_init 185 = .ok (.iinc 1 1, 3) := by decide +kernel
theorem dX7_init_188 : decode cX7_init 188 = .ok (.goto (-15), 3) := by decide +kernel
theorem dX7_init_191 : decode cX7_init 191 = .ok (.iconst 0, 1) := by decide +kernel
theorem dX7_init_192 : decode cX7_init 192 = .ok (.istore_n 1, 1) := by decide +kernel
theorem dX7_init_193 : decode cX7_init 193 = .ok (.iload_n 1, 1) := by decide +kernel
theorem dX7_init_194 : decode cX7_init 194 = .ok (.bipush 60, 2) := by decide +kernel
theorem dX7_init_196 : decode cX7_init 196 = .ok (.if_icmp .ge 16, 3) := by decide +kernel
theorem dX7_init_199 : decode cX7_init 199 = .ok (.aload_n 0, 1) := by decide +kernel
theorem dX7_init_200 : decode cX7_init 200 = .ok (.getfield 46, 3) := by decide +kernel
theorem dX7_init_203 : decode cX7_init 203 = .ok (.iload_n 1, 1) := by decide +kernel
theorem dX7_init_204 : decode cX7_init 204 = .ok (.iconst (-1), 1) := by decide +kernel
theorem dX7_init_205 : decode cX7_init 205 = .ok (.iastore, 1) := by decide +kernel
theorem dX7_init_206 : decode cX7_init 206 = .ok (.iinc 1 1, 3) := by decide +kernel
theorem dX7_init_209 : decode cX7_init 209 = .ok (.goto (-16), 3) := by decide +kernel
theorem dX7_init_212 : decode cX7_init 212 = .ok (.aload_n 0, 1) := by decide +kernel
theorem dX7_init_213 : decode cX7_init 213 = .ok (.getfield 43, 3) := by decide +kernel
theorem dX7_init_216 : decode cX7_init 216 = .ok (.iconst 0, 1) := by decide +kernel
theorem dX7_init_217 : decode cX7_init 217 = .ok (.sipush 999, 3) := by decide +kernel
theorem dX7_init_220 : decode cX7_init 220 = .ok (.iastore, 1) := by decide +kernel
theorem dX7_init_221 : decode cX7_init 221 = .ok (.aload_n 0, 1) := by decide +kernel
theorem dX7_init_222 : decode cX7_init 222 = .ok (.getfield 43, 3) := by decide +kernel
theorem dX7_init_225 : decode cX7_init 225 = .ok (.iconst 2, 1) := by decide +kernel
theorem dX7_init_226 : decode cX7_init 226 = .ok (.bipush 59, 2) := by decide +kernel
theorem dX7_init_228 : decode cX7_init 228 = .ok (.iastore, 1) := by decide +kernel
theorem dX7_init_229 : decode cX7_init 229 = .ok (.aload_n 0, 1) := by decide +kernel
theorem dX7_init_230 : decode cX7_init 230 = .ok (.getfield 43, 3) := by decide +kernel
theorem dX7_init_233 : decode cX7_init 233 = .ok (.iconst 3, 1) := by decide +kernel
theorem dX7_init_234 : decode cX7_init 234 = .ok (.iconst 1, 1) := by decide +kernel
theorem dX7_init_235 : decode cX7_init 235 = .ok (.iastore, 1) := by decide +kernel
theorem dX7_init_236 : decode cX7_init 236 = .ok (.aload_n 0, 1) := by decide +kernel
theorem dX7_init_237 : decode cX7_init 237 = .ok (.getfield 43, 3) := by decide +kernel
theorem dX7_init_240 : decode cX7_init 240 = .ok (.iconst 4, 1) := by decide +kernel
theorem dX7_init_241 : decode cX7_init 241 = .ok (.sipush 500, 3) := by decide +kernel
theorem dX7_init_244 : decode cX7_init 244 = .ok (.iastore, 1) := by decide +kernel
theorem dX7_init_245 : decode cX7_init 245 = .ok (.aload_n 0, 1) := by decide +kernel
theorem dX7_init_246 : decode cX7_init 246 = .ok (.getfield 43, 3) := by decide +kernel
theorem dX7_init_249 : decode cX7_init 249 = .ok (.iconst 5, 1) := by decide +kernel
theorem dX7_init_250 : decode cX7_init 250 = .ok (.bipush 50, 2) := by decide +kernel
theorem dX7_init_252 : decode cX7_init 252 = .ok (.iastore, 1) := by decide +kernel
theorem dX7_init_253 : decode cX7_init 253 = .ok (.return_, 1) := by decide +kernel
theorem dX7_in_0 : decode cX7_in 0 = .ok (.lload_n 0, 1) := by decide +kernel
theorem dX7_in_1 : decode cX7_in 1 = .ok (.lload_n 2, 1) := by decide +kernel
theorem dX7_in_2 : decode cX7_in 2 = .ok (.lcmp, 1) := by decide +kernel
theorem dX7_in_3 : decode cX7_in 3 = .ok (.ifCond .lt 14, 3) := by decide +kernel
theorem dX7_in_6 : decode cX7_in 6 = .ok (.lload_n 0, 1) := by decide +kernel
theorem dX7_in_7 : decode cX7_in 7 = .ok (.lload 4, 2) := by decide +kernel
theorem dX7_in_9 : decode cX7_in 9 = .ok (.lcmp, 1) := by decide +kernel
theorem dX7_in_10 : decode cX7_in 10 = .ok (.ifCond .gt 7, 3) := by decide +kernel
theorem dX7_in_13 : decode cX7_in 13 = .ok (.iconst 1, 1) := by decide +kernel
theorem dX7_in_14 : decode cX7_in 14 = .ok (.goto 4, 3) := by decide +kernel
theorem dX7_in_17 : decode cX7_in 17 = .ok (.iconst 0, 1) := by decide +kernel
theorem dX7_in_18 : decode cX7_in 18 = .ok (.ireturn, 1) := by decide +kernel
theorem dX7_no_0 : decode cX7_no 0 = .ok (.ldc2_w 74, 3) := by decide +kernel
theorem dX7_no_3 : decode cX7_no 3 = .ok (.iload_n 0, 1) := by decide +kernel
theorem dX7_no_4 : decode cX7_no 4 = .ok (.i2l, 1) := by decide +kernel
theorem dX7_no_5 : decode cX7_no 5 = .ok (.lsub, 1) := by decide +kernel
theorem dX7_no_6 : decode cX7_no 6 = .ok (.lreturn, 1) := by decide +kernel
set_option maxRecDepth 20000 in
theorem ggX7_isTwo_X7_in : GoodIn wsX7_isTwo wsX7_in := goodIn_r _ [4] (by decide +kernel) (by decide +kernel)
set_option maxRecDepth 20000 in
theorem gX7_isTwo_X7_in : GoodIn wsX7_isTwo (va_wsS RX7 76 yX7_in wsX7_in) := goodIn_app (goodIn_of _ (by decide +kernel)) ggX7_isTwo_X7_in
theorem dX7_isTwo_0 : decode cX7_isTwo 0 = .ok (.iload_n 0, 1) := by decide +kernel
theorem dX7_isTwo_1 : decode cX7_isTwo 1 = .ok (.i2l, 1) := by decide +kernel
theorem dX7_isTwo_2 : decode cX7_isTwo 2 = .ok (.lconst 0, 1) := by decide +kernel
theorem dX7_isTwo_3 : decode cX7_isTwo 3 = .ok (.lconst 1, 1) := by decide +kernel
theorem dX7_isTwo_4 : decode cX7_isTwo 4 = .ok (.invokestatic 76, 3) := by decide +kernel
theorem dX7_isTwo_7 : decode cX7_isTwo 7 = .ok (.ireturn, 1) := by decide +kernel
theorem dX7_met_0 : decode cX7_met 0 = .ok (.aload_n 0, 1) := by decide +kernel
theorem dX7_met_1 : decode cX7_met 1 = .ok (.iload_n 1, 1) := by decide +kernel
theorem dX7_met_2 : decode cX7_met 2 = .ok (.putfield 80, 3) := by decide +kernel
theorem dX7_met_5 : decode cX7_met 5 = .ok (.bipush (-10), 2) := by decide +kernel
theorem dX7_met_7 : decode cX7_met 7 = .ok (.iload_n 1, 1) := by decide +kernel
theorem dX7_met_8 : decode cX7_met 8 = .ok (.isub, 1) := by decide +kernel
theorem dX7_met_9 : decode cX7_met 9 = .ok (.ireturn, 1) := by decide +kernel
set_option maxRecDepth 20000 in
theorem ggX7_isSheet_X7_in : GoodIn wsX7_isSheet wsX7_in := goodIn_r _ [5] (by decide +kernel) (by decide +kernel)
set_option maxRecDepth 20000 in
theorem gX7_isSheet_X7_in : GoodIn wsX7_isSheet (va_wsS RX7 76 yX7_in wsX7_in) := goodIn_app (goodIn_of _ (by decide +kernel)) ggX7_isSheet_X7_in
theorem dX7_isSheet_0 : decode cX7_isSheet 0 = .ok (.iload_n 0, 1) := by decide +kernel
theorem dX7_isSheet_1 : decode cX7_isSheet 1 = .ok (.i2l, 1) := by decide +kernel
theorem dX7_isSheet_2 : decode cX7_isSheet 2 = .ok (.lconst 0, 1) := by decide +kernel
theorem dX7_isSheet_3 : decode cX7_isSheet 3 = .ok (.ldc2_w 84, 3) := by decide +kernel
theorem dX7_isSheet_6 : decode cX7_isSheet 6 = .ok (.invokestatic 76, 3) := by decide +kernel
theorem dX7_isSheet_9 : decode cX7_isSheet 9 = .ok (.ireturn, 1) := by decide +kernel
set_option maxRecDepth 20000 in
theorem ggX7_sheet_X7_isSheet : GoodIn wsX7_sheet wsX7_isSheet := goodIn_r _ [8, 9, 10, 11, 7, 12] (by decide +kernel) (by decide +kernel)
set_option maxRecDepth 20000 in
theorem gX7_sheet_X7_isSheet : GoodIn wsX7_sheet (va_wsS RX7 86 yX7_isSheet wsX7_isSheet) := goodIn_app (goodIn_of _ (by decide +kernel)) ggX7_sheet_X7_isSheet
set_option maxRecDepth 20000 in
theorem ggX7_sheet_X7_in : GoodIn wsX7_sheet wsX7_in := goodIn_r _ [12] (by decide +kernel) (by decide +kernel)
set_option maxRecDepth 20000 in
theorem gX7_sheet_X7_in : GoodIn wsX7_sheet (va_wsS RX7 76 yX7_in wsX7_in) := goodIn_app (goodIn_of _ (by decide +kernel)) ggX7_sheet_X7_in
set_option maxRecDepth 20000 in
theorem ggX7_sheet_X7_met : GoodIn wsX7_sheet wsX7_met := goodIn_r _ [16, 17, 18, 19, 20, 21, 22, 23, 24, 25, 26, 27, 28, 29, 30, 31, 32, 33, 34, 35, 36, 37, 38, 39, 40, 41, 42, 43, 44, 45] (by decide +kernel) (by decide +kernel)
set_option maxRecDepth 20000 in
theorem gX7_sheet_X7_met : GoodIn wsX7_sheet (wsV RX7 92 RX7 yX7_met wsX7_met) := goodIn_app (goodIn_of _ (by decide +kernel)) ggX7_sheet_X7_met
theorem dX7_sheet_0 : decode cX7_sheet 0 = .ok (.iload_n 1, 1) := by decide +kernel
theorem dX7_sheet_1 : decode cX7_sheet 1 = .ok (.invokestatic 86, 3) := by decide +kernel
theorem dX7_sheet_4 : decode cX7_sheet 4 = .ok (.ifCond .eq 21, 3) := by decide +kernel
theorem dX7_sheet_7 : decode cX7_sheet 7 = .ok (.iload_n 2, 1) := by decide +kernel
theorem dX7_sheet_8 : decode cX7_sheet 8 = .ok (.i2l, 1) := by decide +kernel
theorem dX7_sheet_9 : decode cX7_sheet 9 = .ok (.lconst 0, 1) := by decide +kernel
theorem dX7_sheet_10 : decode cX7_sheet 10 = .ok (.ldc2_w 90, 3) := by decide +kernel
theorem dX7_sheet_13 : decode cX7_sheet 13 = .ok (.invokestatic 76, 3) := by decide +kernel
theorem dX7_sheet_16 : decode cX7_sheet 16 = .ok (.ifCond .eq 9, 3) := by decide +kernel
theorem dX7_sheet_19 : decode cX7_sheet 19 = .ok (.iload_n 3, 1) := by decide +kernel
theorem dX7_sheet_20 : decode cX7_sheet 20 = .ok (.bipush 60, 2) := by decide +kernel
theorem dX7_sheet_22 : decode cX7_sheet 22 = .ok (.if_icmp .le 6, 3) := by decide +kernel
theorem dX7_sheet_25 : decode cX7_sheet 25 = .ok (.bipush (-2), 2) := by decide +kernel
theorem dX7_sheet_27 : decode cX7_sheet 27 = .ok (.ireturn, 1) := by decide +kernel
theorem dX7_sheet_28 : decode cX7_sheet 28 = .ok (.iload_n 3, 1) := by decide +kernel
theorem dX7_sheet_29 : decode cX7_sheet 29 = .ok (.ifCond .ge 9, 3) := by decide +kernel
theorem dX7_sheet_32 : decode cX7_sheet 32 = .ok (.aload_n 0, 1) := by decide +kernel
theorem dX7_sheet_33 : decode cX7_sheet 33 = .ok (.iconst 5, 1) := by decide +kernel
theorem dX7_sheet_34 : decode cX7_sheet 34 = .ok (.invokevirtual 92, 3) := by decide +kernel
theorem dX7_sheet_37 : decode cX7_sheet 37 = .ok (.ireturn, 1) := by decide +kernel
theorem dX7_sheet_38 : decode cX7_sheet 38 = .ok (.aload_n 0, 1) := by decide +kernel
theorem dX7_sheet_39 : decode cX7_sheet 39 = .ok (.getfield 7, 3) := by decide +kernel
theorem dX7_sheet_42 : decode cX7_sheet 42 = .ok (.iload_n 1, 1) := by decide +kernel
theorem dX7_sheet_43 : decode cX7_sheet 43 = .ok (.iload_n 2, 1) := by decide +kernel
theorem dX7_sheet_44 : decode cX7_sheet 44 = .ok (.iastore, 1) := by decide +kernel
theorem dX7_sheet_45 : decode cX7_sheet 45 = .ok (.aload_n 0, 1) := by decide +kernel
theorem dX7_sheet_46 : decode cX7_sheet 46 = .ok (.getfield 13, 3) := by decide +kernel
theorem dX7_sheet_49 : decode cX7_sheet 49 = .ok (.iload_n 1, 1) := by decide +kernel
theorem dX7_sheet_50 : decode cX7_sheet 50 = .ok (.iload_n 3, 1) := by decide +kernel
theorem dX7_sheet_51 : decode cX7_sheet 51 = .ok (.iastore, 1) := by decide +kernel
theorem dX7_sheet_52 : decode cX7_sheet 52 = .ok (.iconst 0, 1) := by decide +kernel
theorem dX7_sheet_53 : decode cX7_sheet 53 = .ok (.istore 4, 2) := by decide +kernel
theorem dX7_sheet_55 : decode cX7_sheet 55 = .ok (.iload 4, 2) := by decide +kernel
theorem dX7_sheet_57 : decode cX7_sheet 57 = .ok (.iload_n 3, 1) := by decide +kernel
theorem dX7_sheet_58 : decode cX7_sheet 58 = .ok (.if_icmp .ge 22, 3) := by decide +kernel
theorem dX7_sheet_61 : decode cX7_sheet 61 = .ok (.aload_n 0, 1) := by decide +kernel
theorem dX7_sheet_62 : decode cX7_sheet 62 = .ok (.getfield 16, 3) := by decide +kernel
theorem dX7_sheet_65 : decode cX7_sheet 65 = .ok (.bipush 60, 2) := by decide +kernel
theorem dX7_sheet_67 : decode cX7_sheet 67 = .ok (.iload_n 1, 1) := by decide +kernel
theorem dX7_sheet_68 : decode cX7_sheet 68 = .ok (.imul, 1) := by decide +kernel
theorem dX7_sheet_69 : decode cX7_sheet 69 = .ok (.iload 4, 2) := by decide +kernel
theorem dX7_sheet_71 : decode cX7_sheet 71 = .ok (.iadd, 1) := by decide +kernel
theorem dX7_sheet_72 : decode cX7_sheet 72 = .ok (.iconst 0, 1) := by decide +kernel
theorem dX7_sheet_73 : decode cX7_sheet 73 = .ok (.iastore, 1) := by decide +kernel
theorem dX7_sheet_74 : decode cX7_sheet 74 = .ok (.iinc 4 1, 3) := by decide +kernel
theorem dX7_sheet_77 : decode cX7_sheet 77 = .ok (.goto (-22), 3) := by decide +kernel
theorem dX7_sheet_80 : decode cX7_sheet 80 = .ok (.iload_n 3, 1) := by decide +kernel
theorem dX7_sheet_81 : decode cX7_sheet 81 = .ok (.ireturn, 1) := by decide +kernel
set_option maxRecDepth 20000 in
theorem ggX7_lose_X7_isSheet : GoodIn wsX7_lose wsX7_isSheet := goodIn_r _ [6, 7, 8, 9, 5, 10] (by decide +kernel) (by decide +kernel)
set_option maxRecDepth 20000 in
theorem gX7_lose_X7_isSheet : GoodIn wsX7_lose (va_wsS RX7 86 yX7_isSheet wsX7_isSheet) := goodIn_app (goodIn_of _ (by decide +kernel)) ggX7_lose_X7_isSheet
set_option maxRecDepth 20000 in
theorem ggX7_lose_X7_met : GoodIn wsX7_lose wsX7_met := goodIn_r _ [14, 15, 16, 17, 18, 19, 20, 21, 22, 23, 24, 25, 26, 27, 28, 29, 30, 31, 32, 33, 34, 35, 36, 37, 38, 39, 40, 41, 42, 43] (by decide +kernel) (by decide +kernel)
set_option maxRecDepth 20000 in
theorem gX7_lose_X7_met : GoodIn wsX7_lose (wsV RX7 92 RX7 yX7_met wsX7_met) := goodIn_app (goodIn_of _ (by decide +kernel)) ggX7_lose_X7_met
theorem dX7_lose_0 : decode cX7_lose 0 = .ok (.iload_n 1, 1) := by decide +kernel
theorem dX7_lose_1 : decode cX7_lose 1 = .ok (.invokestatic 86, 3) := by decide +kernel
theorem dX7_lose_4 : decode cX7_lose 4 = .ok (.ifCond .ne 6, 3) := by decide +kernel
theorem dX7_lose_7 : decode cX7_lose 7 = .ok (.bipush (-2), 2) := by decide +kernel
theorem dX7_lose_9 : decode cX7_lose 9 = .ok (.ireturn, 1) := by decide +kernel
theorem dX7_lose_10 : decode cX7_lose 10 = .ok (.aload_n 0, 1) := by decide +kernel
theorem dX7_lose_11 : decode cX7_lose 11 = .ok (.getfield 7, 3) := by decide +kernel
theorem dX7_lose_14 : decode cX7_lose 14 = .ok (.iload_n 1, 1) := by decide +kernel
theorem dX7_lose_15 : decode cX7_lose 15 = .ok (.iaload, 1) := by decide +kernel
theorem dX7_lose_16 : decode cX7_lose 16 = .ok (.ifCond .ge 9, 3) := by decide +kernel
theorem dX7_lose_19 : decode cX7_lose 19 = .ok (.aload_n 0, 1) := by decide +kernel
theorem dX7_lose_20 : decode cX7_lose 20 = .ok (.iconst 1, 1) := by decide +kernel
theorem dX7_lose_21 : decode cX7_lose 21 = .ok (.invokevirtual 92, 3) := by decide +kernel
theorem dX7_lose_24 : decode cX7_lose 24 = .ok (.ireturn, 1) := by decide +kernel
theorem dX7_lose_25 : decode cX7_lose 25 = .ok (.aload_n 0, 1) := by decide +kernel
theorem dX7_lose_26 : decode cX7_lose 26 = .ok (.getfield 7, 3) := by decide +kernel
theorem dX7_lose_29 : decode cX7_lose 29 = .ok (.iload_n 1, 1) := by decide +kernel
theorem dX7_lose_30 : decode cX7_lose 30 = .ok (.iconst (-1), 1) := by decide +kernel
theorem dX7_lose_31 : decode cX7_lose 31 = .ok (.iastore, 1) := by decide +kernel
theorem dX7_lose_32 : decode cX7_lose 32 = .ok (.aload_n 0, 1) := by decide +kernel
theorem dX7_lose_33 : decode cX7_lose 33 = .ok (.getfield 13, 3) := by decide +kernel
theorem dX7_lose_36 : decode cX7_lose 36 = .ok (.iload_n 1, 1) := by decide +kernel
theorem dX7_lose_37 : decode cX7_lose 37 = .ok (.iaload, 1) := by decide +kernel
theorem dX7_lose_38 : decode cX7_lose 38 = .ok (.ireturn, 1) := by decide +kernel
set_option maxRecDepth 20000 in
theorem ggX7_lacks_X7_met : GoodIn wsX7_lacks wsX7_met := goodIn_r _ [7, 8, 12, 13, 14, 15, 16, 17, 18, 19, 20, 21, 22, 23, 24, 25, 26, 27, 28, 29, 30, 31, 32, 33, 34, 35, 36, 37, 38, 39] (by decide +kernel) (by decide +kernel)
set_option maxRecDepth 20000 in
theorem gX7_lacks_X7_met : GoodIn wsX7_lacks (wsV RX7 92 RX7 yX7_met wsX7_met) := goodIn_app (goodIn_of _ (by decide +kernel)) ggX7_lacks_X7_met
set_option maxRecDepth 20000 in
theorem ggX7_lacks_X7_in : GoodIn wsX7_lacks wsX7_in := goodIn_r _ [11] (by decide +kernel) (by decide +kernel)
set_option maxRecDepth 20000 in
theorem gX7_lacks_X7_in : GoodIn wsX7_lacks (va_wsS RX7 76 yX7_in wsX7_in) := goodIn_app (goodIn_of _ (by decide +kernel)) ggX7_lacks_X7_in
theorem dX7_lacks_0 : decode cX7_lacks 0 = .ok (.aload_n 0, 1) := by decide +kernel
theorem dX7_lacks_1 : decode cX7_lacks 1 = .ok (.getfield 7, 3) := by decide +kernel
theorem dX7_lacks_4 : decode cX7_lacks 4 = .ok (.iload_n 1, 1) := by decide +kernel
theorem dX7_lacks_5 : decode cX7_lacks 5 = .ok (.iaload, 1) := by decide +kernel
theorem dX7_lacks_6 : decode cX7_lacks 6 = .ok (.ifCond .ge 9, 3) := by decide +kernel
theorem dX7_lacks_9 : decode cX7_lacks 9 = .ok (.aload_n 0, 1) := by decide +kernel
theorem dX7_lacks_10 : decode cX7_lacks 10 = .ok (.iconst 1, 1) := by decide +kernel
theorem dX7_lacks_11 : decode cX7_lacks 11 = .ok (.invokevirtual 92, 3) := by decide +kernel
theorem dX7_lacks_14 : decode cX7_lacks 14 = .ok (.ireturn, 1) := by decide +kernel
theorem dX7_lacks_15 : decode cX7_lacks 15 = .ok (.aload_n 0, 1) := by decide +kernel
theorem dX7_lacks_16 : decode cX7_lacks 16 = .ok (.getfield 7, 3) := by decide +kernel
theorem dX7_lacks_19 : decode cX7_lacks 19 = .ok (.iload_n 1, 1) := by decide +kernel
theorem dX7_lacks_20 : decode cX7_lacks 20 = .ok (.iaload, 1) := by decide +kernel
theorem dX7_lacks_21 : decode cX7_lacks 21 = .ok (.iload_n 2, 1) := by decide +kernel
theorem dX7_lacks_22 : decode cX7_lacks 22 = .ok (.if_icmp .eq 9, 3) := by decide +kernel
theorem dX7_lacks_25 : decode cX7_lacks 25 = .ok (.aload_n 0, 1) := by decide +kernel
theorem dX7_lacks_26 : decode cX7_lacks 26 = .ok (.iconst 3, 1) := by decide +kernel
theorem dX7_lacks_27 : decode cX7_lacks 27 = .ok (.invokevirtual 92, 3) := by decide +kernel
theorem dX7_lacks_30 : decode cX7_lacks 30 = .ok (.ireturn, 1) := by decide +kernel
theorem dX7_lacks_31 : decode cX7_lacks 31 = .ok (.iload_n 3, 1) := by decide +kernel
theorem dX7_lacks_32 : decode cX7_lacks 32 = .ok (.i2l, 1) := by decide +kernel
theorem dX7_lacks_33 : decode cX7_lacks 33 = .ok (.lconst 0, 1) := by decide +kernel
theorem dX7_lacks_34 : decode cX7_lacks 34 = .ok (.aload_n 0, 1) := by decide +kernel
theorem dX7_lacks_35 : decode cX7_lacks 35 = .ok (.getfield 13, 3) := by decide +kernel
theorem dX7_lacks_38 : decode cX7_lacks 38 = .ok (.iload_n 1, 1) := by decide +kernel
theorem dX7_lacks_39 : decode cX7_lacks 39 = .ok (.iaload, 1) := by decide +kernel
theorem dX7_lacks_40 : decode cX7_lacks 40 = .ok (.iconst 1, 1) := by decide +kernel
theorem dX7_lacks_41 : decode cX7_lacks 41 = .ok (.isub, 1) := by decide +kernel
theorem dX7_lacks_42 : decode cX7_lacks 42 = .ok (.i2l, 1) := by decide +kernel
theorem dX7_lacks_43 : decode cX7_lacks 43 = .ok (.invokestatic 76, 3) := by decide +kernel
theorem dX7_lacks_46 : decode cX7_lacks 46 = .ok (.ifCond .eq 7, 3) := by decide +kernel
theorem dX7_lacks_49 : decode cX7_lacks 49 = .ok (.iconst 0, 1) := by decide +kernel
theorem dX7_lacks_50 : decode cX7_lacks 50 = .ok (.goto 8, 3) := by decide +kernel
theorem dX7_lacks_53 : decode cX7_lacks 53 = .ok (.aload_n 0, 1) := by decide +kernel
theorem dX7_lacks_54 : decode cX7_lacks 54 = .ok (.iconst 2, 1) := by decide +kernel
theorem dX7_lacks_55 : decode cX7_lacks 55 = .ok (.invokevirtual 92, 3) := by decide +kernel
theorem dX7_lacks_58 : decode cX7_lacks 58 = .ok (.ireturn, 1) := by decide +kernel
theorem dX7_cut_0 : decode cX7_cut 0 = .ok (.iload_n 0, 1) := by decide +kernel
theorem dX7_cut_1 : decode cX7_cut 1 = .ok (.ifCond .ne 8, 3) := by decide +kernel
theorem dX7_cut_4 : decode cX7_cut 4 = .ok (.iload_n 1, 1) := by decide +kernel
theorem dX7_cut_5 : decode cX7_cut 5 = .ok (.i2b, 1) := by decide +kernel
theorem dX7_cut_6 : decode cX7_cut 6 = .ok (.goto 14, 3) := by decide +kernel
theorem dX7_cut_9 : decode cX7_cut 9 = .ok (.iload_n 0, 1) := by decide +kernel
theorem dX7_cut_10 : decode cX7_cut 10 = .ok (.iconst 1, 1) := by decide +kernel
theorem dX7_cut_11 : decode cX7_cut 11 = .ok (.if_icmp .ne 8, 3) := by decide +kernel
theorem dX7_cut_14 : decode cX7_cut 14 = .ok (.iload_n 1, 1) := by decide +kernel
theorem dX7_cut_15 : decode cX7_cut 15 = .ok (.i2s, 1) := by decide +kernel
theorem dX7_cut_16 : decode cX7_cut 16 = .ok (.goto 4, 3) := by decide +kernel
theorem dX7_cut_19 : decode cX7_cut 19 = .ok (.iload_n 1, 1) := by decide +kernel
theorem dX7_cut_20 : decode cX7_cut 20 = .ok (.ireturn, 1) := by decide +kernel
set_option maxRecDepth 20000 in
theorem ggX7_lay_X7_isSheet : GoodIn wsX7_lay wsX7_isSheet := goodIn_r _ [6, 7, 8, 9, 5, 10] (by decide +kernel) (by decide +kernel)
set_option maxRecDepth 20000 in
theorem gX7_lay_X7_isSheet : GoodIn wsX7_lay (va_wsS RX7 86 yX7_isSheet wsX7_isSheet) := goodIn_app (goodIn_of _ (by decide +kernel)) ggX7_lay_X7_isSheet
set_option maxRecDepth 20000 in
theorem ggX7_lay_X7_in : GoodIn wsX7_lay wsX7_in := goodIn_r _ [10] (by decide +kernel) (by decide +kernel)
set_option maxRecDepth 20000 in
theorem gX7_lay_X7_in : GoodIn wsX7_lay (va_wsS RX7 76 yX7_in wsX7_in) := goodIn_app (goodIn_of _ (by decide +kernel)) ggX7_lay_X7_in
set_option maxRecDepth 20000 in
theorem ggX7_lay_X7_lacks : GoodIn wsX7_lay wsX7_lacks := goodIn_r _ [14, 15, 16, 17, 18, 19, 5, 20, 21, 8, 9, 10, 25, 26, 27, 28, 29, 30, 31, 32, 33, 34, 35, 36, 37, 38, 39, 40, 41, 42, 43, 44, 45, 46, 47, 48, 49, 50, 51, 52] (by decide +kernel) (by decide +kernel)
set_option maxRecDepth 20000 in
theorem gX7_lay_X7_lacks : GoodIn wsX7_lay (wsV RX7 96 RX7 yX7_lacks wsX7_lacks) := goodIn_app (goodIn_of _ (by decide +kernel)) ggX7_lay_X7_lacks
set_option maxRecDepth 20000 in
theorem ggX7_lay_X7_cut : GoodIn wsX7_lay wsX7_cut := goodIn_r _ [24] (by decide +kernel) (by decide +kernel)
set_option maxRecDepth 20000 in
theorem gX7_lay_X7_cut : GoodIn wsX7_lay (va_wsS RX7 100 yX7_cut wsX7_cut) := goodIn_app (goodIn_of _ (by decide +kernel)) ggX7_lay_X7_cut
theorem dX7_lay_0 : decode cX7_lay 0 = .ok (.iload_n 1, 1) := by decide +kernel
theorem dX7_lay_1 : decode cX7_lay 1 = .ok (.invokestatic 86, 3) := by decide +kernel
theorem dX7_lay_4 : decode cX7_lay 4 = .ok (.ifCond .eq 15, 3) := by decide +kernel
theorem dX7_lay_7 : decode cX7_lay 7 = .ok (.iload_n 2, 1) := by decide +kernel
theorem dX7_lay_8 : decode cX7_lay 8 = .ok (.i2l, 1) := by decide +kernel
theorem dX7_lay_9 : decode cX7_lay 9 = .ok (.lconst 0, 1) := by decide +kernel
theorem dX7_lay_10 : decode cX7_lay 10 = .ok (.ldc2_w 90, 3) := by decide +kernel
theorem dX7_lay_13 : decode cX7_lay 13 = .ok (.invokestatic 76, 3) := by decide +kernel
theorem dX7_lay_16 : decode cX7_lay 16 = .ok (.ifCond .ne 6, 3) := by decide +kernel
theorem dX7_lay_19 : decode cX7_lay 19 = .ok (.bipush (-2), 2) := by decide +kernel
theorem dX7_lay_21 : decode cX7_lay 21 = .ok (.ireturn, 1) := by decide +kernel
theorem dX7_lay_22 : decode cX7_lay 22 = .ok (.aload_n 0, 1) := by decide +kernel
theorem dX7_lay_23 : decode cX7_lay 23 = .ok (.iload_n 1, 1) := by decide +kernel
theorem dX7_lay_24 : decode cX7_lay 24 = .ok (.iload_n 2, 1) := by decide +kernel
theorem dX7_lay_25 : decode cX7_lay 25 = .ok (.iload_n 3, 1) := by decide +kernel
theorem dX7_lay_26 : decode cX7_lay 26 = .ok (.invokevirtual 96, 3) := by decide +kernel
theorem dX7_lay_29 : decode cX7_lay 29 = .ok (.istore 5, 2) := by decide +kernel
theorem dX7_lay_31 : decode cX7_lay 31 = .ok (.iload 5, 2) := by decide +kernel
theorem dX7_lay_33 : decode cX7_lay 33 = .ok (.ifCond .eq 6, 3) := by decide +kernel
theorem dX7_lay_36 : decode cX7_lay 36 = .ok (.iload 5, 2) := by decide +kernel
theorem dX7_lay_38 : decode cX7_lay 38 = .ok (.ireturn, 1) := by decide +kernel
theorem dX7_lay_39 : decode cX7_lay 39 = .ok (.aload_n 0, 1) := by decide +kernel
theorem dX7_lay_40 : decode cX7_lay 40 = .ok (.getfield 16, 3) := by decide +kernel
theorem dX7_lay_43 : decode cX7_lay 43 = .ok (.bipush 60, 2) := by decide +kernel
theorem dX7_lay_45 : decode cX7_lay 45 = .ok (.iload_n 1, 1) := by decide +kernel
theorem dX7_lay_46 : decode cX7_lay 46 = .ok (.imul, 1) := by decide +kernel
theorem dX7_lay_47 : decode cX7_lay 47 = .ok (.iload_n 3, 1) := by decide +kernel
theorem dX7_lay_48 : decode cX7_lay 48 = .ok (.iadd, 1) := by decide +kernel
theorem dX7_lay_49 : decode cX7_lay 49 = .ok (.iload_n 2, 1) := by decide +kernel
theorem dX7_lay_50 : decode cX7_lay 50 = .ok (.iload 4, 2) := by decide +kernel
theorem dX7_lay_52 : decode cX7_lay 52 = .ok (.invokestatic 100, 3) := by decide +kernel
theorem dX7_lay_55 : decode cX7_lay 55 = .ok (.iastore, 1) := by decide +kernel
theorem dX7_lay_56 : decode cX7_lay 56 = .ok (.iconst 1, 1) := by decide +kernel
theorem dX7_lay_57 : decode cX7_lay 57 = .ok (.ireturn, 1) := by decide +kernel
set_option maxRecDepth 20000 in
theorem ggX7_get_X7_isSheet : GoodIn wsX7_get wsX7_isSheet := goodIn_r _ [7, 8, 9, 10, 6, 11] (by decide +kernel) (by decide +kernel)
set_option maxRecDepth 20000 in
theorem gX7_get_X7_isSheet : GoodIn wsX7_get (va_wsS RX7 86 yX7_isSheet wsX7_isSheet) := goodIn_app (goodIn_of _ (by decide +kernel)) ggX7_get_X7_isSheet
set_option maxRecDepth 20000 in
theorem ggX7_get_X7_in : GoodIn wsX7_get wsX7_in := goodIn_r _ [11] (by decide +kernel) (by decide +kernel)
set_option maxRecDepth 20000 in
theorem gX7_get_X7_in : GoodIn wsX7_get (va_wsS RX7 76 yX7_in wsX7_in) := goodIn_app (goodIn_of _ (by decide +kernel)) ggX7_get_X7_in
set_option maxRecDepth 20000 in
theorem ggX7_get_X7_lacks : GoodIn wsX7_get wsX7_lacks := goodIn_r _ [15, 16, 17, 18, 19, 20, 6, 21, 22, 9, 10, 11, 23, 24, 25, 26, 27, 28, 29, 30, 31, 32, 33, 34, 35, 36, 37, 38, 39, 40, 41, 42, 43, 44, 45, 46, 47, 48, 49, 50] (by decide +kernel) (by decide +kernel)
set_option maxRecDepth 20000 in
theorem gX7_get_X7_lacks : GoodIn wsX7_get (wsV RX7 96 RX7 yX7_lacks wsX7_lacks) := goodIn_app (goodIn_of _ (by decide +kernel)) ggX7_get_X7_lacks
theorem dX7_get_0 : decode cX7_get 0 = .ok (.iload_n 1, 1) := by decide +kernel
theorem dX7_get_1 : decode cX7_get 1 = .ok (.invokestatic 86, 3) := by decide +kernel
theorem dX7_get_4 : decode cX7_get 4 = .ok (.ifCond .eq 25, 3) := by decide +kernel
theorem dX7_get_7 : decode cX7_get 7 = .ok (.iload_n 2, 1) := by decide +kernel
theorem dX7_get_8 : decode cX7_get 8 = .ok (.i2l, 1) := by decide +kernel
theorem dX7_get_9 : decode cX7_get 9 = .ok (.lconst 0, 1) := by decide +kernel
theorem dX7_get_10 : decode cX7_get 10 = .ok (.ldc2_w 90, 3) := by decide +kernel
theorem dX7_get_13 : decode cX7_get 13 = .ok (.invokestatic 76, 3) := by decide +kernel
theorem dX7_get_16 : decode cX7_get 16 = .ok (.ifCond .eq 13, 3) := by decide +kernel
theorem dX7_get_19 : decode cX7_get 19 = .ok (.aload_n 0, 1) := by decide +kernel
theorem dX7_get_20 : decode cX7_get 20 = .ok (.iload_n 1, 1) := by decide +kernel
theorem dX7_get_21 : decode cX7_get 21 = .ok (.iload_n 2, 1) := by decide +kernel
theorem dX7_get_22 : decode cX7_get 22 = .ok (.iload_n 3, 1) := by decide +kernel
theorem dX7_get_23 : decode cX7_get 23 = .ok (.invokevirtual 96, 3) := by decide +kernel
theorem dX7_get_26 : decode cX7_get 26 = .ok (.ifCond .eq 6, 3) := by decide +kernel
theorem dX7_get_29 : decode cX7_get 29 = .ok (.ldc 104, 2) := by decide +kernel
theorem dX7_get_31 : decode cX7_get 31 = .ok (.ireturn, 1) := by decide +kernel
theorem dX7_get_32 : decode cX7_get 32 = .ok (.aload_n 0, 1) := by decide +kernel
theorem dX7_get_33 : decode cX7_get 33 = .ok (.getfield 16, 3) := by decide +kernel
theorem dX7_get_36 : decode cX7_get 36 = .ok (.bipush 60, 2) := by decide +kernel
theorem dX7_get_38 : decode cX7_get 38 = .ok (.iload_n 1, 1) := by decide +kernel
theorem dX7_get_39 : decode cX7_get 39 = .ok (.imul, 1) := by decide +kernel
theorem dX7_get_40 : decode cX7_get 40 = .ok (.iload_n 3, 1) := by decide +kernel
theorem dX7_get_41 : decode cX7_get 41 = .ok (.iadd, 1) := by decide +kernel
theorem dX7_get_42 : decode cX7_get 42 = .ok (.iaload, 1) := by decide +kernel
theorem dX7_get_43 : decode cX7_get 43 = .ok (.ireturn, 1) := by decide +kernel
set_option maxRecDepth 20000 in
theorem ggX7_copy_X7_isSheet : GoodIn wsX7_copy wsX7_isSheet := goodIn_r _ [8, 9, 10, 11, 7, 12] (by decide +kernel) (by decide +kernel)
set_option maxRecDepth 20000 in
theorem gX7_copy_X7_isSheet : GoodIn wsX7_copy (va_wsS RX7 86 yX7_isSheet wsX7_isSheet) := goodIn_app (goodIn_of _ (by decide +kernel)) ggX7_copy_X7_isSheet
set_option maxRecDepth 20000 in
theorem ggX7_copy_X7_met : GoodIn wsX7_copy wsX7_met := goodIn_r _ [16, 17, 18, 19, 20, 21, 22, 23, 24, 25, 26, 27, 28, 29, 30, 31, 32, 33, 34, 35, 36, 37, 38, 39, 40, 41, 42, 43, 44, 45] (by decide +kernel) (by decide +kernel)
set_option maxRecDepth 20000 in
theorem gX7_copy_X7_met : GoodIn wsX7_copy (wsV RX7 92 RX7 yX7_met wsX7_met) := goodIn_app (goodIn_of _ (by decide +kernel)) ggX7_copy_X7_met
theorem dX7_copy_0 : decode cX7_copy 0 = .ok (.iload_n 1, 1) := by decide +kernel
theorem dX7_copy_1 : decode cX7_copy 1 = .ok (.invokestatic 86, 3) := by decide +kernel
theorem dX7_copy_4 : decode cX7_copy 4 = .ok (.ifCond .eq 10, 3) := by decide +kernel
theorem dX7_copy_7 : decode cX7_copy 7 = .ok (.iload_n 3, 1) := by decide +kernel
theorem dX7_copy_8 : decode cX7_copy 8 = .ok (.invokestatic 86, 3) := by decide +kernel
theorem dX7_copy_11 : decode cX7_copy 11 = .ok (.ifCond .ne 6, 3) := by decide +kernel
theorem dX7_copy_14 : decode cX7_copy 14 = .ok (.bipush (-2), 2) := by decide +kernel
theorem dX7_copy_16 : decode cX7_copy 16 = .ok (.ireturn, 1) := by decide +kernel
theorem dX7_copy_17 : decode cX7_copy 17 = .ok (.aload_n 0, 1) := by decide +kernel
theorem dX7_copy_18 : decode cX7_copy 18 = .ok (.getfield 7, 3) := by decide +kernel
theorem dX7_copy_21 : decode cX7_copy 21 = .ok (.iload_n 1, 1) := by decide +kernel
theorem dX7_copy_22 : decode cX7_copy 22 = .ok (.iaload, 1) := by decide +kernel
theorem dX7_copy_23 : decode cX7_copy 23 = .ok (.ifCond .lt 12, 3) := by decide +kernel
theorem dX7_copy_26 : decode cX7_copy 26 = .ok (.aload_n 0, 1) := by decide +kernel
theorem dX7_copy_27 : decode cX7_copy 27 = .ok (.getfield 7, 3) := by decide +kernel
theorem dX7_copy_30 : decode cX7_copy 30 = .ok (.iload_n 3, 1) := by decide +kernel
theorem dX7_copy_31 : decode cX7_copy 31 = .ok (.iaload, 1) := by decide +kernel
theorem dX7_copy_32 : decode cX7_copy 32 = .ok (.ifCond .ge 9, 3) := by decide +kernel
theorem dX7_copy_35 : decode cX7_copy 35 = .ok (.aload_n 0, 1) := by decide +kernel
theorem dX7_copy_36 : decode cX7_copy 36 = .ok (.iconst 1, 1) := by decide +kernel
theorem dX7_copy_37 : decode cX7_copy 37 = .ok (.invokevirtual 92, 3) := by decide +kernel
theorem dX7_copy_40 : decode cX7_copy 40 = .ok (.ireturn, 1) := by decide +kernel
theorem dX7_copy_41 : decode cX7_copy 41 = .ok (.aload_n 0, 1) := by decide +kernel
theorem dX7_copy_42 : decode cX7_copy 42 = .ok (.getfield 7, 3) := by decide +kernel
theorem dX7_copy_45 : decode cX7_copy 45 = .ok (.iload_n 1, 1) := by decide +kernel
theorem dX7_copy_46 : decode cX7_copy 46 = .ok (.iaload, 1) := by decide +kernel
theorem dX7_copy_47 : decode cX7_copy 47 = .ok (.aload_n 0, 1) := by decide +kernel
theorem dX7_copy_48 : decode cX7_copy 48 = .ok (.getfield 7, 3) := by decide +kernel
theorem dX7_copy_51 : decode cX7_copy 51 = .ok (.iload_n 3, 1) := by decide +kernel
theorem dX7_copy_52 : decode cX7_copy 52 = .ok (.iaload, 1) := by decide +kernel
theorem dX7_copy_53 : decode cX7_copy 53 = .ok (.if_icmp .eq 9, 3) := by decide +kernel
theorem dX7_copy_56 : decode cX7_copy 56 = .ok (.aload_n 0, 1) := by decide +kernel
theorem dX7_copy_57 : decode cX7_copy 57 = .ok (.iconst 4, 1) := by decide +kernel
theorem dX7_copy_58 : decode cX7_copy 58 = .ok (.invokevirtual 92, 3) := by decide +kernel
theorem dX7_copy_61 : decode cX7_copy 61 = .ok (.ireturn, 1) := by decide +kernel
theorem dX7_copy_62 : decode cX7_copy 62 = .ok (.iload_n 2, 1) := by decide +kernel
theorem dX7_copy_63 : decode cX7_copy 63 = .ok (.ifCond .lt 48, 3) := by decide +kernel
theorem dX7_copy_66 : decode cX7_copy 66 = .ok (.iload 4, 2) := by decide +kernel
theorem dX7_copy_68 : decode cX7_copy 68 = .ok (.ifCond .lt 43, 3) := by decide +kernel
theorem dX7_copy_71 : decode cX7_copy 71 = .ok (.iload 5, 2) := by decide +kernel
theorem dX7_copy_73 : decode cX7_copy 73 = .ok (.ifCond .lt 38, 3) := by decide +kernel
theorem dX7_copy_76 : decode cX7_copy 76 = .ok (.iload_n 2, 1) := by decide +kernel
theorem dX7_copy_77 : decode cX7_copy 77 = .ok (.i2l, 1) := by decide +kernel
theorem dX7_copy_78 : decode cX7_copy 78 = .ok (.iload 5, 2) := by decide +kernel
theorem dX7_copy_80 : decode cX7_copy 80 = .ok (.i2l, 1) := by decide +kernel
theorem dX7_copy_81 : decode cX7_copy 81 = .ok (.ladd, 1) := by decide +kernel
theorem dX7_copy_82 : decode cX7_copy 82 = .ok (.aload_n 0, 1) := by decide +kernel
theorem dX7_copy_83 : decode cX7_copy 83 = .ok (.getfield 13, 3) := by decide +kernel
theorem dX7_copy_86 : decode cX7_copy 86 = .ok (.iload_n 1, 1) := by decide +kernel
theorem dX7_copy_87 : decode cX7_copy 87 = .ok (.iaload, 1) := by decide +kernel
theorem dX7_copy_88 : decode cX7_copy 88 = .ok (.i2l, 1) := by decide +kernel
theorem dX7_copy_89 : decode cX7_copy 89 = .ok (.lcmp, 1) := by decide +kernel
theorem dX7_copy_90 : decode cX7_copy 90 = .ok (.ifCond .gt 21, 3) := by decide +kernel
theorem dX7_copy_93 : decode cX7_copy 93 = .ok (.iload 4, 2) := by decide +kernel
theorem dX7_copy_95 : decode cX7_copy 95 = .ok (.i2l, 1) := by decide +kernel
theorem dX7_copy_96 : decode cX7_copy 96 = .ok (.iload 5, 2) := by decide +kernel
theorem dX7_copy_98 : decode cX7_copy 98 = .ok (.i2l, 1) := by decide +kernel
theorem dX7_copy_99 : decode cX7_copy 99 = .ok (.ladd, 1) := by decide +kernel
theorem dX7_copy_100 : decode cX7_copy 100 = .ok (.aload_n 0, 1) := by decide +kernel
theorem dX7_copy_101 : decode cX7_copy 101 = .ok (.getfield 13, 3) := by decide +kernel
theorem dX7_copy_104 : decode cX7_copy 104 = .ok (.iload_n 3, 1) := by decide +kernel
theorem dX7_copy_105 : decode cX7_copy 105 = .ok (.iaload, 1) := by decide +kernel
theorem dX7_copy_106 : decode cX7_copy 106 = .ok (.i2l, 1) := by decide +kernel
theorem dX7_copy_107 : decode cX7_copy 107 = .ok (.lcmp, 1) := by decide +kernel
theorem dX7_copy_108 : decode cX7_copy 108 = .ok (.ifCond .le 9, 3) := by decide +kernel
theorem dX7_copy_111 : decode cX7_copy 111 = .ok (.aload_n 0, 1) := by decide +kernel
theorem dX7_copy_112 : decode cX7_copy 112 = .ok (.iconst 2, 1) := by decide +kernel
theorem dX7_copy_113 : decode cX7_copy 113 = .ok (.invokevirtual 92, 3) := by decide +kernel
theorem dX7_copy_116 : decode cX7_copy 116 = .ok (.ireturn, 1) := by decide +kernel
theorem dX7_copy_117 : decode cX7_copy 117 = .ok (.iconst 0, 1) := by decide +kernel
theorem dX7_copy_118 : decode cX7_copy 118 = .ok (.istore 6, 2) := by decide +kernel
theorem dX7_copy_120 : decode cX7_copy 120 = .ok (.iload 6, 2) := by decide +kernel
theorem dX7_copy_122 : decode cX7_copy 122 = .ok (.iload 5, 2) := by decide +kernel
theorem dX7_copy_124 : decode cX7_copy 124 = .ok (.if_icmp .ge 30, 3) := by decide +kernel
theorem dX7_copy_127 : decode cX7_copy 127 = .ok (.aload_n 0, 1) := by decide +kernel
theorem dX7_copy_128 : decode cX7_copy 128 = .ok (.getfield 19, 3) := by decide +kernel
theorem dX7_copy_131 : decode cX7_copy 131 = .ok (.iload 6, 2) := by decide +kernel
theorem dX7_copy_133 : decode cX7_copy 133 = .ok (.aload_n 0, 1) := by decide +kernel
theorem dX7_copy_134 : decode cX7_copy 134 = .ok (.getfield 16, 3) := by decide +kernel
theorem dX7_copy_137 : decode cX7_copy 137 = .ok (.bipush 60, 2) := by decide +kernel
theorem dX7_copy_139 : decode cX7_copy 139 = .ok (.iload_n 1, 1) := by decide +kernel
theorem dX7_copy_140 : decode cX7_copy 140 = .ok (.imul, 1) := by decide +kernel
theorem dX7_copy_141 : decode cX7_copy 141 = .ok (.iload_n 2, 1) := by decide +kernel
theorem dX7_copy_142 : decode cX7_copy 142 = .ok (.iadd, 1) := by decide +kernel
theorem dX7_copy_143 : decode cX7_copy 143 = .ok (.iload 6, 2) := by decide +kernel
theorem dX7_copy_145 : decode cX7_copy 145 = .ok (.iadd, 1) := by decide +kernel
theorem dX7_copy_146 : decode cX7_copy 146 = .ok (.iaload, 1) := by decide +kernel
theorem dX7_copy_147 : decode cX7_copy 147 = .ok (.iastore, 1) := by decide +kernel
theorem dX7_copy_148 : decode cX7_copy 148 = .ok (.iinc 6 1, 3) := by decide +kernel
theorem dX7_copy_151 : decode cX7_copy 151 = .ok (.goto (-31), 3) := by decide +kernel
theorem dX7_copy_154 : decode cX7_copy 154 = .ok (.iconst 0, 1) := by decide +kernel
theorem dX7_copy_155 : decode cX7_copy 155 = .ok (.istore 6, 2) := by decide +kernel
theorem dX7_copy_157 : decode cX7_copy 157 = .ok (.iload 6, 2) := by decide +kernel
theorem dX7_copy_159 : decode cX7_copy 159 = .ok (.iload 5, 2) := by decide +kernel
theorem dX7_copy_161 : decode cX7_copy 161 = .ok (.if_icmp .ge 31, 3) := by decide +kernel
theorem dX7_copy_164 : decode cX7_copy 164 = .ok (.aload_n 0, 1) := by decide +kernel
theorem dX7_copy_165 : decode cX7_copy 165 = .ok (.getfield 16, 3) := by decide +kernel
theorem dX7_copy_168 : decode cX7_copy 168 = .ok (.bipush 60, 2) := by decide +kernel
theorem dX7_copy_170 : decode cX7_copy 170 = .ok (.iload_n 3, 1) := by decide +kernel
theorem dX7_copy_171 : decode cX7_copy 171 = .ok (.imul, 1) := by decide +kernel
theorem dX7_copy_172 : decode cX7_copy 172 = .ok (.iload 4, 2) := by decide +kernel
theorem dX7_copy_174 : decode cX7_copy 174 = .ok (.iadd, 1) := by decide +kernel
theorem dX7_copy_175 : decode cX7_copy 175 = .ok (.iload 6, 2) := by decide +kernel
theorem dX7_copy_177 : decode cX7_copy 177 = .ok (.iadd, 1) := by decide +kernel
theorem dX7_copy_178 : decode cX7_copy 178 = .ok (.aload_n 0, 1) := by decide +kernel
theorem dX7_copy_179 : decode cX7_copy 179 = .ok (.getfield 19, 3) := by decide +kernel
theorem dX7_copy_182 : decode cX7_copy 182 = .ok (.iload 6, 2) := by decide +kernel
theorem dX7_copy_184 : decode cX7_copy 184 = .ok (.iaload, 1) := by decide +kernel
theorem dX7_copy_185 : decode cX7_copy 185 = .ok (.iastore, 1) := by decide +kernel
theorem dX7_copy_186 : decode cX7_copy 186 = .ok (.iinc 6 1, 3) := by decide +kernel
theorem dX7_copy_189 : decode cX7_copy 189 = .ok (.goto (-32), 3) := by decide +kernel
theorem dX7_copy_192 : decode cX7_copy 192 = .ok (.iconst 1, 1) := by decide +kernel
theorem dX7_copy_193 : decode cX7_copy 193 = .ok (.ireturn, 1) := by decide +kernel
theorem dX7_divisor_0 : decode cX7_divisor 0 = .ok (.lload_n 0, 1) := by decide +kernel
theorem dX7_divisor_1 : decode cX7_divisor 1 = .ok (.lconst 0, 1) := by decide +kernel
theorem dX7_divisor_2 : decode cX7_divisor 2 = .ok (.lcmp, 1) := by decide +kernel
theorem dX7_divisor_3 : decode cX7_divisor 3 = .ok (.ifCond .ge 8, 3) := by decide +kernel
theorem dX7_divisor_6 : decode cX7_divisor 6 = .ok (.lload_n 0, 1) := by decide +kernel
theorem dX7_divisor_7 : decode cX7_divisor 7 = .ok (.lneg, 1) := by decide +kernel
theorem dX7_divisor_8 : decode cX7_divisor 8 = .ok (.goto 4, 3) := by decide +kernel
theorem dX7_divisor_11 : decode cX7_divisor 11 = .ok (.lload_n 0, 1) := by decide +kernel
theorem dX7_divisor_12 : decode cX7_divisor 12 = .ok (.lstore 4, 2) := by decide +kernel
theorem dX7_divisor_14 : decode cX7_divisor 14 = .ok (.lload_n 2, 1) := by decide +kernel
theorem dX7_divisor_15 : decode cX7_divisor 15 = .ok (.lstore 6, 2) := by decide +kernel
theorem dX7_divisor_17 : decode cX7_divisor 17 = .ok (.lload 6, 2) := by decide +kernel
theorem dX7_divisor_19 : decode cX7_divisor 19 = .ok (.lconst 0, 1) := by decide +kernel
theorem dX7_divisor_20 : decode cX7_divisor 20 = .ok (.lcmp, 1) := by decide +kernel
theorem dX7_divisor_21 : decode cX7_divisor 21 = .ok (.ifCond .eq 21, 3) := by decide +kernel
theorem dX7_divisor_24 : decode cX7_divisor 24 = .ok (.lload 4, 2) := by decide +kernel
theorem dX7_divisor_26 : decode cX7_divisor 26 = .ok (.lload 6, 2) := by decide +kernel
theorem dX7_divisor_28 : decode cX7_divisor 28 = .ok (.lrem, 1) := by decide +kernel
theorem dX7_divisor_29 : decode cX7_divisor 29 = .ok (.lstore 8, 2) := by decide +kernel
theorem dX7_divisor_31 : decode cX7_divisor 31 = .ok (.lload 6, 2) := by decide +kernel
theorem dX7_divisor_33 : decode cX7_divisor 33 = .ok (.lstore 4, 2) := by decide +kernel
theorem dX7_divisor_35 : decode cX7_divisor 35 = .ok (.lload 8, 2) := by decide +kernel
theorem dX7_divisor_37 : decode cX7_divisor 37 = .ok (.lstore 6, 2) := by decide +kernel
theorem dX7_divisor_39 : decode cX7_divisor 39 = .ok (.goto (-22), 3) := by decide +kernel
theorem dX7_divisor_42 : decode cX7_divisor 42 = .ok (.lload 4, 2) := by decide +kernel
theorem dX7_divisor_44 : decode cX7_divisor 44 = .ok (.lreturn, 1) := by decide +kernel
set_option maxRecDepth 20000 in
theorem ggX7_part_X7_divisor : GoodIn wsX7_part wsX7_divisor := goodIn_r _ [4] (by decide +kernel) (by decide +kernel)
set_option maxRecDepth 20000 in
theorem gX7_part_X7_divisor : GoodIn wsX7_part (va_wsS RX7 105 yX7_divisor wsX7_divisor) := goodIn_app (goodIn_of _ (by decide +kernel)) ggX7_part_X7_divisor
theorem dX7_part_0 : decode cX7_part 0 = .ok (.iload 4, 2) := by decide +kernel
theorem dX7_part_2 : decode cX7_part 2 = .ok (.ifCond .ne 7, 3) := by decide +kernel
theorem dX7_part_5 : decode cX7_part 5 = .ok (.lload_n 0, 1) := by decide +kernel
theorem dX7_part_6 : decode cX7_part 6 = .ok (.goto 4, 3) := by decide +kernel
theorem dX7_part_9 : decode cX7_part 9 = .ok (.lload_n 2, 1) := by decide +kernel
theorem dX7_part_10 : decode cX7_part 10 = .ok (.lload_n 0, 1) := by decide +kernel
theorem dX7_part_11 : decode cX7_part 11 = .ok (.lload_n 2, 1) := by decide +kernel
theorem dX7_part_12 : decode cX7_part 12 = .ok (.invokestatic 105, 3) := by decide +kernel
theorem dX7_part_15 : decode cX7_part 15 = .ok (.ldiv, 1) := by decide +kernel
theorem dX7_part_16 : decode cX7_part 16 = .ok (.lreturn, 1) := by decide +kernel
theorem dX7_choices_0 : decode cX7_choices 0 = .ok (.lconst 1, 1) := by decide +kernel
theorem dX7_choices_1 : decode cX7_choices 1 = .ok (.lstore_n 2, 1) := by decide +kernel
theorem dX7_choices_2 : decode cX7_choices 2 = .ok (.iconst 0, 1) := by decide +kernel
theorem dX7_choices_3 : decode cX7_choices 3 = .ok (.istore 4, 2) := by decide +kernel
theorem dX7_choices_5 : decode cX7_choices 5 = .ok (.iload 4, 2) := by decide +kernel
theorem dX7_choices_7 : decode cX7_choices 7 = .ok (.iload_n 1, 1) := by decide +kernel
theorem dX7_choices_8 : decode cX7_choices 8 = .ok (.if_icmp .ge 23, 3) := by decide +kernel
theorem dX7_choices_11 : decode cX7_choices 11 = .ok (.lload_n 2, 1) := by decide +kernel
theorem dX7_choices_12 : decode cX7_choices 12 = .ok (.iload_n 0, 1) := by decide +kernel
theorem dX7_choices_13 : decode cX7_choices 13 = .ok (.iload 4, 2) := by decide +kernel
theorem dX7_choices_15 : decode cX7_choices 15 = .ok (.isub, 1) := by decide +kernel
theorem dX7_choices_16 : decode cX7_choices 16 = .ok (.i2l, 1) := by decide +kernel
theorem dX7_choices_17 : decode cX7_choices 17 = .ok (.lmul, 1) := by decide +kernel
theorem dX7_choices_18 : decode cX7_choices 18 = .ok (.iload 4, 2) := by decide +kernel
theorem dX7_choices_20 : decode cX7_choices 20 = .ok (.iconst 1, 1) := by decide +kernel
theorem dX7_choices_21 : decode cX7_choices 21 = .ok (.iadd, 1) := by decide +kernel
theorem dX7_choices_22 : decode cX7_choices 22 = .ok (.i2l, 1) := by decide +kernel
theorem dX7_choices_23 : decode cX7_choices 23 = .ok (.ldiv, 1) := by decide +kernel
theorem dX7_choices_24 : decode cX7_choices 24 = .ok (.lstore_n 2, 1) := by decide +kernel
theorem dX7_choices_25 : decode cX7_choices 25 = .ok (.iinc 4 1, 3) := by decide +kernel
theorem dX7_choices_28 : decode cX7_choices 28 = .ok (.goto (-23), 3) := by decide +kernel
theorem dX7_choices_31 : decode cX7_choices 31 = .ok (.lload_n 2, 1) := by decide +kernel
theorem dX7_choices_32 : decode cX7_choices 32 = .ok (.lreturn, 1) := by decide +kernel
theorem dX7_power_0 : decode cX7_power 0 = .ok (.lconst 1, 1) := by decide +kernel
theorem dX7_power_1 : decode cX7_power 1 = .ok (.lstore_n 2, 1) := by decide +kernel
theorem dX7_power_2 : decode cX7_power 2 = .ok (.iconst 0, 1) := by decide +kernel
theorem dX7_power_3 : decode cX7_power 3 = .ok (.istore 4, 2) := by decide +kernel
theorem dX7_power_5 : decode cX7_power 5 = .ok (.iload 4, 2) := by decide +kernel
theorem dX7_power_7 : decode cX7_power 7 = .ok (.iload_n 1, 1) := by decide +kernel
theorem dX7_power_8 : decode cX7_power 8 = .ok (.if_icmp .ge 14, 3) := by decide +kernel
theorem dX7_power_11 : decode cX7_power 11 = .ok (.lload_n 2, 1) := by decide +kernel
theorem dX7_power_12 : decode cX7_power 12 = .ok (.iload_n 0, 1) := by decide +kernel
theorem dX7_power_13 : decode cX7_power 13 = .ok (.i2l, 1) := by decide +kernel
theorem dX7_power_14 : decode cX7_power 14 = .ok (.lmul, 1) := by decide +kernel
theorem dX7_power_15 : decode cX7_power 15 = .ok (.lstore_n 2, 1) := by decide +kernel
theorem dX7_power_16 : decode cX7_power 16 = .ok (.iinc 4 1, 3) := by decide +kernel
theorem dX7_power_19 : decode cX7_power 19 = .ok (.goto (-14), 3) := by decide +kernel
theorem dX7_power_22 : decode cX7_power 22 = .ok (.lload_n 2, 1) := by decide +kernel
theorem dX7_power_23 : decode cX7_power 23 = .ok (.lreturn, 1) := by decide +kernel
theorem dX7_millionths_0 : decode cX7_millionths 0 = .ok (.ldc2_w 109, 3) := by decide +kernel
theorem dX7_millionths_3 : decode cX7_millionths 3 = .ok (.lload_n 0, 1) := by decide +kernel
theorem dX7_millionths_4 : decode cX7_millionths 4 = .ok (.lmul, 1) := by decide +kernel
theorem dX7_millionths_5 : decode cX7_millionths 5 = .ok (.lload_n 2, 1) := by decide +kernel
theorem dX7_millionths_6 : decode cX7_millionths 6 = .ok (.ldiv, 1) := by decide +kernel
theorem dX7_millionths_7 : decode cX7_millionths 7 = .ok (.l2i, 1) := by decide +kernel
theorem dX7_millionths_8 : decode cX7_millionths 8 = .ok (.ireturn, 1) := by decide +kernel
set_option maxRecDepth 20000 in
theorem ggX7_isYear_X7_in : GoodIn wsX7_isYear wsX7_in := goodIn_r _ [5] (by decide +kernel) (by decide +kernel)
set_option maxRecDepth 20000 in
theorem gX7_isYear_X7_in : GoodIn wsX7_isYear (va_wsS RX7 76 yX7_in wsX7_in) := goodIn_app (goodIn_of _ (by decide +kernel)) ggX7_isYear_X7_in
theorem dX7_isYear_0 : decode cX7_isYear 0 = .ok (.iload_n 0, 1) := by decide +kernel
theorem dX7_isYear_1 : decode cX7_isYear 1 = .ok (.i2l, 1) := by decide +kernel
theorem dX7_isYear_2 : decode cX7_isYear 2 = .ok (.lconst 0, 1) := by decide +kernel
theorem dX7_isYear_3 : decode cX7_isYear 3 = .ok (.ldc2_w 111, 3) := by decide +kernel
theorem dX7_isYear_6 : decode cX7_isYear 6 = .ok (.invokestatic 76, 3) := by decide +kernel
theorem dX7_isYear_9 : decode cX7_isYear 9 = .ok (.ireturn, 1) := by decide +kernel
set_option maxRecDepth 20000 in
theorem ggX7_isLevel_X7_in : GoodIn wsX7_isLevel wsX7_in := goodIn_r _ [5] (by decide +kernel) (by decide +kernel)
set_option maxRecDepth 20000 in
theorem gX7_isLevel_X7_in : GoodIn wsX7_isLevel (va_wsS RX7 76 yX7_in wsX7_in) := goodIn_app (goodIn_of _ (by decide +kernel)) ggX7_isLevel_X7_in
theorem dX7_isLevel_0 : decode cX7_isLevel 0 = .ok (.iload_n 0, 1) := by decide +kernel
theorem dX7_isLevel_1 : decode cX7_isLevel 1 = .ok (.i2l, 1) := by decide +kernel
theorem dX7_isLevel_2 : decode cX7_isLevel 2 = .ok (.lconst 0, 1) := by decide +kernel
theorem dX7_isLevel_3 : decode cX7_isLevel 3 = .ok (.ldc2_w 113, 3) := by decide +kernel
theorem dX7_isLevel_6 : decode cX7_isLevel 6 = .ok (.invokestatic 76, 3) := by decide +kernel
theorem dX7_isLevel_9 : decode cX7_isLevel 9 = .ok (.ireturn, 1) := by decide +kernel
theorem dX7_isEarly_0 : decode cX7_isEarly 0 = .ok (.aload_n 0, 1) := by decide +kernel
theorem dX7_isEarly_1 : decode cX7_isEarly 1 = .ok (.getfield 115, 3) := by decide +kernel
theorem dX7_isEarly_4 : decode cX7_isEarly 4 = .ok (.ifCond .le 22, 3) := by decide +kernel
theorem dX7_isEarly_7 : decode cX7_isEarly 7 = .ok (.iload_n 1, 1) := by decide +kernel
theorem dX7_isEarly_8 : decode cX7_isEarly 8 = .ok (.aload_n 0, 1) := by decide +kernel
theorem dX7_isEarly_9 : decode cX7_isEarly 9 = .ok (.getfield 31, 3) := by decide +kernel
theorem dX7_isEarly_12 : decode cX7_isEarly 12 = .ok (.aload_n 0, 1) := by decide +kernel
theorem dX7_isEarly_13 : decode cX7_isEarly 13 = .ok (.getfield 115, 3) := by decide +kernel
theorem dX7_isEarly_16 : decode cX7_isEarly 16 = .ok (.iconst 1, 1) := by decide +kernel
theorem dX7_isEarly_17 : decode cX7_isEarly 17 = .ok (.isub, 1) := by decide +kernel
theorem dX7_isEarly_18 : decode cX7_isEarly 18 = .ok (.iaload, 1) := by decide +kernel
theorem dX7_isEarly_19 : decode cX7_isEarly 19 = .ok (.if_icmp .ge 7, 3) := by decide +kernel
theorem dX7_isEarly_22 : decode cX7_isEarly 22 = .ok (.iconst 1, 1) := by decide +kernel
theorem dX7_isEarly_23 : decode cX7_isEarly 23 = .ok (.goto 4, 3) := by decide +kernel
theorem dX7_isEarly_26 : decode cX7_isEarly 26 = .ok (.iconst 0, 1) := by decide +kernel
theorem dX7_isEarly_27 : decode cX7_isEarly 27 = .ok (.ireturn, 1) := by decide +kernel
set_option maxRecDepth 20000 in
theorem ggX7_tell_X7_isLevel : GoodIn wsX7_tell wsX7_isLevel := goodIn_r _ [10, 1, 11, 12, 9, 13] (by decide +kernel) (by decide +kernel)
set_option maxRecDepth 20000 in
theorem gX7_tell_X7_isLevel : GoodIn wsX7_tell (va_wsS RX7 118 yX7_isLevel wsX7_isLevel) := goodIn_app (goodIn_of _ (by decide +kernel)) ggX7_tell_X7_isLevel
set_option maxRecDepth 20000 in
theorem ggX7_tell_X7_in : GoodIn wsX7_tell wsX7_in := goodIn_r _ [13] (by decide +kernel) (by decide +kernel)
set_option maxRecDepth 20000 in
theorem gX7_tell_X7_in : GoodIn wsX7_tell (va_wsS RX7 76 yX7_in wsX7_in) := goodIn_app (goodIn_of _ (by decide +kernel)) ggX7_tell_X7_in
set_option maxRecDepth 20000 in
theorem ggX7_tell_X7_isYear : GoodIn wsX7_tell wsX7_isYear := goodIn_r _ [16, 17, 11, 12, 9, 13] (by decide +kernel) (by decide +kernel)
set_option maxRecDepth 20000 in
theorem gX7_tell_X7_isYear : GoodIn wsX7_tell (va_wsS RX7 121 yX7_isYear wsX7_isYear) := goodIn_app (goodIn_of _ (by decide +kernel)) ggX7_tell_X7_isYear
set_option maxRecDepth 20000 in
theorem ggX7_tell_X7_isEarly : GoodIn wsX7_tell wsX7_isEarly := goodIn_r _ [21, 2, 6, 22, 23, 24, 25, 26, 27, 28, 29, 30, 31, 32, 33, 34, 35, 36, 37, 38, 39, 40, 41, 42, 43, 44, 45, 46, 47, 48, 49] (by decide +kernel) (by decide +kernel)
set_option maxRecDepth 20000 in
theorem gX7_tell_X7_isEarly : GoodIn wsX7_tell (wsV RX7 124 RX7 yX7_isEarly wsX7_isEarly) := goodIn_app (goodIn_of _ (by decide +kernel)) ggX7_tell_X7_isEarly
theorem dX7_tell_0 : decode cX7_tell 0 = .ok (.iload_n 2, 1) := by decide +kernel
theorem dX7_tell_1 : decode cX7_tell 1 = .ok (.iconst 2, 1) := by decide +kernel
theorem dX7_tell_2 : decode cX7_tell 2 = .ok (.if_icmp .eq 31, 3) := by decide +kernel
theorem dX7_tell_5 : decode cX7_tell 5 = .ok (.iload_n 2, 1) := by decide +kernel
theorem dX7_tell_6 : decode cX7_tell 6 = .ok (.ifCond .ne 10, 3) := by decide +kernel
theorem dX7_tell_9 : decode cX7_tell 9 = .ok (.iload_n 3, 1) := by decide +kernel
theorem dX7_tell_10 : decode cX7_tell 10 = .ok (.invokestatic 118, 3) := by decide +kernel
theorem dX7_tell_13 : decode cX7_tell 13 = .ok (.ifCond .ne 20, 3) := by decide +kernel
theorem dX7_tell_16 : decode cX7_tell 16 = .ok (.iload_n 2, 1) := by decide +kernel
theorem dX7_tell_17 : decode cX7_tell 17 = .ok (.iconst 1, 1) := by decide +kernel
theorem dX7_tell_18 : decode cX7_tell 18 = .ok (.if_icmp .ne 19, 3) := by decide +kernel
theorem dX7_tell_21 : decode cX7_tell 21 = .ok (.iload_n 3, 1) := by decide +kernel
theorem dX7_tell_22 : decode cX7_tell 22 = .ok (.i2l, 1) := by decide +kernel
theorem dX7_tell_23 : decode cX7_tell 23 = .ok (.lconst 1, 1) := by decide +kernel
theorem dX7_tell_24 : decode cX7_tell 24 = .ok (.ldc2_w 113, 3) := by decide +kernel
theorem dX7_tell_27 : decode cX7_tell 27 = .ok (.invokestatic 76, 3) := by decide +kernel
theorem dX7_tell_30 : decode cX7_tell 30 = .ok (.ifCond .eq 7, 3) := by decide +kernel
theorem dX7_tell_33 : decode cX7_tell 33 = .ok (.iconst 1, 1) := by decide +kernel
theorem dX7_tell_34 : decode cX7_tell 34 = .ok (.goto 4, 3) := by decide +kernel
theorem dX7_tell_37 : decode cX7_tell 37 = .ok (.iconst 0, 1) := by decide +kernel
theorem dX7_tell_38 : decode cX7_tell 38 = .ok (.istore 5, 2) := by decide +kernel
theorem dX7_tell_40 : decode cX7_tell 40 = .ok (.iload_n 1, 1) := by decide +kernel
theorem dX7_tell_41 : decode cX7_tell 41 = .ok (.invokestatic 121, 3) := by decide +kernel
theorem dX7_tell_44 : decode cX7_tell 44 = .ok (.ifCond .eq 25, 3) := by decide +kernel
theorem dX7_tell_47 : decode cX7_tell 47 = .ok (.iload 5, 2) := by decide +kernel
theorem dX7_tell_49 : decode cX7_tell 49 = .ok (.ifCond .eq 20, 3) := by decide +kernel
theorem dX7_tell_52 : decode cX7_tell 52 = .ok (.iload 4, 2) := by decide +kernel
theorem dX7_tell_54 : decode cX7_tell 54 = .ok (.invokestatic 118, 3) := by decide +kernel
theorem dX7_tell_57 : decode cX7_tell 57 = .ok (.ifCond .eq 12, 3) := by decide +kernel
theorem dX7_tell_60 : decode cX7_tell 60 = .ok (.aload_n 0, 1) := by decide +kernel
theorem dX7_tell_61 : decode cX7_tell 61 = .ok (.iload 4, 2) := by decide +kernel
theorem dX7_tell_63 : decode cX7_tell 63 = .ok (.invokevirtual 124, 3) := by decide +kernel
theorem dX7_tell_66 : decode cX7_tell 66 = .ok (.ifCond .eq 6, 3) := by decide +kernel
theorem dX7_tell_69 : decode cX7_tell 69 = .ok (.bipush (-2), 2) := by decide +kernel
theorem dX7_tell_71 : decode cX7_tell 71 = .ok (.ireturn, 1) := by decide +kernel
theorem dX7_tell_72 : decode cX7_tell 72 = .ok (.aload_n 0, 1) := by decide +kernel
theorem dX7_tell_73 : decode cX7_tell 73 = .ok (.getfield 115, 3) := by decide +kernel
theorem dX7_tell_76 : decode cX7_tell 76 = .ok (.bipush 120, 2) := by decide +kernel
theorem dX7_tell_78 : decode cX7_tell 78 = .ok (.if_icmp .ne 6, 3) := by decide +kernel
theorem dX7_tell_81 : decode cX7_tell 81 = .ok (.bipush (-4), 2) := by decide +kernel
theorem dX7_tell_83 : decode cX7_tell 83 = .ok (.ireturn, 1) := by decide +kernel
theorem dX7_tell_84 : decode cX7_tell 84 = .ok (.aload_n 0, 1) := by decide +kernel
theorem dX7_tell_85 : decode cX7_tell 85 = .ok (.getfield 22, 3) := by decide +kernel
theorem dX7_tell_88 : decode cX7_tell 88 = .ok (.aload_n 0, 1) := by decide +kernel
theorem dX7_tell_89 : decode cX7_tell 89 = .ok (.getfield 115, 3) := by decide +kernel
theorem dX7_tell_92 : decode cX7_tell 92 = .ok (.iload_n 1, 1) := by decide +kernel
theorem dX7_tell_93 : decode cX7_tell 93 = .ok (.iastore, 1) := by decide +kernel
theorem dX7_tell_94 : decode cX7_tell 94 = .ok (.aload_n 0, 1) := by decide +kernel
theorem dX7_tell_95 : decode cX7_tell 95 = .ok (.getfield 25, 3) := by decide +kernel
theorem dX7_tell_98 : decode cX7_tell 98 = .ok (.aload_n 0, 1) := by decide +kernel
theorem dX7_tell_99 : decode cX7_tell 99 = .ok (.getfield 115, 3) := by decide +kernel
theorem dX7_tell_102 : decode cX7_tell 102 = .ok (.iload_n 2, 1) := by decide +kernel
theorem dX7_tell_103 : decode cX7_tell 103 = .ok (.iastore, 1) := by decide +kernel
theorem dX7_tell_104 : decode cX7_tell 104 = .ok (.aload_n 0, 1) := by decide +kernel
theorem dX7_tell_105 : decode cX7_tell 105 = .ok (.getfield 28, 3) := by decide +kernel
theorem dX7_tell_108 : decode cX7_tell 108 = .ok (.aload_n 0, 1) := by decide +kernel
theorem dX7_tell_109 : decode cX7_tell 109 = .ok (.getfield 115, 3) := by decide +kernel
theorem dX7_tell_112 : decode cX7_tell 112 = .ok (.iload_n 3, 1) := by decide +kernel
theorem dX7_tell_113 : decode cX7_tell 113 = .ok (.iastore, 1) := by decide +kernel
theorem dX7_tell_114 : decode cX7_tell 114 = .ok (.aload_n 0, 1) := by decide +kernel
theorem dX7_tell_115 : decode cX7_tell 115 = .ok (.getfield 31, 3) := by decide +kernel
theorem dX7_tell_118 : decode cX7_tell 118 = .ok (.aload_n 0, 1) := by decide +kernel
theorem dX7_tell_119 : decode cX7_tell 119 = .ok (.getfield 115, 3) := by decide +kernel
theorem dX7_tell_122 : decode cX7_tell 122 = .ok (.iload 4, 2) := by decide +kernel
theorem dX7_tell_124 : decode cX7_tell 124 = .ok (.iastore, 1) := by decide +kernel
theorem dX7_tell_125 : decode cX7_tell 125 = .ok (.aload_n 0, 1) := by decide +kernel
theorem dX7_tell_126 : decode cX7_tell 126 = .ok (.dup, 1) := by decide +kernel
theorem dX7_tell_127 : decode cX7_tell 127 = .ok (.getfield 115, 3) := by decide +kernel
theorem dX7_tell_130 : decode cX7_tell 130 = .ok (.iconst 1, 1) := by decide +kernel
theorem dX7_tell_131 : decode cX7_tell 131 = .ok (.iadd, 1) := by decide +kernel
theorem dX7_tell_132 : decode cX7_tell 132 = .ok (.putfield 115, 3) := by decide +kernel
theorem dX7_tell_135 : decode cX7_tell 135 = .ok (.aload_n 0, 1) := by decide +kernel
theorem dX7_tell_136 : decode cX7_tell 136 = .ok (.getfield 115, 3) := by decide +kernel
theorem dX7_tell_139 : decode cX7_tell 139 = .ok (.ireturn, 1) := by decide +kernel
set_option maxRecDepth 20000 in
theorem ggX7_read_X7_isSheet : GoodIn wsX7_read wsX7_isSheet := goodIn_r _ [7, 8, 9, 10, 6, 11] (by decide +kernel) (by decide +kernel)
set_option maxRecDepth 20000 in
theorem gX7_read_X7_isSheet : GoodIn wsX7_read (va_wsS RX7 86 yX7_isSheet wsX7_isSheet) := goodIn_app (goodIn_of _ (by decide +kernel)) ggX7_read_X7_isSheet
set_option maxRecDepth 20000 in
theorem ggX7_read_X7_isYear : GoodIn wsX7_read wsX7_isYear := goodIn_r _ [14, 15, 9, 10, 6, 11] (by decide +kernel) (by decide +kernel)
set_option maxRecDepth 20000 in
theorem gX7_read_X7_isYear : GoodIn wsX7_read (va_wsS RX7 121 yX7_isYear wsX7_isYear) := goodIn_app (goodIn_of _ (by decide +kernel)) ggX7_read_X7_isYear
set_option maxRecDepth 20000 in
theorem ggX7_read_X7_isLevel : GoodIn wsX7_read wsX7_isLevel := goodIn_r _ [18, 19, 9, 10, 6, 11] (by decide +kernel) (by decide +kernel)
set_option maxRecDepth 20000 in
theorem gX7_read_X7_isLevel : GoodIn wsX7_read (va_wsS RX7 118 yX7_isLevel wsX7_isLevel) := goodIn_app (goodIn_of _ (by decide +kernel)) ggX7_read_X7_isLevel
set_option maxRecDepth 20000 in
theorem ggX7_read_X7_isEarly : GoodIn wsX7_read wsX7_isEarly := goodIn_r _ [23, 24, 25, 38, 39, 40, 41, 42, 43, 44, 45, 46, 47, 48, 49, 50, 51, 52, 53, 54, 55, 56, 57, 58, 59, 60, 61, 62, 63, 64, 65] (by decide +kernel) (by decide +kernel)
set_option maxRecDepth 20000 in
theorem gX7_read_X7_isEarly : GoodIn wsX7_read (wsV RX7 124 RX7 yX7_isEarly wsX7_isEarly) := goodIn_app (goodIn_of _ (by decide +kernel)) ggX7_read_X7_isEarly
set_option maxRecDepth 20000 in
theorem ggX7_read_X7_met : GoodIn wsX7_read wsX7_met := goodIn_r _ [29, 30, 38, 39, 40, 41, 42, 43, 44, 45, 46, 47, 48, 49, 50, 51, 52, 53, 54, 55, 56, 57, 58, 59, 60, 61, 62, 63, 64, 65] (by decide +kernel) (by decide +kernel)
set_option maxRecDepth 20000 in
theorem gX7_read_X7_met : GoodIn wsX7_read (wsV RX7 92 RX7 yX7_met wsX7_met) := goodIn_app (goodIn_of _ (by decide +kernel)) ggX7_read_X7_met
set_option maxRecDepth 20000 in
theorem ggX7_read_X7_tell : GoodIn wsX7_read wsX7_tell := goodIn_r _ [34, 19, 24, 35, 36, 37, 25, 16, 17, 6, 18, 9, 10, 11, 12, 13, 14, 15, 20, 21, 22, 23, 38, 39, 40, 41, 42, 43, 44, 45, 46, 47, 48, 49, 50, 51, 52, 53, 54, 55, 56, 57, 58, 59, 60, 61, 62, 63, 64, 65] (by decide +kernel) (by decide +kernel)
set_option maxRecDepth 20000 in
theorem gX7_read_X7_tell : GoodIn wsX7_read (wsV RX7 127 RX7 yX7_tell wsX7_tell) := goodIn_app (goodIn_of _ (by decide +kernel)) ggX7_read_X7_tell
theorem dX7_read_0 : decode cX7_read 0 = .ok (.iload_n 1, 1) := by decide +kernel
theorem dX7_read_1 : decode cX7_read 1 = .ok (.invokestatic 86, 3) := by decide +kernel
theorem dX7_read_4 : decode cX7_read 4 = .ok (.ifCond .eq 25, 3) := by decide +kernel
theorem dX7_read_7 : decode cX7_read 7 = .ok (.iload_n 2, 1) := by decide +kernel
theorem dX7_read_8 : decode cX7_read 8 = .ok (.invokestatic 121, 3) := by decide +kernel
theorem dX7_read_11 : decode cX7_read 11 = .ok (.ifCond .eq 18, 3) := by decide +kernel
theorem dX7_read_14 : decode cX7_read 14 = .ok (.iload_n 3, 1) := by decide +kernel
theorem dX7_read_15 : decode cX7_read 15 = .ok (.invokestatic 118, 3) := by decide +kernel
theorem dX7_read_18 : decode cX7_read 18 = .ok (.ifCond .eq 11, 3) := by decide +kernel
theorem dX7_read_21 : decode cX7_read 21 = .ok (.aload_n 0, 1) := by decide +kernel
theorem dX7_read_22 : decode cX7_read 22 = .ok (.iload_n 3, 1) := by decide +kernel
theorem dX7_read_23 : decode cX7_read 23 = .ok (.invokevirtual 124, 3) := by decide +kernel
theorem dX7_read_26 : decode cX7_read 26 = .ok (.ifCond .eq 6, 3) := by decide +kernel
theorem dX7_read_29 : decode cX7_read 29 = .ok (.bipush (-2), 2) := by decide +kernel
theorem dX7_read_31 : decode cX7_read 31 = .ok (.ireturn, 1) := by decide +kernel
theorem dX7_read_32 : decode cX7_read 32 = .ok (.aload_n 0, 1) := by decide +kernel
theorem dX7_read_33 : decode cX7_read 33 = .ok (.getfield 7, 3) := by decide +kernel
theorem dX7_read_36 : decode cX7_read 36 = .ok (.iload_n 1, 1) := by decide +kernel
theorem dX7_read_37 : decode cX7_read 37 = .ok (.iaload, 1) := by decide +kernel
theorem dX7_read_38 : decode cX7_read 38 = .ok (.ifCond .ge 9, 3) := by decide +kernel
theorem dX7_read_41 : decode cX7_read 41 = .ok (.aload_n 0, 1) := by decide +kernel
theorem dX7_read_42 : decode cX7_read 42 = .ok (.iconst 1, 1) := by decide +kernel
theorem dX7_read_43 : decode cX7_read 43 = .ok (.invokevirtual 92, 3) := by decide +kernel
theorem dX7_read_46 : decode cX7_read 46 = .ok (.ireturn, 1) := by decide +kernel
theorem dX7_read_47 : decode cX7_read 47 = .ok (.iconst 0, 1) := by decide +kernel
theorem dX7_read_48 : decode cX7_read 48 = .ok (.istore 4, 2) := by decide +kernel
theorem dX7_read_50 : decode cX7_read 50 = .ok (.iload 4, 2) := by decide +kernel
theorem dX7_read_52 : decode cX7_read 52 = .ok (.aload_n 0, 1) := by decide +kernel
theorem dX7_read_53 : decode cX7_read 53 = .ok (.getfield 13, 3) := by decide +kernel
theorem dX7_read_56 : decode cX7_read 56 = .ok (.iload_n 1, 1) := by decide +kernel
theorem dX7_read_57 : decode cX7_read 57 = .ok (.iaload, 1) := by decide +kernel
theorem dX7_read_58 : decode cX7_read 58 = .ok (.if_icmp .ge 34, 3) := by decide +kernel
theorem dX7_read_61 : decode cX7_read 61 = .ok (.aload_n 0, 1) := by decide +kernel
theorem dX7_read_62 : decode cX7_read 62 = .ok (.iload_n 2, 1) := by decide +kernel
theorem dX7_read_63 : decode cX7_read 63 = .ok (.iload 4, 2) := by decide +kernel
theorem dX7_read_65 : decode cX7_read 65 = .ok (.iadd, 1) := by decide +kernel
theorem dX7_read_66 : decode cX7_read 66 = .ok (.iconst 0, 1) := by decide +kernel
theorem dX7_read_67 : decode cX7_read 67 = .ok (.aload_n 0, 1) := by decide +kernel
theorem dX7_read_68 : decode cX7_read 68 = .ok (.getfield 16, 3) := by decide +kernel
theorem dX7_read_71 : decode cX7_read 71 = .ok (.bipush 60, 2) := by decide +kernel
theorem dX7_read_73 : decode cX7_read 73 = .ok (.iload_n 1, 1) := by decide +kernel
theorem dX7_read_74 : decode cX7_read 74 = .ok (.imul, 1) := by decide +kernel
theorem dX7_read_75 : decode cX7_read 75 = .ok (.iload 4, 2) := by decide +kernel
theorem dX7_read_77 : decode cX7_read 77 = .ok (.iadd, 1) := by decide +kernel
theorem dX7_read_78 : decode cX7_read 78 = .ok (.iaload, 1) := by decide +kernel
theorem dX7_read_79 : decode cX7_read 79 = .ok (.iload_n 3, 1) := by decide +kernel
theorem dX7_read_80 : decode cX7_read 80 = .ok (.invokevirtual 127, 3) := by decide +kernel
theorem dX7_read_83 : decode cX7_read 83 = .ok (.ifCond .lt 9, 3) := by decide +kernel
theorem dX7_read_86 : decode cX7_read 86 = .ok (.iinc 4 1, 3) := by decide +kernel
theorem dX7_read_89 : decode cX7_read 89 = .ok (.goto (-39), 3) := by decide +kernel
theorem dX7_read_92 : decode cX7_read 92 = .ok (.iload 4, 2) := by decide +kernel
theorem dX7_read_94 : decode cX7_read 94 = .ok (.ireturn, 1) := by decide +kernel
set_option maxRecDepth 20000 in
theorem ggX7_watch_X7_isYear : GoodIn wsX7_watch wsX7_isYear := goodIn_r _ [9, 10, 11, 12, 8, 13] (by decide +kernel) (by decide +kernel)
set_option maxRecDepth 20000 in
theorem gX7_watch_X7_isYear : GoodIn wsX7_watch (va_wsS RX7 121 yX7_isYear wsX7_isYear) := goodIn_app (goodIn_of _ (by decide +kernel)) ggX7_watch_X7_isYear
set_option maxRecDepth 20000 in
theorem ggX7_watch_X7_in : GoodIn wsX7_watch wsX7_in := goodIn_r _ [13] (by decide +kernel) (by decide +kernel)
set_option maxRecDepth 20000 in
theorem gX7_watch_X7_in : GoodIn wsX7_watch (va_wsS RX7 76 yX7_in wsX7_in) := goodIn_app (goodIn_of _ (by decide +kernel)) ggX7_watch_X7_in
theorem dX7_watch_0 : decode cX7_watch 0 = .ok (.iload_n 2, 1) := by decide +kernel
theorem dX7_watch_1 : decode cX7_watch 1 = .ok (.invokestatic 121, 3) := by decide +kernel
theorem dX7_watch_4 : decode cX7_watch 4 = .ok (.ifCond .eq 26, 3) := by decide +kernel
theorem dX7_watch_7 : decode cX7_watch 7 = .ok (.iload_n 1, 1) := by decide +kernel
theorem dX7_watch_8 : decode cX7_watch 8 = .ok (.i2l, 1) := by decide +kernel
theorem dX7_watch_9 : decode cX7_watch 9 = .ok (.lconst 0, 1) := by decide +kernel
theorem dX7_watch_10 : decode cX7_watch 10 = .ok (.iload_n 2, 1) := by decide +kernel
theorem dX7_watch_11 : decode cX7_watch 11 = .ok (.i2l, 1) := by decide +kernel
theorem dX7_watch_12 : decode cX7_watch 12 = .ok (.invokestatic 76, 3) := by decide +kernel
theorem dX7_watch_15 : decode cX7_watch 15 = .ok (.ifCond .eq 15, 3) := by decide +kernel
theorem dX7_watch_18 : decode cX7_watch 18 = .ok (.iload_n 3, 1) := by decide +kernel
theorem dX7_watch_19 : decode cX7_watch 19 = .ok (.i2l, 1) := by decide +kernel
theorem dX7_watch_20 : decode cX7_watch 20 = .ok (.lconst 1, 1) := by decide +kernel
theorem dX7_watch_21 : decode cX7_watch 21 = .ok (.ldc2_w 113, 3) := by decide +kernel
theorem dX7_watch_24 : decode cX7_watch 24 = .ok (.invokestatic 76, 3) := by decide +kernel
theorem dX7_watch_27 : decode cX7_watch 27 = .ok (.ifCond .ne 6, 3) := by decide +kernel
theorem dX7_watch_30 : decode cX7_watch 30 = .ok (.bipush (-2), 2) := by decide +kernel
theorem dX7_watch_32 : decode cX7_watch 32 = .ok (.ireturn, 1) := by decide +kernel
theorem dX7_watch_33 : decode cX7_watch 33 = .ok (.aload_n 0, 1) := by decide +kernel
theorem dX7_watch_34 : decode cX7_watch 34 = .ok (.getfield 131, 3) := by decide +kernel
theorem dX7_watch_37 : decode cX7_watch 37 = .ok (.bipush 6, 2) := by decide +kernel
theorem dX7_watch_39 : decode cX7_watch 39 = .ok (.if_icmp .ne 6, 3) := by decide +kernel
theorem dX7_watch_42 : decode cX7_watch 42 = .ok (.bipush (-4), 2) := by decide +kernel
theorem dX7_watch_44 : decode cX7_watch 44 = .ok (.ireturn, 1) := by decide +kernel
theorem dX7_watch_45 : decode cX7_watch 45 = .ok (.aload_n 0, 1) := by decide +kernel
theorem dX7_watch_46 : decode cX7_watch 46 = .ok (.getfield 34, 3) := by decide +kernel
theorem dX7_watch_49 : decode cX7_watch 49 = .ok (.aload_n 0, 1) := by decide +kernel
theorem dX7_watch_50 : decode cX7_watch 50 = .ok (.getfield 131, 3) := by decide +kernel
theorem dX7_watch_53 : decode cX7_watch 53 = .ok (.iload_n 1, 1) := by decide +kernel
theorem dX7_watch_54 : decode cX7_watch 54 = .ok (.iastore, 1) := by decide +kernel
theorem dX7_watch_55 : decode cX7_watch 55 = .ok (.aload_n 0, 1) := by decide +kernel
theorem dX7_watch_56 : decode cX7_watch 56 = .ok (.getfield 37, 3) := by decide +kernel
theorem dX7_watch_59 : decode cX7_watch 59 = .ok (.aload_n 0, 1) := by decide +kernel
theorem dX7_watch_60 : decode cX7_watch 60 = .ok (.getfield 131, 3) := by decide +kernel
theorem dX7_watch_63 : decode cX7_watch 63 = .ok (.iload_n 2, 1) := by decide +kernel
theorem dX7_watch_64 : decode cX7_watch 64 = .ok (.iastore, 1) := by decide +kernel
theorem dX7_watch_65 : decode cX7_watch 65 = .ok (.aload_n 0, 1) := by decide +kernel
theorem dX7_watch_66 : decode cX7_watch 66 = .ok (.getfield 40, 3) := by decide +kernel
theorem dX7_watch_69 : decode cX7_watch 69 = .ok (.aload_n 0, 1) := by decide +kernel
theorem dX7_watch_70 : decode cX7_watch 70 = .ok (.getfield 131, 3) := by decide +kernel
theorem dX7_watch_73 : decode cX7_watch 73 = .ok (.iload_n 3, 1) := by decide +kernel
theorem dX7_watch_74 : decode cX7_watch 74 = .ok (.iastore, 1) := by decide +kernel
theorem dX7_watch_75 : decode cX7_watch 75 = .ok (.aload_n 0, 1) := by decide +kernel
theorem dX7_watch_76 : decode cX7_watch 76 = .ok (.dup, 1) := by decide +kernel
theorem dX7_watch_77 : decode cX7_watch 77 = .ok (.getfield 131, 3) := by decide +kernel
theorem dX7_watch_80 : decode cX7_watch 80 = .ok (.iconst 1, 1) := by decide +kernel
theorem dX7_watch_81 : decode cX7_watch 81 = .ok (.iadd, 1) := by decide +kernel
theorem dX7_watch_82 : decode cX7_watch 82 = .ok (.putfield 131, 3) := by decide +kernel
theorem dX7_watch_85 : decode cX7_watch 85 = .ok (.aload_n 0, 1) := by decide +kernel
theorem dX7_watch_86 : decode cX7_watch 86 = .ok (.getfield 131, 3) := by decide +kernel
theorem dX7_watch_89 : decode cX7_watch 89 = .ok (.iconst 1, 1) := by decide +kernel
theorem dX7_watch_90 : decode cX7_watch 90 = .ok (.isub, 1) := by decide +kernel
theorem dX7_watch_91 : decode cX7_watch 91 = .ok (.ireturn, 1) := by decide +kernel
theorem dX7_high_0 : decode cX7_high 0 = .ok (.iload_n 0, 1) := by decide +kernel
theorem dX7_high_1 : decode cX7_high 1 = .ok (.tableswitch 46 0 4 #[35, 39, 39, 46, 42], 35) := by decide +kernel
theorem dX7_high_36 : decode cX7_high 36 = .ok (.sipush 999, 3) := by decide +kernel
theorem dX7_high_39 : decode cX7_high 39 = .ok (.ireturn, 1) := by decide +kernel
theorem dX7_high_40 : decode cX7_high 40 = .ok (.bipush 59, 2) := by decide +kernel
theorem dX7_high_42 : decode cX7_high 42 = .ok (.ireturn, 1) := by decide +kernel
theorem dX7_high_43 : decode cX7_high 43 = .ok (.sipush 9999, 3) := by decide +kernel
theorem dX7_high_46 : decode cX7_high 46 = .ok (.ireturn, 1) := by decide +kernel
theorem dX7_high_47 : decode cX7_high 47 = .ok (.bipush 99, 2) := by decide +kernel
theorem dX7_high_49 : decode cX7_high 49 = .ok (.ireturn, 1) := by decide +kernel
set_option maxRecDepth 20000 in
theorem ggX7_set_X7_in : GoodIn wsX7_set wsX7_in := goodIn_r _ [6] (by decide +kernel) (by decide +kernel)
set_option maxRecDepth 20000 in
theorem gX7_set_X7_in : GoodIn wsX7_set (va_wsS RX7 76 yX7_in wsX7_in) := goodIn_app (goodIn_of _ (by decide +kernel)) ggX7_set_X7_in
set_option maxRecDepth 20000 in
theorem ggX7_set_X7_high : GoodIn wsX7_set wsX7_high := goodIn_r _ [9] (by decide +kernel) (by decide +kernel)
set_option maxRecDepth 20000 in
theorem gX7_set_X7_high : GoodIn wsX7_set (va_wsS RX7 136 yX7_high wsX7_high) := goodIn_app (goodIn_of _ (by decide +kernel)) ggX7_set_X7_high
theorem dX7_set_0 : decode cX7_set 0 = .ok (.iload_n 1, 1) := by decide +kernel
theorem dX7_set_1 : decode cX7_set 1 = .ok (.i2l, 1) := by decide +kernel
theorem dX7_set_2 : decode cX7_set 2 = .ok (.lconst 0, 1) := by decide +kernel
theorem dX7_set_3 : decode cX7_set 3 = .ok (.ldc2_w 134, 3) := by decide +kernel
theorem dX7_set_6 : decode cX7_set 6 = .ok (.invokestatic 76, 3) := by decide +kernel
theorem dX7_set_9 : decode cX7_set 9 = .ok (.ifCond .eq 26, 3) := by decide +kernel
theorem dX7_set_12 : decode cX7_set 12 = .ok (.iload_n 2, 1) := by decide +kernel
theorem dX7_set_13 : decode cX7_set 13 = .ok (.i2l, 1) := by decide +kernel
theorem dX7_set_14 : decode cX7_set 14 = .ok (.iload_n 1, 1) := by decide +kernel
theorem dX7_set_15 : decode cX7_set 15 = .ok (.iconst 5, 1) := by decide +kernel
theorem dX7_set_16 : decode cX7_set 16 = .ok (.if_icmp .ne 7, 3) := by decide +kernel
theorem dX7_set_19 : decode cX7_set 19 = .ok (.lconst 1, 1) := by decide +kernel
theorem dX7_set_20 : decode cX7_set 20 = .ok (.goto 4, 3) := by decide +kernel
theorem dX7_set_23 : decode cX7_set 23 = .ok (.lconst 0, 1) := by decide +kernel
theorem dX7_set_24 : decode cX7_set 24 = .ok (.iload_n 1, 1) := by decide +kernel
theorem dX7_set_25 : decode cX7_set 25 = .ok (.invokestatic 136, 3) := by decide +kernel
theorem dX7_set_28 : decode cX7_set 28 = .ok (.i2l, 1) := by decide +kernel
theorem dX7_set_29 : decode cX7_set 29 = .ok (.invokestatic 76, 3) := by decide +kernel
theorem dX7_set_32 : decode cX7_set 32 = .ok (.ifCond .ne 6, 3) := by decide +kernel
theorem dX7_set_35 : decode cX7_set 35 = .ok (.bipush (-2), 2) := by decide +kernel
theorem dX7_set_37 : decode cX7_set 37 = .ok (.ireturn, 1) := by decide +kernel
theorem dX7_set_38 : decode cX7_set 38 = .ok (.aload_n 0, 1) := by decide +kernel
theorem dX7_set_39 : decode cX7_set 39 = .ok (.getfield 43, 3) := by decide +kernel
theorem dX7_set_42 : decode cX7_set 42 = .ok (.iload_n 1, 1) := by decide +kernel
theorem dX7_set_43 : decode cX7_set 43 = .ok (.iaload, 1) := by decide +kernel
theorem dX7_set_44 : decode cX7_set 44 = .ok (.istore_n 3, 1) := by decide +kernel
theorem dX7_set_45 : decode cX7_set 45 = .ok (.aload_n 0, 1) := by decide +kernel
theorem dX7_set_46 : decode cX7_set 46 = .ok (.getfield 43, 3) := by decide +kernel
theorem dX7_set_49 : decode cX7_set 49 = .ok (.iload_n 1, 1) := by decide +kernel
theorem dX7_set_50 : decode cX7_set 50 = .ok (.iload_n 2, 1) := by decide +kernel
theorem dX7_set_51 : decode cX7_set 51 = .ok (.iastore, 1) := by decide +kernel
theorem dX7_set_52 : decode cX7_set 52 = .ok (.iload_n 3, 1) := by decide +kernel
theorem dX7_set_53 : decode cX7_set 53 = .ok (.ireturn, 1) := by decide +kernel
set_option maxRecDepth 20000 in
theorem ggX7_isCounted_X7_in : GoodIn wsX7_isCounted wsX7_in := goodIn_r _ [5] (by decide +kernel) (by decide +kernel)
set_option maxRecDepth 20000 in
theorem gX7_isCounted_X7_in : GoodIn wsX7_isCounted (va_wsS RX7 76 yX7_in wsX7_in) := goodIn_app (goodIn_of _ (by decide +kernel)) ggX7_isCounted_X7_in
theorem dX7_isCounted_0 : decode cX7_isCounted 0 = .ok (.iload_n 1, 1) := by decide +kernel
theorem dX7_isCounted_1 : decode cX7_isCounted 1 = .ok (.i2l, 1) := by decide +kernel
theorem dX7_isCounted_2 : decode cX7_isCounted 2 = .ok (.aload_n 0, 1) := by decide +kernel
theorem dX7_isCounted_3 : decode cX7_isCounted 3 = .ok (.getfield 43, 3) := by decide +kernel
theorem dX7_isCounted_6 : decode cX7_isCounted 6 = .ok (.iconst 1, 1) := by decide +kernel
theorem dX7_isCounted_7 : decode cX7_isCounted 7 = .ok (.iaload, 1) := by decide +kernel
theorem dX7_isCounted_8 : decode cX7_isCounted 8 = .ok (.i2l, 1) := by decide +kernel
theorem dX7_isCounted_9 : decode cX7_isCounted 9 = .ok (.aload_n 0, 1) := by decide +kernel
theorem dX7_isCounted_10 : decode cX7_isCounted 10 = .ok (.getfield 43, 3) := by decide +kernel
theorem dX7_isCounted_13 : decode cX7_isCounted 13 = .ok (.iconst 2, 1) := by decide +kernel
theorem dX7_isCounted_14 : decode cX7_isCounted 14 = .ok (.iaload, 1) := by decide +kernel
theorem dX7_isCounted_15 : decode cX7_isCounted 15 = .ok (.i2l, 1) := by decide +kernel
theorem dX7_isCounted_16 : decode cX7_isCounted 16 = .ok (.invokestatic 76, 3) := by decide +kernel
theorem dX7_isCounted_19 : decode cX7_isCounted 19 = .ok (.ireturn, 1) := by decide +kernel
set_option maxRecDepth 20000 in
theorem ggX7_watchedBy_X7_in : GoodIn wsX7_watchedBy wsX7_in := goodIn_r _ [8] (by decide +kernel) (by decide +kernel)
set_option maxRecDepth 20000 in
theorem gX7_watchedBy_X7_in : GoodIn wsX7_watchedBy (va_wsS RX7 76 yX7_in wsX7_in) := goodIn_app (goodIn_of _ (by decide +kernel)) ggX7_watchedBy_X7_in
theorem dX7_watchedBy_0 : decode cX7_watchedBy 0 = .ok (.iconst (-1), 1) := by decide +kernel
theorem dX7_watchedBy_1 : decode cX7_watchedBy 1 = .ok (.istore_n 2, 1) := by decide +kernel
theorem dX7_watchedBy_2 : decode cX7_watchedBy 2 = .ok (.iconst 0, 1) := by decide +kernel
theorem dX7_watchedBy_3 : decode cX7_watchedBy 3 = .ok (.istore_n 3, 1) := by decide +kernel
theorem dX7_watchedBy_4 : decode cX7_watchedBy 4 = .ok (.iload_n 3, 1) := by decide +kernel
theorem dX7_watchedBy_5 : decode cX7_watchedBy 5 = .ok (.aload_n 0, 1) := by decide +kernel
theorem dX7_watchedBy_6 : decode cX7_watchedBy 6 = .ok (.getfield 131, 3) := by decide +kernel
theorem dX7_watchedBy_9 : decode cX7_watchedBy 9 = .ok (.if_icmp .ge 61, 3) := by decide +kernel
theorem dX7_watchedBy_12 : decode cX7_watchedBy 12 = .ok (.iload_n 1, 1) := by decide +kernel
theorem dX7_watchedBy_13 : decode cX7_watchedBy 13 = .ok (.i2l, 1) := by decide +kernel
theorem dX7_watchedBy_14 : decode cX7_watchedBy 14 = .ok (.aload_n 0, 1) := by decide +kernel
theorem dX7_watchedBy_15 : decode cX7_watchedBy 15 = .ok (.getfield 34, 3) := by decide +kernel
theorem dX7_watchedBy_18 : decode cX7_watchedBy 18 = .ok (.iload_n 3, 1) := by decide +kernel
theorem dX7_watchedBy_19 : decode cX7_watchedBy 19 = .ok (.iaload, 1) := by decide +kernel
theorem dX7_watchedBy_20 : decode cX7_watchedBy 20 = .ok (.i2l, 1) := by decide +kernel
theorem dX7_watchedBy_21 : decode cX7_watchedBy 21 = .ok (.aload_n 0, 1) := by decide +kernel
theorem dX7_watchedBy_22 : decode cX7_watchedBy 22 = .ok (.getfield 37, 3) := by decide +kernel
theorem dX7_watchedBy_25 : decode cX7_watchedBy 25 = .ok (.iload_n 3, 1) := by decide +kernel
theorem dX7_watchedBy_26 : decode cX7_watchedBy 26 = .ok (.iaload, 1) := by decide +kernel
theorem dX7_watchedBy_27 : decode cX7_watchedBy 27 = .ok (.i2l, 1) := by decide +kernel
theorem dX7_watchedBy_28 : decode cX7_watchedBy 28 = .ok (.invokestatic 76, 3) := by decide +kernel
theorem dX7_watchedBy_31 : decode cX7_watchedBy 31 = .ok (.istore 4, 2) := by decide +kernel
theorem dX7_watchedBy_33 : decode cX7_watchedBy 33 = .ok (.iload 4, 2) := by decide +kernel
theorem dX7_watchedBy_35 : decode cX7_watchedBy 35 = .ok (.ifCond .eq 27, 3) := by decide +kernel
theorem dX7_watchedBy_38 : decode cX7_watchedBy 38 = .ok (.iload_n 2, 1) := by decide +kernel
theorem dX7_watchedBy_39 : decode cX7_watchedBy 39 = .ok (.iconst (-1), 1) := by decide +kernel
theorem dX7_watchedBy_40 : decode cX7_watchedBy 40 = .ok (.if_icmp .eq 13, 3) := by decide +kernel
theorem dX7_watchedBy_43 : decode cX7_watchedBy 43 = .ok (.aload_n 0, 1) := by decide +kernel
theorem dX7_watchedBy_44 : decode cX7_watchedBy 44 = .ok (.getfield 40, 3) := by decide +kernel
theorem dX7_watchedBy_47 : decode cX7_watchedBy 47 = .ok (.iload_n 3, 1) := by decide +kernel
theorem dX7_watchedBy_48 : decode cX7_watchedBy 48 = .ok (.iaload, 1) := by decide +kernel
theorem dX7_watchedBy_49 : decode cX7_watchedBy 49 = .ok (.iload_n 2, 1) := by decide +kernel
theorem dX7_watchedBy_50 : decode cX7_watchedBy 50 = .ok (.if_icmp .ge 12, 3) := by decide +kernel
theorem dX7_watchedBy_53 : decode cX7_watchedBy 53 = .ok (.aload_n 0, 1) := by decide +kernel
theorem dX7_watchedBy_54 : decode cX7_watchedBy 54 = .ok (.getfield 40, 3) := by decide +kernel
theorem dX7_watchedBy_57 : decode cX7_watchedBy 57 = .ok (.iload_n 3, 1) := by decide +kernel
theorem dX7_watchedBy_58 : decode cX7_watchedBy 58 = .ok (.iaload, 1) := by decide +kernel
theorem dX7_watchedBy_59 : decode cX7_watchedBy 59 = .ok (.goto 4, 3) := by decide +kernel
theorem dX7_watchedBy_62 : decode cX7_watchedBy 62 = .ok (.iload_n 2, 1) := by decide +kernel
theorem dX7_watchedBy_63 : decode cX7_watchedBy 63 = .ok (.istore_n 2, 1) := by decide +kernel
theorem dX7_watchedBy_64 : decode cX7_watchedBy 64 = .ok (.iinc 3 1, 3) := by decide +kernel
theorem dX7_watchedBy_67 : decode cX7_watchedBy 67 = .ok (.goto (-63), 3) := by decide +kernel
theorem dX7_watchedBy_70 : decode cX7_watchedBy 70 = .ok (.iload_n 2, 1) := by decide +kernel
theorem dX7_watchedBy_71 : decode cX7_watchedBy 71 = .ok (.ireturn, 1) := by decide +kernel
set_option maxRecDepth 20000 in
theorem ggX7_find_X7_watchedBy : GoodIn wsX7_find wsX7_watchedBy := goodIn_r _ [16, 17, 18, 19, 20, 21, 22, 15, 23, 28, 29, 30, 31, 32, 33, 34, 35, 36, 37, 38, 39, 40, 41, 42, 43, 44, 45, 46, 47, 48, 49, 50, 51, 52, 53, 54, 55] (by decide +kernel) (by decide +kernel)
set_option maxRecDepth 20000 in
theorem gX7_find_X7_watchedBy : GoodIn wsX7_find (wsV RX7 142 RX7 yX7_watchedBy wsX7_watchedBy) := goodIn_app (goodIn_of _ (by decide +kernel)) ggX7_find_X7_watchedBy
set_option maxRecDepth 20000 in
theorem ggX7_find_X7_isCounted : GoodIn wsX7_find wsX7_isCounted := goodIn_r _ [27, 5, 21, 22, 15, 23, 28, 29, 30, 31, 32, 33, 34, 35, 36, 37, 38, 39, 40, 41, 42, 43, 44, 45, 46, 47, 48, 49, 50, 51, 52, 53, 54, 55] (by decide +kernel) (by decide +kernel)
set_option maxRecDepth 20000 in
theorem gX7_find_X7_isCounted : GoodIn wsX7_find (wsV RX7 145 RX7 yX7_isCounted wsX7_isCounted) := goodIn_app (goodIn_of _ (by decide +kernel)) ggX7_find_X7_isCounted
theorem dX7_find_0 : decode cX7_find 0 = .ok (.iconst 0, 1) := by decide +kernel
theorem dX7_find_1 : decode cX7_find 1 = .ok (.istore_n 1, 1) := by decide +kernel
theorem dX7_find_2 : decode cX7_find 2 = .ok (.iload_n 1, 1) := by decide +kernel
theorem dX7_find_3 : decode cX7_find 3 = .ok (.bipush 60, 2) := by decide +kernel
theorem dX7_find_5 : decode cX7_find 5 = .ok (.if_icmp .ge 23, 3) := by decide +kernel
theorem dX7_find_8 : decode cX7_find 8 = .ok (.aload_n 0, 1) := by decide +kernel
theorem dX7_find_9 : decode cX7_find 9 = .ok (.getfield 49, 3) := by decide +kernel
theorem dX7_find_12 : decode cX7_find 12 = .ok (.iload_n 1, 1) := by decide +kernel
theorem dX7_find_13 : decode cX7_find 13 = .ok (.iconst 2, 1) := by decide +kernel
theorem dX7_find_14 : decode cX7_find 14 = .ok (.iastore, 1) := by decide +kernel
theorem dX7_find_15 : decode cX7_find 15 = .ok (.aload_n 0, 1) := by decide +kernel
theorem dX7_find_16 : decode cX7_find 16 = .ok (.getfield 52, 3) := by decide +kernel
theorem dX7_find_19 : decode cX7_find 19 = .ok (.iload_n 1, 1) := by decide +kernel
theorem dX7_find_20 : decode cX7_find 20 = .ok (.iconst (-1), 1) := by decide +kernel
theorem dX7_find_21 : decode cX7_find 21 = .ok (.iastore, 1) := by decide +kernel
theorem dX7_find_22 : decode cX7_find 22 = .ok (.iinc 1 1, 3) := by decide +kernel
theorem dX7_find_25 : decode cX7_find 25 = .ok (.goto (-23), 3) := by decide +kernel
theorem dX7_find_28 : decode cX7_find 28 = .ok (.iconst 0, 1) := by decide +kernel
theorem dX7_find_29 : decode cX7_find 29 = .ok (.istore_n 1, 1) := by decide +kernel
theorem dX7_find_30 : decode cX7_find 30 = .ok (.iload_n 1, 1) := by decide +kernel
theorem dX7_find_31 : decode cX7_find 31 = .ok (.aload_n 0, 1) := by decide +kernel
theorem dX7_find_32 : decode cX7_find 32 = .ok (.getfield 115, 3) := by decide +kernel
theorem dX7_find_35 : decode cX7_find 35 = .ok (.if_icmp .ge 72, 3) := by decide +kernel
theorem dX7_find_38 : decode cX7_find 38 = .ok (.aload_n 0, 1) := by decide +kernel
theorem dX7_find_39 : decode cX7_find 39 = .ok (.getfield 31, 3) := by decide +kernel
theorem dX7_find_42 : decode cX7_find 42 = .ok (.iload_n 1, 1) := by decide +kernel
theorem dX7_find_43 : decode cX7_find 43 = .ok (.iaload, 1) := by decide +kernel
theorem dX7_find_44 : decode cX7_find 44 = .ok (.aload_n 0, 1) := by decide +kernel
theorem dX7_find_45 : decode cX7_find 45 = .ok (.getfield 43, 3) := by decide +kernel
theorem dX7_find_48 : decode cX7_find 48 = .ok (.iconst 0, 1) := by decide +kernel
theorem dX7_find_49 : decode cX7_find 49 = .ok (.iaload, 1) := by decide +kernel
theorem dX7_find_50 : decode cX7_find 50 = .ok (.if_icmp .gt 51, 3) := by decide +kernel
theorem dX7_find_53 : decode cX7_find 53 = .ok (.aload_n 0, 1) := by decide +kernel
theorem dX7_find_54 : decode cX7_find 54 = .ok (.getfield 49, 3) := by decide +kernel
theorem dX7_find_57 : decode cX7_find 57 = .ok (.aload_n 0, 1) := by decide +kernel
theorem dX7_find_58 : decode cX7_find 58 = .ok (.getfield 22, 3) := by decide +kernel
theorem dX7_find_61 : decode cX7_find 61 = .ok (.iload_n 1, 1) := by decide +kernel
theorem dX7_find_62 : decode cX7_find 62 = .ok (.iaload, 1) := by decide +kernel
theorem dX7_find_63 : decode cX7_find 63 = .ok (.aload_n 0, 1) := by decide +kernel
theorem dX7_find_64 : decode cX7_find 64 = .ok (.getfield 25, 3) := by decide +kernel
theorem dX7_find_67 : decode cX7_find 67 = .ok (.iload_n 1, 1) := by decide +kernel
theorem dX7_find_68 : decode cX7_find 68 = .ok (.iaload, 1) := by decide +kernel
theorem dX7_find_69 : decode cX7_find 69 = .ok (.iastore, 1) := by decide +kernel
theorem dX7_find_70 : decode cX7_find 70 = .ok (.aload_n 0, 1) := by decide +kernel
theorem dX7_find_71 : decode cX7_find 71 = .ok (.getfield 52, 3) := by decide +kernel
theorem dX7_find_74 : decode cX7_find 74 = .ok (.aload_n 0, 1) := by decide +kernel
theorem dX7_find_75 : decode cX7_find 75 = .ok (.getfield 22, 3) := by decide +kernel
theorem dX7_find_78 : decode cX7_find 78 = .ok (.iload_n 1, 1) := by decide +kernel
theorem dX7_find_79 : decode cX7_find 79 = .ok (.iaload, 1) := by decide +kernel
theorem dX7_find_80 : decode cX7_find 80 = .ok (.aload_n 0, 1) := by decide +kernel
theorem dX7_find_81 : decode cX7_find 81 = .ok (.getfield 25, 3) := by decide +kernel
theorem dX7_find_84 : decode cX7_find 84 = .ok (.iload_n 1, 1) := by decide +kernel
theorem dX7_find_85 : decode cX7_find 85 = .ok (.iaload, 1) := by decide +kernel
theorem dX7_find_86 : decode cX7_find 86 = .ok (.iconst 2, 1) := by decide +kernel
theorem dX7_find_87 : decode cX7_find 87 = .ok (.if_icmp .ne 7, 3) := by decide +kernel
theorem dX7_find_90 : decode cX7_find 90 = .ok (.iconst (-1), 1) := by decide +kernel
theorem dX7_find_91 : decode cX7_find 91 = .ok (.goto 9, 3) := by decide +kernel
theorem dX7_find_94 : decode cX7_find 94 = .ok (.aload_n 0, 1) := by decide +kernel
theorem dX7_find_95 : decode cX7_find 95 = .ok (.getfield 28, 3) := by decide +kernel
theorem dX7_find_98 : decode cX7_find 98 = .ok (.iload_n 1, 1) := by decide +kernel
theorem dX7_find_99 : decode cX7_find 99 = .ok (.iaload, 1) := by decide +kernel
theorem dX7_find_100 : decode cX7_find 100 = .ok (.iastore, 1) := by decide +kernel
theorem dX7_find_101 : decode cX7_find 101 = .ok (.iinc 1 1, 3) := by decide +kernel
theorem dX7_find_104 : decode cX7_find 104 = .ok (.goto (-74), 3) := by decide +kernel
theorem dX7_find_107 : decode cX7_find 107 = .ok (.aload_n 0, 1) := by decide +kernel
theorem dX7_find_108 : decode cX7_find 108 = .ok (.iconst 0, 1) := by decide +kernel
theorem dX7_find_109 : decode cX7_find 109 = .ok (.putfield 139, 3) := by decide +kernel
theorem dX7_find_112 : decode cX7_find 112 = .ok (.iconst 0, 1) := by decide +kernel
theorem dX7_find_113 : decode cX7_find 113 = .ok (.istore_n 1, 1) := by decide +kernel
theorem dX7_find_114 : decode cX7_find 114 = .ok (.iload_n 1, 1) := by decide +kernel
theorem dX7_find_115 : decode cX7_find 115 = .ok (.bipush 60, 2) := by decide +kernel
theorem dX7_find_117 : decode cX7_find 117 = .ok (.if_icmp .ge 123, 3) := by decide +kernel
theorem dX7_find_120 : decode cX7_find 120 = .ok (.aload_n 0, 1) := by decide +kernel
theorem dX7_find_121 : decode cX7_find 121 = .ok (.getfield 49, 3) := by decide +kernel
theorem dX7_find_124 : decode cX7_find 124 = .ok (.iload_n 1, 1) := by decide +kernel
theorem dX7_find_125 : decode cX7_find 125 = .ok (.iaload, 1) := by decide +kernel
theorem dX7_find_126 : decode cX7_find 126 = .ok (.iconst 2, 1) := by decide +kernel
theorem dX7_find_127 : decode cX7_find 127 = .ok (.if_icmp .ne 11, 3) := by decide +kernel
theorem dX7_find_130 : decode cX7_find 130 = .ok (.aload_n 0, 1) := by decide +kernel
theorem dX7_find_131 : decode cX7_find 131 = .ok (.iload_n 1, 1) := by decide +kernel
theorem dX7_find_132 : decode cX7_find 132 = .ok (.invokevirtual 142, 3) := by decide +kernel
theorem dX7_find_135 : decode cX7_find 135 = .ok (.goto 4, 3) := by decide +kernel
theorem dX7_find_138 : decode cX7_find 138 = .ok (.iconst (-1), 1) := by decide +kernel
theorem dX7_find_139 : decode cX7_find 139 = .ok (.istore_n 2, 1) := by decide +kernel
theorem dX7_find_140 : decode cX7_find 140 = .ok (.aload_n 0, 1) := by decide +kernel
theorem dX7_find_141 : decode cX7_find 141 = .ok (.getfield 49, 3) := by decide +kernel
theorem dX7_find_144 : decode cX7_find 144 = .ok (.iload_n 1, 1) := by decide +kernel
theorem dX7_find_145 : decode cX7_find 145 = .ok (.iload_n 2, 1) := by decide +kernel
theorem dX7_find_146 : decode cX7_find 146 = .ok (.iconst (-1), 1) := by decide +kernel
theorem dX7_find_147 : decode cX7_find 147 = .ok (.if_icmp .ne 12, 3) := by decide +kernel
theorem dX7_find_150 : decode cX7_find 150 = .ok (.aload_n 0, 1) := by decide +kernel
theorem dX7_find_151 : decode cX7_find 151 = .ok (.getfield 49, 3) := by decide +kernel
theorem dX7_find_154 : decode cX7_find 154 = .ok (.iload_n 1, 1) := by decide +kernel
theorem dX7_find_155 : decode cX7_find 155 = .ok (.iaload, 1) := by decide +kernel
theorem dX7_find_156 : decode cX7_find 156 = .ok (.goto 4, 3) := by decide +kernel
theorem dX7_find_159 : decode cX7_find 159 = .ok (.iconst 1, 1) := by decide +kernel
theorem dX7_find_160 : decode cX7_find 160 = .ok (.iastore, 1) := by decide +kernel
theorem dX7_find_161 : decode cX7_find 161 = .ok (.aload_n 0, 1) := by decide +kernel
theorem dX7_find_162 : decode cX7_find 162 = .ok (.getfield 52, 3) := by decide +kernel
theorem dX7_find_165 : decode cX7_find 165 = .ok (.iload_n 1, 1) := by decide +kernel
theorem dX7_find_166 : decode cX7_find 166 = .ok (.iload_n 2, 1) := by decide +kernel
theorem dX7_find_167 : decode cX7_find 167 = .ok (.iconst (-1), 1) := by decide +kernel
theorem dX7_find_168 : decode cX7_find 168 = .ok (.if_icmp .ne 12, 3) := by decide +kernel
theorem dX7_find_171 : decode cX7_find 171 = .ok (.aload_n 0, 1) := by decide +kernel
theorem dX7_find_172 : decode cX7_find 172 = .ok (.getfield 52, 3) := by decide +kernel
theorem dX7_find_175 : decode cX7_find 175 = .ok (.iload_n 1, 1) := by decide +kernel
theorem dX7_find_176 : decode cX7_find 176 = .ok (.iaload, 1) := by decide +kernel
theorem dX7_find_177 : decode cX7_find 177 = .ok (.goto 4, 3) := by decide +kernel
theorem dX7_find_180 : decode cX7_find 180 = .ok (.iload_n 2, 1) := by decide +kernel
theorem dX7_find_181 : decode cX7_find 181 = .ok (.iastore, 1) := by decide +kernel
theorem dX7_find_182 : decode cX7_find 182 = .ok (.aload_n 0, 1) := by decide +kernel
theorem dX7_find_183 : decode cX7_find 183 = .ok (.getfield 49, 3) := by decide +kernel
theorem dX7_find_186 : decode cX7_find 186 = .ok (.iload_n 1, 1) := by decide +kernel
theorem dX7_find_187 : decode cX7_find 187 = .ok (.iaload, 1) := by decide +kernel
theorem dX7_find_188 : decode cX7_find 188 = .ok (.ifCond .ne 46, 3) := by decide +kernel
theorem dX7_find_191 : decode cX7_find 191 = .ok (.aload_n 0, 1) := by decide +kernel
theorem dX7_find_192 : decode cX7_find 192 = .ok (.iload_n 1, 1) := by decide +kernel
theorem dX7_find_193 : decode cX7_find 193 = .ok (.invokevirtual 145, 3) := by decide +kernel
theorem dX7_find_196 : decode cX7_find 196 = .ok (.ifCond .eq 38, 3) := by decide +kernel
theorem dX7_find_199 : decode cX7_find 199 = .ok (.aload_n 0, 1) := by decide +kernel
theorem dX7_find_200 : decode cX7_find 200 = .ok (.getfield 55, 3) := by decide +kernel
theorem dX7_find_203 : decode cX7_find 203 = .ok (.aload_n 0, 1) := by decide +kernel
theorem dX7_find_204 : decode cX7_find 204 = .ok (.getfield 139, 3) := by decide +kernel
theorem dX7_find_207 : decode cX7_find 207 = .ok (.iload_n 1, 1) := by decide +kernel
theorem dX7_find_208 : decode cX7_find 208 = .ok (.iastore, 1) := by decide +kernel
theorem dX7_find_209 : decode cX7_find 209 = .ok (.aload_n 0, 1) := by decide +kernel
theorem dX7_find_210 : decode cX7_find 210 = .ok (.getfield 58, 3) := by decide +kernel
theorem dX7_find_213 : decode cX7_find 213 = .ok (.aload_n 0, 1) := by decide +kernel
theorem dX7_find_214 : decode cX7_find 214 = .ok (.getfield 139, 3) := by decide +kernel
theorem dX7_find_217 : decode cX7_find 217 = .ok (.aload_n 0, 1) := by decide +kernel
theorem dX7_find_218 : decode cX7_find 218 = .ok (.getfield 52, 3) := by decide +kernel
theorem dX7_find_221 : decode cX7_find 221 = .ok (.iload_n 1, 1) := by decide +kernel
theorem dX7_find_222 : decode cX7_find 222 = .ok (.iaload, 1) := by decide +kernel
theorem dX7_find_223 : decode cX7_find 223 = .ok (.iastore, 1) := by decide +kernel
theorem dX7_find_224 : decode cX7_find 224 = .ok (.aload_n 0, 1) := by decide +kernel
theorem dX7_find_225 : decode cX7_find 225 = .ok (.dup, 1) := by decide +kernel
theorem dX7_find_226 : decode cX7_find 226 = .ok (.getfield 139, 3) := by decide +kernel
theorem dX7_find_229 : decode cX7_find 229 = .ok (.iconst 1, 1) := by decide +kernel
theorem dX7_find_230 : decode cX7_find 230 = .ok (.iadd, 1) := by decide +kernel
theorem dX7_find_231 : decode cX7_find 231 = .ok (.putfield 139, 3) := by decide +kernel
theorem dX7_find_234 : decode cX7_find 234 = .ok (.iinc 1 1, 3) := by decide +kernel
theorem dX7_find_237 : decode cX7_find 237 = .ok (.goto (-123), 3) := by decide +kernel
theorem dX7_find_240 : decode cX7_find 240 = .ok (.return_, 1) := by decide +kernel
set_option maxRecDepth 20000 in
theorem ggX7_known_X7_isYear : GoodIn wsX7_known wsX7_isYear := goodIn_r _ [6, 7, 8, 9, 5, 10] (by decide +kernel) (by decide +kernel)
set_option maxRecDepth 20000 in
theorem gX7_known_X7_isYear : GoodIn wsX7_known (va_wsS RX7 121 yX7_isYear wsX7_isYear) := goodIn_app (goodIn_of _ (by decide +kernel)) ggX7_known_X7_isYear
set_option maxRecDepth 20000 in
theorem ggX7_known_X7_isTwo : GoodIn wsX7_known wsX7_isTwo := goodIn_r _ [13, 8, 9, 5, 10] (by decide +kernel) (by decide +kernel)
set_option maxRecDepth 20000 in
theorem gX7_known_X7_isTwo : GoodIn wsX7_known (va_wsS RX7 148 yX7_isTwo wsX7_isTwo) := goodIn_app (goodIn_of _ (by decide +kernel)) ggX7_known_X7_isTwo
set_option maxRecDepth 20000 in
theorem ggX7_known_X7_find : GoodIn wsX7_known wsX7_find := goodIn_r _ [17, 1, 2, 18, 19, 20, 21, 22, 23, 24, 25, 26, 27, 28, 29, 5, 30, 31, 32, 33, 34, 8, 9, 10, 35, 36, 37, 38, 39, 40, 41, 42, 43, 44, 45, 46, 47, 48, 49, 50, 51, 52, 53, 54, 55, 56, 57, 58, 59, 60, 61, 62, 63, 64, 65, 66] (by decide +kernel) (by decide +kernel)
set_option maxRecDepth 20000 in
theorem gX7_known_X7_find : GoodIn wsX7_known (wsV RX7 151 RX7 yX7_find wsX7_find) := goodIn_app (goodIn_of _ (by decide +kernel)) ggX7_known_X7_find
theorem dX7_known_0 : decode cX7_known 0 = .ok (.iload_n 1, 1) := by decide +kernel
theorem dX7_known_1 : decode cX7_known 1 = .ok (.invokestatic 121, 3) := by decide +kernel
theorem dX7_known_4 : decode cX7_known 4 = .ok (.ifCond .eq 10, 3) := by decide +kernel
theorem dX7_known_7 : decode cX7_known 7 = .ok (.iload_n 2, 1) := by decide +kernel
theorem dX7_known_8 : decode cX7_known 8 = .ok (.invokestatic 148, 3) := by decide +kernel
theorem dX7_known_11 : decode cX7_known 11 = .ok (.ifCond .ne 6, 3) := by decide +kernel
theorem dX7_known_14 : decode cX7_known 14 = .ok (.bipush (-2), 2) := by decide +kernel
theorem dX7_known_16 : decode cX7_known 16 = .ok (.ireturn, 1) := by decide +kernel
theorem dX7_known_17 : decode cX7_known 17 = .ok (.aload_n 0, 1) := by decide +kernel
theorem dX7_known_18 : decode cX7_known 18 = .ok (.invokevirtual 151, 3) := by decide +kernel
theorem dX7_known_21 : decode cX7_known 21 = .ok (.iload_n 2, 1) := by decide +kernel
theorem dX7_known_22 : decode cX7_known 22 = .ok (.ifCond .ne 12, 3) := by decide +kernel
theorem dX7_known_25 : decode cX7_known 25 = .ok (.aload_n 0, 1) := by decide +kernel
theorem dX7_known_26 : decode cX7_known 26 = .ok (.getfield 49, 3) := by decide +kernel
theorem dX7_known_29 : decode cX7_known 29 = .ok (.iload_n 1, 1) := by decide +kernel
theorem dX7_known_30 : decode cX7_known 30 = .ok (.iaload, 1) := by decide +kernel
theorem dX7_known_31 : decode cX7_known 31 = .ok (.goto 9, 3) := by decide +kernel
theorem dX7_known_34 : decode cX7_known 34 = .ok (.aload_n 0, 1) := by decide +kernel
theorem dX7_known_35 : decode cX7_known 35 = .ok (.getfield 52, 3) := by decide +kernel
theorem dX7_known_38 : decode cX7_known 38 = .ok (.iload_n 1, 1) := by decide +kernel
theorem dX7_known_39 : decode cX7_known 39 = .ok (.iaload, 1) := by decide +kernel
theorem dX7_known_40 : decode cX7_known 40 = .ok (.ireturn, 1) := by decide +kernel
set_option maxRecDepth 20000 in
theorem ggX7_overOf_X7_isCounted : GoodIn wsX7_overOf wsX7_isCounted := goodIn_r _ [7, 8, 9, 10, 6, 11, 12, 13, 14, 15, 16, 17, 18, 19, 20, 21, 22, 23, 24, 25, 26, 27, 28, 29, 30, 31, 32, 33, 34, 35, 36, 37, 38, 39] (by decide +kernel) (by decide +kernel)
set_option maxRecDepth 20000 in
theorem gX7_overOf_X7_isCounted : GoodIn wsX7_overOf (wsV RX7 145 RX7 yX7_isCounted wsX7_isCounted) := goodIn_app (goodIn_of _ (by decide +kernel)) ggX7_overOf_X7_isCounted
theorem dX7_overOf_0 : decode cX7_overOf 0 = .ok (.iconst 0, 1) := by decide +kernel
theorem dX7_overOf_1 : decode cX7_overOf 1 = .ok (.istore_n 2, 1) := by decide +kernel
theorem dX7_overOf_2 : decode cX7_overOf 2 = .ok (.iconst 0, 1) := by decide +kernel
theorem dX7_overOf_3 : decode cX7_overOf 3 = .ok (.istore_n 3, 1) := by decide +kernel
theorem dX7_overOf_4 : decode cX7_overOf 4 = .ok (.iload_n 3, 1) := by decide +kernel
theorem dX7_overOf_5 : decode cX7_overOf 5 = .ok (.bipush 60, 2) := by decide +kernel
theorem dX7_overOf_7 : decode cX7_overOf 7 = .ok (.if_icmp .ge 44, 3) := by decide +kernel
theorem dX7_overOf_10 : decode cX7_overOf 10 = .ok (.iload_n 2, 1) := by decide +kernel
theorem dX7_overOf_11 : decode cX7_overOf 11 = .ok (.aload_n 0, 1) := by decide +kernel
theorem dX7_overOf_12 : decode cX7_overOf 12 = .ok (.iload_n 3, 1) := by decide +kernel
theorem dX7_overOf_13 : decode cX7_overOf 13 = .ok (.invokevirtual 145, 3) := by decide +kernel
theorem dX7_overOf_16 : decode cX7_overOf 16 = .ok (.ifCond .eq 26, 3) := by decide +kernel
theorem dX7_overOf_19 : decode cX7_overOf 19 = .ok (.aload_n 0, 1) := by decide +kernel
theorem dX7_overOf_20 : decode cX7_overOf 20 = .ok (.getfield 49, 3) := by decide +kernel
theorem dX7_overOf_23 : decode cX7_overOf 23 = .ok (.iload_n 3, 1) := by decide +kernel
theorem dX7_overOf_24 : decode cX7_overOf 24 = .ok (.iaload, 1) := by decide +kernel
theorem dX7_overOf_25 : decode cX7_overOf 25 = .ok (.ifCond .ne 17, 3) := by decide +kernel
theorem dX7_overOf_28 : decode cX7_overOf 28 = .ok (.aload_n 0, 1) := by decide +kernel
theorem dX7_overOf_29 : decode cX7_overOf 29 = .ok (.getfield 52, 3) := by decide +kernel
theorem dX7_overOf_32 : decode cX7_overOf 32 = .ok (.iload_n 3, 1) := by decide +kernel
theorem dX7_overOf_33 : decode cX7_overOf 33 = .ok (.iaload, 1) := by decide +kernel
theorem dX7_overOf_34 : decode cX7_overOf 34 = .ok (.iload_n 1, 1) := by decide +kernel
theorem dX7_overOf_35 : decode cX7_overOf 35 = .ok (.if_icmp .lt 7, 3) := by decide +kernel
theorem dX7_overOf_38 : decode cX7_overOf 38 = .ok (.iconst 1, 1) := by decide +kernel
theorem dX7_overOf_39 : decode cX7_overOf 39 = .ok (.goto 4, 3) := by decide +kernel
theorem dX7_overOf_42 : decode cX7_overOf 42 = .ok (.iconst 0, 1) := by decide +kernel
theorem dX7_overOf_43 : decode cX7_overOf 43 = .ok (.iadd, 1) := by decide +kernel
theorem dX7_overOf_44 : decode cX7_overOf 44 = .ok (.istore_n 2, 1) := by decide +kernel
theorem dX7_overOf_45 : decode cX7_overOf 45 = .ok (.iinc 3 1, 3) := by decide +kernel
theorem dX7_overOf_48 : decode cX7_overOf 48 = .ok (.goto (-44), 3) := by decide +kernel
theorem dX7_overOf_51 : decode cX7_overOf 51 = .ok (.iload_n 2, 1) := by decide +kernel
theorem dX7_overOf_52 : decode cX7_overOf 52 = .ok (.ireturn, 1) := by decide +kernel
set_option maxRecDepth 20000 in
theorem ggX7_underOf_X7_isCounted : GoodIn wsX7_underOf wsX7_isCounted := goodIn_r _ [7, 8, 9, 10, 6, 11, 12, 13, 14, 15, 16, 17, 18, 19, 20, 21, 22, 23, 24, 25, 26, 27, 28, 29, 30, 31, 32, 33, 34, 35, 36, 37, 38, 39] (by decide +kernel) (by decide +kernel)
set_option maxRecDepth 20000 in
theorem gX7_underOf_X7_isCounted : GoodIn wsX7_underOf (wsV RX7 145 RX7 yX7_isCounted wsX7_isCounted) := goodIn_app (goodIn_of _ (by decide +kernel)) ggX7_underOf_X7_isCounted
theorem dX7_underOf_0 : decode cX7_underOf 0 = .ok (.iconst 0, 1) := by decide +kernel
theorem dX7_underOf_1 : decode cX7_underOf 1 = .ok (.istore_n 2, 1) := by decide +kernel
theorem dX7_underOf_2 : decode cX7_underOf 2 = .ok (.iconst 0, 1) := by decide +kernel
theorem dX7_underOf_3 : decode cX7_underOf 3 = .ok (.istore_n 3, 1) := by decide +kernel
theorem dX7_underOf_4 : decode cX7_underOf 4 = .ok (.iload_n 3, 1) := by decide +kernel
theorem dX7_underOf_5 : decode cX7_underOf 5 = .ok (.bipush 60, 2) := by decide +kernel
theorem dX7_underOf_7 : decode cX7_underOf 7 = .ok (.if_icmp .ge 76, 3) := by decide +kernel
theorem dX7_underOf_10 : decode cX7_underOf 10 = .ok (.aload_n 0, 1) := by decide +kernel
theorem dX7_underOf_11 : decode cX7_underOf 11 = .ok (.getfield 49, 3) := by decide +kernel
theorem dX7_underOf_14 : decode cX7_underOf 14 = .ok (.iload_n 3, 1) := by decide +kernel
theorem dX7_underOf_15 : decode cX7_underOf 15 = .ok (.iaload, 1) := by decide +kernel
theorem dX7_underOf_16 : decode cX7_underOf 16 = .ok (.ifCond .ne 13, 3) := by decide +kernel
theorem dX7_underOf_19 : decode cX7_underOf 19 = .ok (.aload_n 0, 1) := by decide +kernel
theorem dX7_underOf_20 : decode cX7_underOf 20 = .ok (.getfield 52, 3) := by decide +kernel
theorem dX7_underOf_23 : decode cX7_underOf 23 = .ok (.iload_n 3, 1) := by decide +kernel
theorem dX7_underOf_24 : decode cX7_underOf 24 = .ok (.iaload, 1) := by decide +kernel
theorem dX7_underOf_25 : decode cX7_underOf 25 = .ok (.iload_n 1, 1) := by decide +kernel
theorem dX7_underOf_26 : decode cX7_underOf 26 = .ok (.if_icmp .lt 23, 3) := by decide +kernel
theorem dX7_underOf_29 : decode cX7_underOf 29 = .ok (.aload_n 0, 1) := by decide +kernel
theorem dX7_underOf_30 : decode cX7_underOf 30 = .ok (.getfield 49, 3) := by decide +kernel
theorem dX7_underOf_33 : decode cX7_underOf 33 = .ok (.iload_n 3, 1) := by decide +kernel
theorem dX7_underOf_34 : decode cX7_underOf 34 = .ok (.iaload, 1) := by decide +kernel
theorem dX7_underOf_35 : decode cX7_underOf 35 = .ok (.iconst 1, 1) := by decide +kernel
theorem dX7_underOf_36 : decode cX7_underOf 36 = .ok (.if_icmp .ne 17, 3) := by decide +kernel
theorem dX7_underOf_39 : decode cX7_underOf 39 = .ok (.aload_n 0, 1) := by decide +kernel
theorem dX7_underOf_40 : decode cX7_underOf 40 = .ok (.getfield 52, 3) := by decide +kernel
theorem dX7_underOf_43 : decode cX7_underOf 43 = .ok (.iload_n 3, 1) := by decide +kernel
theorem dX7_underOf_44 : decode cX7_underOf 44 = .ok (.iaload, 1) := by decide +kernel
theorem dX7_underOf_45 : decode cX7_underOf 45 = .ok (.iload_n 1, 1) := by decide +kernel
theorem dX7_underOf_46 : decode cX7_underOf 46 = .ok (.if_icmp .gt 7, 3) := by decide +kernel
theorem dX7_underOf_49 : decode cX7_underOf 49 = .ok (.iconst 1, 1) := by decide +kernel
theorem dX7_underOf_50 : decode cX7_underOf 50 = .ok (.goto 4, 3) := by decide +kernel
theorem dX7_underOf_53 : decode cX7_underOf 53 = .ok (.iconst 0, 1) := by decide +kernel
theorem dX7_underOf_54 : decode cX7_underOf 54 = .ok (.istore 4, 2) := by decide +kernel
theorem dX7_underOf_56 : decode cX7_underOf 56 = .ok (.iload_n 2, 1) := by decide +kernel
theorem dX7_underOf_57 : decode cX7_underOf 57 = .ok (.aload_n 0, 1) := by decide +kernel
theorem dX7_underOf_58 : decode cX7_underOf 58 = .ok (.iload_n 3, 1) := by decide +kernel
theorem dX7_underOf_59 : decode cX7_underOf 59 = .ok (.invokevirtual 145, 3) := by decide +kernel
theorem dX7_underOf_62 : decode cX7_underOf 62 = .ok (.ifCond .eq 12, 3) := by decide +kernel
theorem dX7_underOf_65 : decode cX7_underOf 65 = .ok (.iload 4, 2) := by decide +kernel
theorem dX7_underOf_67 : decode cX7_underOf 67 = .ok (.ifCond .eq 7, 3) := by decide +kernel
theorem dX7_underOf_70 : decode cX7_underOf 70 = .ok (.iconst 1, 1) := by decide +kernel
theorem dX7_underOf_71 : decode cX7_underOf 71 = .ok (.goto 4, 3) := by decide +kernel
theorem dX7_underOf_74 : decode cX7_underOf 74 = .ok (.iconst 0, 1) := by decide +kernel
theorem dX7_underOf_75 : decode cX7_underOf 75 = .ok (.iadd, 1) := by decide +kernel
theorem dX7_underOf_76 : decode cX7_underOf 76 = .ok (.istore_n 2, 1) := by decide +kernel
theorem dX7_underOf_77 : decode cX7_underOf 77 = .ok (.iinc 3 1, 3) := by decide +kernel
theorem dX7_underOf_80 : decode cX7_underOf 80 = .ok (.goto (-76), 3) := by decide +kernel
theorem dX7_underOf_83 : decode cX7_underOf 83 = .ok (.iload_n 2, 1) := by decide +kernel
theorem dX7_underOf_84 : decode cX7_underOf 84 = .ok (.ireturn, 1) := by decide +kernel
set_option maxRecDepth 20000 in
theorem ggX7_counted_X7_isCounted : GoodIn wsX7_counted wsX7_isCounted := goodIn_r _ [5, 6, 7, 8, 4, 9, 10, 11, 12, 13, 14, 15, 16, 17, 18, 19, 20, 21, 22, 23, 24, 25, 26, 27, 28, 29, 30, 31, 32, 33, 34, 35, 36, 37] (by decide +kernel) (by decide +kernel)
set_option maxRecDepth 20000 in
theorem gX7_counted_X7_isCounted : GoodIn wsX7_counted (wsV RX7 145 RX7 yX7_isCounted wsX7_isCounted) := goodIn_app (goodIn_of _ (by decide +kernel)) ggX7_counted_X7_isCounted
theorem dX7_counted_0 : decode cX7_counted 0 = .ok (.iconst 0, 1) := by decide +kernel
theorem dX7_counted_1 : decode cX7_counted 1 = .ok (.istore_n 1, 1) := by decide +kernel
theorem dX7_counted_2 : decode cX7_counted 2 = .ok (.iconst 0, 1) := by decide +kernel
theorem dX7_counted_3 : decode cX7_counted 3 = .ok (.istore_n 2, 1) := by decide +kernel
theorem dX7_counted_4 : decode cX7_counted 4 = .ok (.iload_n 2, 1) := by decide +kernel
theorem dX7_counted_5 : decode cX7_counted 5 = .ok (.bipush 60, 2) := by decide +kernel
theorem dX7_counted_7 : decode cX7_counted 7 = .ok (.if_icmp .ge 25, 3) := by decide +kernel
theorem dX7_counted_10 : decode cX7_counted 10 = .ok (.iload_n 1, 1) := by decide +kernel
theorem dX7_counted_11 : decode cX7_counted 11 = .ok (.aload_n 0, 1) := by decide +kernel
theorem dX7_counted_12 : decode cX7_counted 12 = .ok (.iload_n 2, 1) := by decide +kernel
theorem dX7_counted_13 : decode cX7_counted 13 = .ok (.invokevirtual 145, 3) := by decide +kernel
theorem dX7_counted_16 : decode cX7_counted 16 = .ok (.ifCond .eq 7, 3) := by decide +kernel
theorem dX7_counted_19 : decode cX7_counted 19 = .ok (.iconst 1, 1) := by decide +kernel
theorem dX7_counted_20 : decode cX7_counted 20 = .ok (.goto 4, 3) := by decide +kernel
theorem dX7_counted_23 : decode cX7_counted 23 = .ok (.iconst 0, 1) := by decide +kernel
theorem dX7_counted_24 : decode cX7_counted 24 = .ok (.iadd, 1) := by decide +kernel
theorem dX7_counted_25 : decode cX7_counted 25 = .ok (.istore_n 1, 1) := by decide +kernel
theorem dX7_counted_26 : decode cX7_counted 26 = .ok (.iinc 2 1, 3) := by decide +kernel
theorem dX7_counted_29 : decode cX7_counted 29 = .ok (.goto (-25), 3) := by decide +kernel
theorem dX7_counted_32 : decode cX7_counted 32 = .ok (.iload_n 1, 1) := by decide +kernel
theorem dX7_counted_33 : decode cX7_counted 33 = .ok (.ireturn, 1) := by decide +kernel
set_option maxRecDepth 20000 in
theorem ggX7_overBy_X7_find : GoodIn wsX7_overBy wsX7_find := goodIn_r _ [5, 6, 7, 8, 9, 10, 11, 12, 13, 14, 15, 16, 17, 18, 19, 4, 20, 21, 22, 23, 24, 25, 26, 27, 28, 29, 30, 31, 44, 45, 46, 47, 48, 49, 50, 51, 52, 53, 54, 55, 56, 57, 58, 59, 60, 61, 62, 63, 64, 65, 66, 67, 68, 69, 70, 71] (by decide +kernel) (by decide +kernel)
set_option maxRecDepth 20000 in
theorem gX7_overBy_X7_find : GoodIn wsX7_overBy (wsV RX7 151 RX7 yX7_find wsX7_find) := goodIn_app (goodIn_of _ (by decide +kernel)) ggX7_overBy_X7_find
set_option maxRecDepth 20000 in
theorem ggX7_overBy_X7_overOf : GoodIn wsX7_overBy wsX7_overOf := goodIn_r _ [35, 6, 7, 28, 29, 30, 4, 31, 10, 25, 26, 27, 44, 45, 46, 47, 48, 49, 50, 51, 52, 53, 54, 55, 56, 57, 58, 59, 60, 61, 62, 63, 64, 65, 66, 67, 68, 69, 70, 71] (by decide +kernel) (by decide +kernel)
set_option maxRecDepth 20000 in
theorem gX7_overBy_X7_overOf : GoodIn wsX7_overBy (wsV RX7 154 RX7 yX7_overOf wsX7_overOf) := goodIn_app (goodIn_of _ (by decide +kernel)) ggX7_overBy_X7_overOf
set_option maxRecDepth 20000 in
theorem ggX7_overBy_X7_underOf : GoodIn wsX7_overBy wsX7_underOf := goodIn_r _ [39, 6, 7, 28, 29, 30, 4, 31, 10, 25, 26, 27, 44, 45, 46, 47, 48, 49, 50, 51, 52, 53, 54, 55, 56, 57, 58, 59, 60, 61, 62, 63, 64, 65, 66, 67, 68, 69, 70, 71] (by decide +kernel) (by decide +kernel)
set_option maxRecDepth 20000 in
theorem gX7_overBy_X7_underOf : GoodIn wsX7_overBy (wsV RX7 157 RX7 yX7_underOf wsX7_underOf) := goodIn_app (goodIn_of _ (by decide +kernel)) ggX7_overBy_X7_underOf
set_option maxRecDepth 20000 in
theorem ggX7_overBy_X7_counted : GoodIn wsX7_overBy wsX7_counted := goodIn_r _ [43, 28, 29, 30, 4, 31, 10, 25, 26, 27, 44, 45, 46, 47, 48, 49, 50, 51, 52, 53, 54, 55, 56, 57, 58, 59, 60, 61, 62, 63, 64, 65, 66, 67, 68, 69, 70, 71] (by decide +kernel) (by decide +kernel)
set_option maxRecDepth 20000 in
theorem gX7_overBy_X7_counted : GoodIn wsX7_overBy (wsV RX7 160 RX7 yX7_counted wsX7_counted) := goodIn_app (goodIn_of _ (by decide +kernel)) ggX7_overBy_X7_counted
theorem dX7_overBy_0 : decode cX7_overBy 0 = .ok (.aload_n 0, 1) := by decide +kernel
theorem dX7_overBy_1 : decode cX7_overBy 1 = .ok (.invokevirtual 151, 3) := by decide +kernel
theorem dX7_overBy_4 : decode cX7_overBy 4 = .ok (.iload_n 2, 1) := by decide +kernel
theorem dX7_overBy_5 : decode cX7_overBy 5 = .ok (.ifCond .ne 11, 3) := by decide +kernel
theorem dX7_overBy_8 : decode cX7_overBy 8 = .ok (.aload_n 0, 1) := by decide +kernel
theorem dX7_overBy_9 : decode cX7_overBy 9 = .ok (.iload_n 1, 1) := by decide +kernel
theorem dX7_overBy_10 : decode cX7_overBy 10 = .ok (.invokevirtual 154, 3) := by decide +kernel
theorem dX7_overBy_13 : decode cX7_overBy 13 = .ok (.goto 32, 3) := by decide +kernel
theorem dX7_overBy_16 : decode cX7_overBy 16 = .ok (.iload_n 2, 1) := by decide +kernel
theorem dX7_overBy_17 : decode cX7_overBy 17 = .ok (.iconst 1, 1) := by decide +kernel
theorem dX7_overBy_18 : decode cX7_overBy 18 = .ok (.if_icmp .ne 11, 3) := by decide +kernel
theorem dX7_overBy_21 : decode cX7_overBy 21 = .ok (.aload_n 0, 1) := by decide +kernel
theorem dX7_overBy_22 : decode cX7_overBy 22 = .ok (.iload_n 1, 1) := by decide +kernel
theorem dX7_overBy_23 : decode cX7_overBy 23 = .ok (.invokevirtual 157, 3) := by decide +kernel
theorem dX7_overBy_26 : decode cX7_overBy 26 = .ok (.goto 19, 3) := by decide +kernel
theorem dX7_overBy_29 : decode cX7_overBy 29 = .ok (.aload_n 0, 1) := by decide +kernel
theorem dX7_overBy_30 : decode cX7_overBy 30 = .ok (.invokevirtual 160, 3) := by decide +kernel
theorem dX7_overBy_33 : decode cX7_overBy 33 = .ok (.aload_n 0, 1) := by decide +kernel
theorem dX7_overBy_34 : decode cX7_overBy 34 = .ok (.iload_n 1, 1) := by decide +kernel
theorem dX7_overBy_35 : decode cX7_overBy 35 = .ok (.invokevirtual 154, 3) := by decide +kernel
theorem dX7_overBy_38 : decode cX7_overBy 38 = .ok (.isub, 1) := by decide +kernel
theorem dX7_overBy_39 : decode cX7_overBy 39 = .ok (.aload_n 0, 1) := by decide +kernel
theorem dX7_overBy_40 : decode cX7_overBy 40 = .ok (.iload_n 1, 1) := by decide +kernel
theorem dX7_overBy_41 : decode cX7_overBy 41 = .ok (.invokevirtual 157, 3) := by decide +kernel
theorem dX7_overBy_44 : decode cX7_overBy 44 = .ok (.isub, 1) := by decide +kernel
theorem dX7_overBy_45 : decode cX7_overBy 45 = .ok (.ireturn, 1) := by decide +kernel
set_option maxRecDepth 20000 in
theorem ggX7_over_X7_isLevel : GoodIn wsX7_over wsX7_isLevel := goodIn_r _ [5, 6, 7, 8, 4, 9] (by decide +kernel) (by decide +kernel)
set_option maxRecDepth 20000 in
theorem gX7_over_X7_isLevel : GoodIn wsX7_over (va_wsS RX7 118 yX7_isLevel wsX7_isLevel) := goodIn_app (goodIn_of _ (by decide +kernel)) ggX7_over_X7_isLevel
set_option maxRecDepth 20000 in
theorem ggX7_over_X7_in : GoodIn wsX7_over wsX7_in := goodIn_r _ [9] (by decide +kernel) (by decide +kernel)
set_option maxRecDepth 20000 in
theorem gX7_over_X7_in : GoodIn wsX7_over (va_wsS RX7 76 yX7_in wsX7_in) := goodIn_app (goodIn_of _ (by decide +kernel)) ggX7_over_X7_in
set_option maxRecDepth 20000 in
theorem ggX7_over_X7_overBy : GoodIn wsX7_over wsX7_overBy := goodIn_r _ [13, 14, 15, 16, 4, 17, 18, 19, 20, 21, 22, 23, 24, 25, 26, 27, 28, 29, 30, 31, 32, 33, 34, 35, 36, 7, 8, 9, 37, 38, 39, 40, 41, 42, 43, 44, 45, 46, 47, 48, 49, 50, 51, 52, 53, 54, 55, 56, 57, 58, 59, 60, 61, 62, 63, 64, 65, 66, 67, 68, 69, 70, 71, 72, 73, 74, 75, 76, 77, 78, 79, 80] (by decide +kernel) (by decide +kernel)
set_option maxRecDepth 20000 in
theorem gX7_over_X7_overBy : GoodIn wsX7_over (wsV RX7 164 RX7 yX7_overBy wsX7_overBy) := goodIn_app (goodIn_of _ (by decide +kernel)) ggX7_over_X7_overBy
theorem dX7_over_0 : decode cX7_over 0 = .ok (.iload_n 1, 1) := by decide +kernel
theorem dX7_over_1 : decode cX7_over 1 = .ok (.invokestatic 118, 3) := by decide +kernel
theorem dX7_over_4 : decode cX7_over 4 = .ok (.ifCond .eq 24, 3) := by decide +kernel
theorem dX7_over_7 : decode cX7_over 7 = .ok (.iload_n 2, 1) := by decide +kernel
theorem dX7_over_8 : decode cX7_over 8 = .ok (.i2l, 1) := by decide +kernel
theorem dX7_over_9 : decode cX7_over 9 = .ok (.lconst 0, 1) := by decide +kernel
theorem dX7_over_10 : decode cX7_over 10 = .ok (.ldc2_w 90, 3) := by decide +kernel
theorem dX7_over_13 : decode cX7_over 13 = .ok (.invokestatic 76, 3) := by decide +kernel
theorem dX7_over_16 : decode cX7_over 16 = .ok (.ifCond .eq 12, 3) := by decide +kernel
theorem dX7_over_19 : decode cX7_over 19 = .ok (.aload_n 0, 1) := by decide +kernel
theorem dX7_over_20 : decode cX7_over 20 = .ok (.iload_n 1, 1) := by decide +kernel
theorem dX7_over_21 : decode cX7_over 21 = .ok (.iload_n 2, 1) := by decide +kernel
theorem dX7_over_22 : decode cX7_over 22 = .ok (.invokevirtual 164, 3) := by decide +kernel
theorem dX7_over_25 : decode cX7_over 25 = .ok (.goto 5, 3) := by decide +kernel
theorem dX7_over_28 : decode cX7_over 28 = .ok (.bipush (-2), 2) := by decide +kernel
theorem dX7_over_30 : decode cX7_over 30 = .ok (.ireturn, 1) := by decide +kernel
set_option maxRecDepth 20000 in
theorem ggX7_rareOf_X7_find : GoodIn wsX7_rareOf wsX7_find := goodIn_r _ [5, 6, 7, 8, 9, 10, 11, 12, 13, 14, 15, 16, 17, 18, 19, 4, 20, 21, 22, 23, 24, 25, 26, 27, 28, 29, 30, 31, 54, 55, 56, 57, 58, 59, 60, 61, 62, 63, 64, 65, 66, 67, 68, 69, 70, 71, 72, 73, 74, 75, 76, 77, 78, 79, 80, 81] (by decide +kernel) (by decide +kernel)
set_option maxRecDepth 20000 in
theorem gX7_rareOf_X7_find : GoodIn wsX7_rareOf (wsV RX7 151 RX7 yX7_find wsX7_find) := goodIn_app (goodIn_of _ (by decide +kernel)) ggX7_rareOf_X7_find
set_option maxRecDepth 20000 in
theorem ggX7_rareOf_X7_overOf : GoodIn wsX7_rareOf wsX7_overOf := goodIn_r _ [35, 6, 7, 28, 29, 30, 4, 31, 10, 25, 26, 27, 54, 55, 56, 57, 58, 59, 60, 61, 62, 63, 64, 65, 66, 67, 68, 69, 70, 71, 72, 73, 74, 75, 76, 77, 78, 79, 80, 81] (by decide +kernel) (by decide +kernel)
set_option maxRecDepth 20000 in
theorem gX7_rareOf_X7_overOf : GoodIn wsX7_rareOf (wsV RX7 154 RX7 yX7_overOf wsX7_overOf) := goodIn_app (goodIn_of _ (by decide +kernel)) ggX7_rareOf_X7_overOf
set_option maxRecDepth 20000 in
theorem ggX7_rareOf_X7_underOf : GoodIn wsX7_rareOf wsX7_underOf := goodIn_r _ [39, 6, 7, 28, 29, 30, 4, 31, 10, 25, 26, 27, 54, 55, 56, 57, 58, 59, 60, 61, 62, 63, 64, 65, 66, 67, 68, 69, 70, 71, 72, 73, 74, 75, 76, 77, 78, 79, 80, 81] (by decide +kernel) (by decide +kernel)
set_option maxRecDepth 20000 in
theorem gX7_rareOf_X7_underOf : GoodIn wsX7_rareOf (wsV RX7 157 RX7 yX7_underOf wsX7_underOf) := goodIn_app (goodIn_of _ (by decide +kernel)) ggX7_rareOf_X7_underOf
set_option maxRecDepth 20000 in
theorem ggX7_rareOf_X7_counted : GoodIn wsX7_rareOf wsX7_counted := goodIn_r _ [43, 28, 29, 30, 4, 31, 10, 25, 26, 27, 54, 55, 56, 57, 58, 59, 60, 61, 62, 63, 64, 65, 66, 67, 68, 69, 70, 71, 72, 73, 74, 75, 76, 77, 78, 79, 80, 81] (by decide +kernel) (by decide +kernel)
set_option maxRecDepth 20000 in
theorem gX7_rareOf_X7_counted : GoodIn wsX7_rareOf (wsV RX7 160 RX7 yX7_counted wsX7_counted) := goodIn_app (goodIn_of _ (by decide +kernel)) ggX7_rareOf_X7_counted
set_option maxRecDepth 20000 in
theorem ggX7_rareOf_X7_part : GoodIn wsX7_rareOf wsX7_part := goodIn_r _ [46, 47, 48, 4, 49] (by decide +kernel) (by decide +kernel)
set_option maxRecDepth 20000 in
theorem gX7_rareOf_X7_part : GoodIn wsX7_rareOf (va_wsS RX7 167 yX7_part wsX7_part) := goodIn_app (goodIn_of _ (by decide +kernel)) ggX7_rareOf_X7_part
set_option maxRecDepth 20000 in
theorem ggX7_rareOf_X7_no : GoodIn wsX7_rareOf wsX7_no := goodIn_r _ [52, 53] (by decide +kernel) (by decide +kernel)
set_option maxRecDepth 20000 in
theorem gX7_rareOf_X7_no : GoodIn wsX7_rareOf (va_wsS RX7 171 yX7_no wsX7_no) := goodIn_app (goodIn_of _ (by decide +kernel)) ggX7_rareOf_X7_no
theorem dX7_rareOf_0 : decode cX7_rareOf 0 = .ok (.aload_n 0, 1) := by decide +kernel
theorem dX7_rareOf_1 : decode cX7_rareOf 1 = .ok (.invokevirtual 151, 3) := by decide +kernel
theorem dX7_rareOf_4 : decode cX7_rareOf 4 = .ok (.aload_n 0, 1) := by decide +kernel
theorem dX7_rareOf_5 : decode cX7_rareOf 5 = .ok (.iload_n 1, 1) := by decide +kernel
theorem dX7_rareOf_6 : decode cX7_rareOf 6 = .ok (.invokevirtual 154, 3) := by decide +kernel
theorem dX7_rareOf_9 : decode cX7_rareOf 9 = .ok (.istore 4, 2) := by decide +kernel
theorem dX7_rareOf_11 : decode cX7_rareOf 11 = .ok (.iload 4, 2) := by decide +kernel
theorem dX7_rareOf_13 : decode cX7_rareOf 13 = .ok (.aload_n 0, 1) := by decide +kernel
theorem dX7_rareOf_14 : decode cX7_rareOf 14 = .ok (.iload_n 1, 1) := by decide +kernel
theorem dX7_rareOf_15 : decode cX7_rareOf 15 = .ok (.invokevirtual 157, 3) := by decide +kernel
theorem dX7_rareOf_18 : decode cX7_rareOf 18 = .ok (.iadd, 1) := by decide +kernel
theorem dX7_rareOf_19 : decode cX7_rareOf 19 = .ok (.iconst 1, 1) := by decide +kernel
theorem dX7_rareOf_20 : decode cX7_rareOf 20 = .ok (.iadd, 1) := by decide +kernel
theorem dX7_rareOf_21 : decode cX7_rareOf 21 = .ok (.istore 5, 2) := by decide +kernel
theorem dX7_rareOf_23 : decode cX7_rareOf 23 = .ok (.aload_n 0, 1) := by decide +kernel
theorem dX7_rareOf_24 : decode cX7_rareOf 24 = .ok (.invokevirtual 160, 3) := by decide +kernel
theorem dX7_rareOf_27 : decode cX7_rareOf 27 = .ok (.iconst 1, 1) := by decide +kernel
theorem dX7_rareOf_28 : decode cX7_rareOf 28 = .ok (.iadd, 1) := by decide +kernel
theorem dX7_rareOf_29 : decode cX7_rareOf 29 = .ok (.istore 6, 2) := by decide +kernel
theorem dX7_rareOf_31 : decode cX7_rareOf 31 = .ok (.iload_n 2, 1) := by decide +kernel
theorem dX7_rareOf_32 : decode cX7_rareOf 32 = .ok (.tableswitch 67 0 2 #[28, 39, 50], 28) := by decide +kernel
theorem dX7_rareOf_60 : decode cX7_rareOf 60 = .ok (.iload 4, 2) := by decide +kernel
theorem dX7_rareOf_62 : decode cX7_rareOf 62 = .ok (.i2l, 1) := by decide +kernel
theorem dX7_rareOf_63 : decode cX7_rareOf 63 = .ok (.iload 5, 2) := by decide +kernel
theorem dX7_rareOf_65 : decode cX7_rareOf 65 = .ok (.i2l, 1) := by decide +kernel
theorem dX7_rareOf_66 : decode cX7_rareOf 66 = .ok (.iload_n 3, 1) := by decide +kernel
theorem dX7_rareOf_67 : decode cX7_rareOf 67 = .ok (.invokestatic 167, 3) := by decide +kernel
theorem dX7_rareOf_70 : decode cX7_rareOf 70 = .ok (.lreturn, 1) := by decide +kernel
theorem dX7_rareOf_71 : decode cX7_rareOf 71 = .ok (.iload 4, 2) := by decide +kernel
theorem dX7_rareOf_73 : decode cX7_rareOf 73 = .ok (.i2l, 1) := by decide +kernel
theorem dX7_rareOf_74 : decode cX7_rareOf 74 = .ok (.iload 6, 2) := by decide +kernel
theorem dX7_rareOf_76 : decode cX7_rareOf 76 = .ok (.i2l, 1) := by decide +kernel
theorem dX7_rareOf_77 : decode cX7_rareOf 77 = .ok (.iload_n 3, 1) := by decide +kernel
theorem dX7_rareOf_78 : decode cX7_rareOf 78 = .ok (.invokestatic 167, 3) := by decide +kernel
theorem dX7_rareOf_81 : decode cX7_rareOf 81 = .ok (.lreturn, 1) := by decide +kernel
theorem dX7_rareOf_82 : decode cX7_rareOf 82 = .ok (.iload 4, 2) := by decide +kernel
theorem dX7_rareOf_84 : decode cX7_rareOf 84 = .ok (.iload 6, 2) := by decide +kernel
theorem dX7_rareOf_86 : decode cX7_rareOf 86 = .ok (.iadd, 1) := by decide +kernel
theorem dX7_rareOf_87 : decode cX7_rareOf 87 = .ok (.iload 5, 2) := by decide +kernel
theorem dX7_rareOf_89 : decode cX7_rareOf 89 = .ok (.isub, 1) := by decide +kernel
theorem dX7_rareOf_90 : decode cX7_rareOf 90 = .ok (.i2l, 1) := by decide +kernel
theorem dX7_rareOf_91 : decode cX7_rareOf 91 = .ok (.iload 6, 2) := by decide +kernel
theorem dX7_rareOf_93 : decode cX7_rareOf 93 = .ok (.i2l, 1) := by decide +kernel
theorem dX7_rareOf_94 : decode cX7_rareOf 94 = .ok (.iload_n 3, 1) := by decide +kernel
theorem dX7_rareOf_95 : decode cX7_rareOf 95 = .ok (.invokestatic 167, 3) := by decide +kernel
theorem dX7_rareOf_98 : decode cX7_rareOf 98 = .ok (.lreturn, 1) := by decide +kernel
theorem dX7_rareOf_99 : decode cX7_rareOf 99 = .ok (.iload 4, 2) := by decide +kernel
theorem dX7_rareOf_101 : decode cX7_rareOf 101 = .ok (.ifCond .ne 11, 3) := by decide +kernel
theorem dX7_rareOf_104 : decode cX7_rareOf 104 = .ok (.bipush (-3), 2) := by decide +kernel
theorem dX7_rareOf_106 : decode cX7_rareOf 106 = .ok (.invokestatic 171, 3) := by decide +kernel
theorem dX7_rareOf_109 : decode cX7_rareOf 109 = .ok (.goto 13, 3) := by decide +kernel
theorem dX7_rareOf_112 : decode cX7_rareOf 112 = .ok (.iload 5, 2) := by decide +kernel
theorem dX7_rareOf_114 : decode cX7_rareOf 114 = .ok (.i2l, 1) := by decide +kernel
theorem dX7_rareOf_115 : decode cX7_rareOf 115 = .ok (.iload 4, 2) := by decide +kernel
theorem dX7_rareOf_117 : decode cX7_rareOf 117 = .ok (.i2l, 1) := by decide +kernel
theorem dX7_rareOf_118 : decode cX7_rareOf 118 = .ok (.iload_n 3, 1) := by decide +kernel
theorem dX7_rareOf_119 : decode cX7_rareOf 119 = .ok (.invokestatic 167, 3) := by decide +kernel
theorem dX7_rareOf_122 : decode cX7_rareOf 122 = .ok (.lreturn, 1) := by decide +kernel
set_option maxRecDepth 20000 in
theorem ggX7_rare_X7_isLevel : GoodIn wsX7_rare wsX7_isLevel := goodIn_r _ [5, 6, 7, 8, 4, 9] (by decide +kernel) (by decide +kernel)
set_option maxRecDepth 20000 in
theorem gX7_rare_X7_isLevel : GoodIn wsX7_rare (va_wsS RX7 118 yX7_isLevel wsX7_isLevel) := goodIn_app (goodIn_of _ (by decide +kernel)) ggX7_rare_X7_isLevel
set_option maxRecDepth 20000 in
theorem ggX7_rare_X7_in : GoodIn wsX7_rare wsX7_in := goodIn_r _ [9] (by decide +kernel) (by decide +kernel)
set_option maxRecDepth 20000 in
theorem gX7_rare_X7_in : GoodIn wsX7_rare (va_wsS RX7 76 yX7_in wsX7_in) := goodIn_app (goodIn_of _ (by decide +kernel)) ggX7_rare_X7_in
set_option maxRecDepth 20000 in
theorem ggX7_rare_X7_isTwo : GoodIn wsX7_rare wsX7_isTwo := goodIn_r _ [12, 7, 8, 4, 9] (by decide +kernel) (by decide +kernel)
set_option maxRecDepth 20000 in
theorem gX7_rare_X7_isTwo : GoodIn wsX7_rare (va_wsS RX7 148 yX7_isTwo wsX7_isTwo) := goodIn_app (goodIn_of _ (by decide +kernel)) ggX7_rare_X7_isTwo
set_option maxRecDepth 20000 in
theorem ggX7_rare_X7_rareOf : GoodIn wsX7_rare wsX7_rareOf := goodIn_r _ [16, 17, 18, 19, 4, 20, 21, 22, 23, 24, 25, 26, 27, 28, 29, 30, 31, 32, 33, 34, 35, 36, 37, 38, 39, 7, 8, 9, 40, 41, 42, 43, 44, 45, 46, 47, 48, 49, 50, 51, 52, 53, 54, 55, 56, 57, 58, 59, 60, 61, 62, 63, 64, 65, 66, 67, 68, 69, 70, 71, 72, 73, 74, 75, 76, 77, 78, 79, 80, 81, 82, 83, 84, 85, 86, 87, 88, 89, 90, 91, 92, 93] (by decide +kernel) (by decide +kernel)
set_option maxRecDepth 20000 in
theorem gX7_rare_X7_rareOf : GoodIn wsX7_rare (wsV RX7 175 RX7 yX7_rareOf wsX7_rareOf) := goodIn_app (goodIn_of _ (by decide +kernel)) ggX7_rare_X7_rareOf
set_option maxRecDepth 20000 in
theorem ggX7_rare_X7_no : GoodIn wsX7_rare wsX7_no := goodIn_r _ [64, 65] (by decide +kernel) (by decide +kernel)
set_option maxRecDepth 20000 in
theorem gX7_rare_X7_no : GoodIn wsX7_rare (va_wsS RX7 171 yX7_no wsX7_no) := goodIn_app (goodIn_of _ (by decide +kernel)) ggX7_rare_X7_no
theorem dX7_rare_0 : decode cX7_rare 0 = .ok (.iload_n 1, 1) := by decide +kernel
theorem dX7_rare_1 : decode cX7_rare 1 = .ok (.invokestatic 118, 3) := by decide +kernel
theorem dX7_rare_4 : decode cX7_rare 4 = .ok (.ifCond .eq 32, 3) := by decide +kernel
theorem dX7_rare_7 : decode cX7_rare 7 = .ok (.iload_n 2, 1) := by decide +kernel
theorem dX7_rare_8 : decode cX7_rare 8 = .ok (.i2l, 1) := by decide +kernel
theorem dX7_rare_9 : decode cX7_rare 9 = .ok (.lconst 0, 1) := by decide +kernel
theorem dX7_rare_10 : decode cX7_rare 10 = .ok (.ldc2_w 84, 3) := by decide +kernel
theorem dX7_rare_13 : decode cX7_rare 13 = .ok (.invokestatic 76, 3) := by decide +kernel
theorem dX7_rare_16 : decode cX7_rare 16 = .ok (.ifCond .eq 20, 3) := by decide +kernel
theorem dX7_rare_19 : decode cX7_rare 19 = .ok (.iload_n 3, 1) := by decide +kernel
theorem dX7_rare_20 : decode cX7_rare 20 = .ok (.invokestatic 148, 3) := by decide +kernel
theorem dX7_rare_23 : decode cX7_rare 23 = .ok (.ifCond .eq 13, 3) := by decide +kernel
theorem dX7_rare_26 : decode cX7_rare 26 = .ok (.aload_n 0, 1) := by decide +kernel
theorem dX7_rare_27 : decode cX7_rare 27 = .ok (.iload_n 1, 1) := by decide +kernel
theorem dX7_rare_28 : decode cX7_rare 28 = .ok (.iload_n 2, 1) := by decide +kernel
theorem dX7_rare_29 : decode cX7_rare 29 = .ok (.iload_n 3, 1) := by decide +kernel
theorem dX7_rare_30 : decode cX7_rare 30 = .ok (.invokevirtual 175, 3) := by decide +kernel
theorem dX7_rare_33 : decode cX7_rare 33 = .ok (.goto 8, 3) := by decide +kernel
theorem dX7_rare_36 : decode cX7_rare 36 = .ok (.bipush (-2), 2) := by decide +kernel
theorem dX7_rare_38 : decode cX7_rare 38 = .ok (.invokestatic 171, 3) := by decide +kernel
theorem dX7_rare_41 : decode cX7_rare 41 = .ok (.lreturn, 1) := by decide +kernel
set_option maxRecDepth 20000 in
theorem ggX7_soRareOf_X7_find : GoodIn wsX7_soRareOf wsX7_find := goodIn_r _ [7, 8, 9, 10, 11, 12, 13, 14, 15, 1, 16, 2, 17, 18, 19, 6, 20, 21, 22, 23, 24, 25, 26, 27, 28, 29, 30, 31, 40, 41, 42, 43, 44, 45, 46, 47, 48, 49, 50, 51, 52, 53, 54, 55, 56, 57, 58, 59, 60, 61, 62, 63, 64, 65, 66, 67] (by decide +kernel) (by decide +kernel)
set_option maxRecDepth 20000 in
theorem gX7_soRareOf_X7_find : GoodIn wsX7_soRareOf (wsV RX7 151 RX7 yX7_find wsX7_find) := goodIn_app (goodIn_of _ (by decide +kernel)) ggX7_soRareOf_X7_find
set_option maxRecDepth 20000 in
theorem ggX7_soRareOf_X7_overOf : GoodIn wsX7_soRareOf wsX7_overOf := goodIn_r _ [35, 8, 9, 28, 29, 30, 6, 31, 12, 25, 26, 27, 40, 41, 42, 43, 44, 45, 46, 47, 48, 49, 50, 51, 52, 53, 54, 55, 56, 57, 58, 59, 60, 61, 62, 63, 64, 65, 66, 67] (by decide +kernel) (by decide +kernel)
set_option maxRecDepth 20000 in
theorem gX7_soRareOf_X7_overOf : GoodIn wsX7_soRareOf (wsV RX7 154 RX7 yX7_overOf wsX7_overOf) := goodIn_app (goodIn_of _ (by decide +kernel)) ggX7_soRareOf_X7_overOf
set_option maxRecDepth 20000 in
theorem ggX7_soRareOf_X7_underOf : GoodIn wsX7_soRareOf wsX7_underOf := goodIn_r _ [39, 8, 9, 28, 29, 30, 6, 31, 12, 25, 26, 27, 40, 41, 42, 43, 44, 45, 46, 47, 48, 49, 50, 51, 52, 53, 54, 55, 56, 57, 58, 59, 60, 61, 62, 63, 64, 65, 66, 67] (by decide +kernel) (by decide +kernel)
set_option maxRecDepth 20000 in
theorem gX7_soRareOf_X7_underOf : GoodIn wsX7_soRareOf (wsV RX7 157 RX7 yX7_underOf wsX7_underOf) := goodIn_app (goodIn_of _ (by decide +kernel)) ggX7_soRareOf_X7_underOf
theorem dX7_soRareOf_0 : decode cX7_soRareOf 0 = .ok (.aload_n 0, 1) := by decide +kernel
theorem dX7_soRareOf_1 : decode cX7_soRareOf 1 = .ok (.invokevirtual 151, 3) := by decide +kernel
theorem dX7_soRareOf_4 : decode cX7_soRareOf 4 = .ok (.iconst (-1), 1) := by decide +kernel
theorem dX7_soRareOf_5 : decode cX7_soRareOf 5 = .ok (.istore_n 2, 1) := by decide +kernel
theorem dX7_soRareOf_6 : decode cX7_soRareOf 6 = .ok (.iconst 0, 1) := by decide +kernel
theorem dX7_soRareOf_7 : decode cX7_soRareOf 7 = .ok (.istore_n 3, 1) := by decide +kernel
theorem dX7_soRareOf_8 : decode cX7_soRareOf 8 = .ok (.iload_n 3, 1) := by decide +kernel
theorem dX7_soRareOf_9 : decode cX7_soRareOf 9 = .ok (.aload_n 0, 1) := by decide +kernel
theorem dX7_soRareOf_10 : decode cX7_soRareOf 10 = .ok (.getfield 139, 3) := by decide +kernel
theorem dX7_soRareOf_13 : decode cX7_soRareOf 13 = .ok (.if_icmp .ge 71, 3) := by decide +kernel
theorem dX7_soRareOf_16 : decode cX7_soRareOf 16 = .ok (.aload_n 0, 1) := by decide +kernel
theorem dX7_soRareOf_17 : decode cX7_soRareOf 17 = .ok (.getfield 58, 3) := by decide +kernel
theorem dX7_soRareOf_20 : decode cX7_soRareOf 20 = .ok (.iload_n 3, 1) := by decide +kernel
theorem dX7_soRareOf_21 : decode cX7_soRareOf 21 = .ok (.iaload, 1) := by decide +kernel
theorem dX7_soRareOf_22 : decode cX7_soRareOf 22 = .ok (.istore 4, 2) := by decide +kernel
theorem dX7_soRareOf_24 : decode cX7_soRareOf 24 = .ok (.bipush 100, 2) := by decide +kernel
theorem dX7_soRareOf_26 : decode cX7_soRareOf 26 = .ok (.aload_n 0, 1) := by decide +kernel
theorem dX7_soRareOf_27 : decode cX7_soRareOf 27 = .ok (.iload 4, 2) := by decide +kernel
theorem dX7_soRareOf_29 : decode cX7_soRareOf 29 = .ok (.invokevirtual 154, 3) := by decide +kernel
theorem dX7_soRareOf_32 : decode cX7_soRareOf 32 = .ok (.imul, 1) := by decide +kernel
theorem dX7_soRareOf_33 : decode cX7_soRareOf 33 = .ok (.iload_n 1, 1) := by decide +kernel
theorem dX7_soRareOf_34 : decode cX7_soRareOf 34 = .ok (.aload_n 0, 1) := by decide +kernel
theorem dX7_soRareOf_35 : decode cX7_soRareOf 35 = .ok (.iload 4, 2) := by decide +kernel
theorem dX7_soRareOf_37 : decode cX7_soRareOf 37 = .ok (.invokevirtual 154, 3) := by decide +kernel
theorem dX7_soRareOf_40 : decode cX7_soRareOf 40 = .ok (.aload_n 0, 1) := by decide +kernel
theorem dX7_soRareOf_41 : decode cX7_soRareOf 41 = .ok (.iload 4, 2) := by decide +kernel
theorem dX7_soRareOf_43 : decode cX7_soRareOf 43 = .ok (.invokevirtual 157, 3) := by decide +kernel
theorem dX7_soRareOf_46 : decode cX7_soRareOf 46 = .ok (.iadd, 1) := by decide +kernel
theorem dX7_soRareOf_47 : decode cX7_soRareOf 47 = .ok (.iconst 1, 1) := by decide +kernel
theorem dX7_soRareOf_48 : decode cX7_soRareOf 48 = .ok (.iadd, 1) := by decide +kernel
theorem dX7_soRareOf_49 : decode cX7_soRareOf 49 = .ok (.imul, 1) := by decide +kernel
theorem dX7_soRareOf_50 : decode cX7_soRareOf 50 = .ok (.if_icmp .lt 7, 3) := by decide +kernel
theorem dX7_soRareOf_53 : decode cX7_soRareOf 53 = .ok (.iconst 1, 1) := by decide +kernel
theorem dX7_soRareOf_54 : decode cX7_soRareOf 54 = .ok (.goto 4, 3) := by decide +kernel
theorem dX7_soRareOf_57 : decode cX7_soRareOf 57 = .ok (.iconst 0, 1) := by decide +kernel
theorem dX7_soRareOf_58 : decode cX7_soRareOf 58 = .ok (.istore 5, 2) := by decide +kernel
theorem dX7_soRareOf_60 : decode cX7_soRareOf 60 = .ok (.iload 5, 2) := by decide +kernel
theorem dX7_soRareOf_62 : decode cX7_soRareOf 62 = .ok (.ifCond .eq 14, 3) := by decide +kernel
theorem dX7_soRareOf_65 : decode cX7_soRareOf 65 = .ok (.iload 4, 2) := by decide +kernel
theorem dX7_soRareOf_67 : decode cX7_soRareOf 67 = .ok (.iload_n 2, 1) := by decide +kernel
theorem dX7_soRareOf_68 : decode cX7_soRareOf 68 = .ok (.if_icmp .le 8, 3) := by decide +kernel
theorem dX7_soRareOf_71 : decode cX7_soRareOf 71 = .ok (.iload 4, 2) := by decide +kernel
theorem dX7_soRareOf_73 : decode cX7_soRareOf 73 = .ok (.goto 4, 3) := by decide +kernel
theorem dX7_soRareOf_76 : decode cX7_soRareOf 76 = .ok (.iload_n 2, 1) := by decide +kernel
theorem dX7_soRareOf_77 : decode cX7_soRareOf 77 = .ok (.istore_n 2, 1) := by decide +kernel
theorem dX7_soRareOf_78 : decode cX7_soRareOf 78 = .ok (.iinc 3 1, 3) := by decide +kernel
theorem dX7_soRareOf_81 : decode cX7_soRareOf 81 = .ok (.goto (-73), 3) := by decide +kernel
theorem dX7_soRareOf_84 : decode cX7_soRareOf 84 = .ok (.iload_n 2, 1) := by decide +kernel
theorem dX7_soRareOf_85 : decode cX7_soRareOf 85 = .ok (.ireturn, 1) := by decide +kernel
set_option maxRecDepth 20000 in
theorem ggX7_isPart_X7_in : GoodIn wsX7_isPart wsX7_in := goodIn_r _ [5] (by decide +kernel) (by decide +kernel)
set_option maxRecDepth 20000 in
theorem gX7_isPart_X7_in : GoodIn wsX7_isPart (va_wsS RX7 76 yX7_in wsX7_in) := goodIn_app (goodIn_of _ (by decide +kernel)) ggX7_isPart_X7_in
theorem dX7_isPart_0 : decode cX7_isPart 0 = .ok (.iload_n 0, 1) := by decide +kernel
theorem dX7_isPart_1 : decode cX7_isPart 1 = .ok (.i2l, 1) := by decide +kernel
theorem dX7_isPart_2 : decode cX7_isPart 2 = .ok (.lconst 0, 1) := by decide +kernel
theorem dX7_isPart_3 : decode cX7_isPart 3 = .ok (.ldc2_w 179, 3) := by decide +kernel
theorem dX7_isPart_6 : decode cX7_isPart 6 = .ok (.invokestatic 76, 3) := by decide +kernel
theorem dX7_isPart_9 : decode cX7_isPart 9 = .ok (.ireturn, 1) := by decide +kernel
set_option maxRecDepth 20000 in
theorem ggX7_soRare_X7_isPart : GoodIn wsX7_soRare wsX7_isPart := goodIn_r _ [4, 5, 6, 7, 3, 8] (by decide +kernel) (by decide +kernel)
set_option maxRecDepth 20000 in
theorem gX7_soRare_X7_isPart : GoodIn wsX7_soRare (va_wsS RX7 181 yX7_isPart wsX7_isPart) := goodIn_app (goodIn_of _ (by decide +kernel)) ggX7_soRare_X7_isPart
set_option maxRecDepth 20000 in
theorem ggX7_soRare_X7_soRareOf : GoodIn wsX7_soRare wsX7_soRareOf := goodIn_r _ [12, 13, 14, 15, 16, 17, 3, 18, 19, 20, 21, 22, 23, 24, 25, 26, 27, 28, 29, 30, 31, 32, 33, 34, 35, 6, 7, 8, 36, 37, 38, 39, 40, 41, 42, 43, 44, 45, 46, 47, 48, 49, 50, 51, 52, 53, 54, 55, 56, 57, 58, 59, 60, 61, 62, 63, 64, 65, 66, 67, 68, 69, 70, 71, 72, 73, 74, 75] (by decide +kernel) (by decide +kernel)
set_option maxRecDepth 20000 in
theorem gX7_soRare_X7_soRareOf : GoodIn wsX7_soRare (wsV RX7 184 RX7 yX7_soRareOf wsX7_soRareOf) := goodIn_app (goodIn_of _ (by decide +kernel)) ggX7_soRare_X7_soRareOf
theorem dX7_soRare_0 : decode cX7_soRare 0 = .ok (.iload_n 1, 1) := by decide +kernel
theorem dX7_soRare_1 : decode cX7_soRare 1 = .ok (.invokestatic 181, 3) := by decide +kernel
theorem dX7_soRare_4 : decode cX7_soRare 4 = .ok (.ifCond .eq 11, 3) := by decide +kernel
theorem dX7_soRare_7 : decode cX7_soRare 7 = .ok (.aload_n 0, 1) := by decide +kernel
theorem dX7_soRare_8 : decode cX7_soRare 8 = .ok (.iload_n 1, 1) := by decide +kernel
theorem dX7_soRare_9 : decode cX7_soRare 9 = .ok (.invokevirtual 184, 3) := by decide +kernel
theorem dX7_soRare_12 : decode cX7_soRare 12 = .ok (.goto 5, 3) := by decide +kernel
theorem dX7_soRare_15 : decode cX7_soRare 15 = .ok (.bipush (-2), 2) := by decide +kernel
theorem dX7_soRare_17 : decode cX7_soRare 17 = .ok (.ireturn, 1) := by decide +kernel
set_option maxRecDepth 20000 in
theorem ggX7_rank_X7_isYear : GoodIn wsX7_rank wsX7_isYear := goodIn_r _ [8, 9, 10, 11, 7, 12] (by decide +kernel) (by decide +kernel)
set_option maxRecDepth 20000 in
theorem gX7_rank_X7_isYear : GoodIn wsX7_rank (va_wsS RX7 121 yX7_isYear wsX7_isYear) := goodIn_app (goodIn_of _ (by decide +kernel)) ggX7_rank_X7_isYear
set_option maxRecDepth 20000 in
theorem ggX7_rank_X7_find : GoodIn wsX7_rank wsX7_find := goodIn_r _ [16, 1, 4, 17, 18, 19, 20, 21, 22, 2, 23, 3, 24, 25, 26, 7, 27, 28, 29, 30, 31, 10, 11, 12, 32, 33, 34, 35, 36, 37, 38, 39, 40, 41, 42, 43, 44, 45, 46, 47, 48, 49, 50, 51, 52, 53, 54, 55, 56, 57, 58, 59, 60, 61, 62, 63] (by decide +kernel) (by decide +kernel)
set_option maxRecDepth 20000 in
theorem gX7_rank_X7_find : GoodIn wsX7_rank (wsV RX7 151 RX7 yX7_find wsX7_find) := goodIn_app (goodIn_of _ (by decide +kernel)) ggX7_rank_X7_find
set_option maxRecDepth 20000 in
theorem ggX7_rank_X7_isCounted : GoodIn wsX7_rank wsX7_isCounted := goodIn_r _ [35, 19, 10, 11, 7, 12, 36, 37, 38, 39, 40, 41, 42, 43, 44, 45, 46, 47, 48, 49, 50, 51, 52, 53, 54, 55, 56, 57, 58, 59, 60, 61, 62, 63] (by decide +kernel) (by decide +kernel)
set_option maxRecDepth 20000 in
theorem gX7_rank_X7_isCounted : GoodIn wsX7_rank (wsV RX7 145 RX7 yX7_isCounted wsX7_isCounted) := goodIn_app (goodIn_of _ (by decide +kernel)) ggX7_rank_X7_isCounted
theorem dX7_rank_0 : decode cX7_rank 0 = .ok (.iload_n 1, 1) := by decide +kernel
theorem dX7_rank_1 : decode cX7_rank 1 = .ok (.invokestatic 121, 3) := by decide +kernel
theorem dX7_rank_4 : decode cX7_rank 4 = .ok (.ifCond .ne 6, 3) := by decide +kernel
theorem dX7_rank_7 : decode cX7_rank 7 = .ok (.bipush (-2), 2) := by decide +kernel
theorem dX7_rank_9 : decode cX7_rank 9 = .ok (.ireturn, 1) := by decide +kernel
theorem dX7_rank_10 : decode cX7_rank 10 = .ok (.aload_n 0, 1) := by decide +kernel
theorem dX7_rank_11 : decode cX7_rank 11 = .ok (.invokevirtual 151, 3) := by decide +kernel
theorem dX7_rank_14 : decode cX7_rank 14 = .ok (.aload_n 0, 1) := by decide +kernel
theorem dX7_rank_15 : decode cX7_rank 15 = .ok (.getfield 49, 3) := by decide +kernel
theorem dX7_rank_18 : decode cX7_rank 18 = .ok (.iload_n 1, 1) := by decide +kernel
theorem dX7_rank_19 : decode cX7_rank 19 = .ok (.iaload, 1) := by decide +kernel
theorem dX7_rank_20 : decode cX7_rank 20 = .ok (.ifCond .ne 11, 3) := by decide +kernel
theorem dX7_rank_23 : decode cX7_rank 23 = .ok (.aload_n 0, 1) := by decide +kernel
theorem dX7_rank_24 : decode cX7_rank 24 = .ok (.iload_n 1, 1) := by decide +kernel
theorem dX7_rank_25 : decode cX7_rank 25 = .ok (.invokevirtual 145, 3) := by decide +kernel
theorem dX7_rank_28 : decode cX7_rank 28 = .ok (.ifCond .ne 6, 3) := by decide +kernel
theorem dX7_rank_31 : decode cX7_rank 31 = .ok (.bipush (-3), 2) := by decide +kernel
theorem dX7_rank_33 : decode cX7_rank 33 = .ok (.ireturn, 1) := by decide +kernel
theorem dX7_rank_34 : decode cX7_rank 34 = .ok (.iconst 1, 1) := by decide +kernel
theorem dX7_rank_35 : decode cX7_rank 35 = .ok (.istore_n 2, 1) := by decide +kernel
theorem dX7_rank_36 : decode cX7_rank 36 = .ok (.iconst 0, 1) := by decide +kernel
theorem dX7_rank_37 : decode cX7_rank 37 = .ok (.istore_n 3, 1) := by decide +kernel
theorem dX7_rank_38 : decode cX7_rank 38 = .ok (.iload_n 3, 1) := by decide +kernel
theorem dX7_rank_39 : decode cX7_rank 39 = .ok (.aload_n 0, 1) := by decide +kernel
theorem dX7_rank_40 : decode cX7_rank 40 = .ok (.getfield 139, 3) := by decide +kernel
theorem dX7_rank_43 : decode cX7_rank 43 = .ok (.if_icmp .ge 32, 3) := by decide +kernel
theorem dX7_rank_46 : decode cX7_rank 46 = .ok (.iload_n 2, 1) := by decide +kernel
theorem dX7_rank_47 : decode cX7_rank 47 = .ok (.aload_n 0, 1) := by decide +kernel
theorem dX7_rank_48 : decode cX7_rank 48 = .ok (.getfield 58, 3) := by decide +kernel
theorem dX7_rank_51 : decode cX7_rank 51 = .ok (.iload_n 3, 1) := by decide +kernel
theorem dX7_rank_52 : decode cX7_rank 52 = .ok (.iaload, 1) := by decide +kernel
theorem dX7_rank_53 : decode cX7_rank 53 = .ok (.aload_n 0, 1) := by decide +kernel
theorem dX7_rank_54 : decode cX7_rank 54 = .ok (.getfield 52, 3) := by decide +kernel
theorem dX7_rank_57 : decode cX7_rank 57 = .ok (.iload_n 1, 1) := by decide +kernel
theorem dX7_rank_58 : decode cX7_rank 58 = .ok (.iaload, 1) := by decide +kernel
theorem dX7_rank_59 : decode cX7_rank 59 = .ok (.if_icmp .le 7, 3) := by decide +kernel
theorem dX7_rank_62 : decode cX7_rank 62 = .ok (.iconst 1, 1) := by decide +kernel
theorem dX7_rank_63 : decode cX7_rank 63 = .ok (.goto 4, 3) := by decide +kernel
theorem dX7_rank_66 : decode cX7_rank 66 = .ok (.iconst 0, 1) := by decide +kernel
theorem dX7_rank_67 : decode cX7_rank 67 = .ok (.iadd, 1) := by decide +kernel
theorem dX7_rank_68 : decode cX7_rank 68 = .ok (.istore_n 2, 1) := by decide +kernel
theorem dX7_rank_69 : decode cX7_rank 69 = .ok (.iinc 3 1, 3) := by decide +kernel
theorem dX7_rank_72 : decode cX7_rank 72 = .ok (.goto (-34), 3) := by decide +kernel
theorem dX7_rank_75 : decode cX7_rank 75 = .ok (.iload_n 2, 1) := by decide +kernel
theorem dX7_rank_76 : decode cX7_rank 76 = .ok (.ireturn, 1) := by decide +kernel
set_option maxRecDepth 20000 in
theorem ggX7_isSixteenths_X7_in : GoodIn wsX7_isSixteenths wsX7_in := goodIn_r _ [5] (by decide +kernel) (by decide +kernel)
set_option maxRecDepth 20000 in
theorem gX7_isSixteenths_X7_in : GoodIn wsX7_isSixteenths (va_wsS RX7 76 yX7_in wsX7_in) := goodIn_app (goodIn_of _ (by decide +kernel)) ggX7_isSixteenths_X7_in
theorem dX7_isSixteenths_0 : decode cX7_isSixteenths 0 = .ok (.iload_n 0, 1) := by decide +kernel
theorem dX7_isSixteenths_1 : decode cX7_isSixteenths 1 = .ok (.i2l, 1) := by decide +kernel
theorem dX7_isSixteenths_2 : decode cX7_isSixteenths 2 = .ok (.lconst 0, 1) := by decide +kernel
theorem dX7_isSixteenths_3 : decode cX7_isSixteenths 3 = .ok (.ldc2_w 187, 3) := by decide +kernel
theorem dX7_isSixteenths_6 : decode cX7_isSixteenths 6 = .ok (.invokestatic 76, 3) := by decide +kernel
theorem dX7_isSixteenths_9 : decode cX7_isSixteenths 9 = .ok (.ireturn, 1) := by decide +kernel
set_option maxRecDepth 20000 in
theorem ggX7_goOver_X7_choices : GoodIn wsX7_goOver wsX7_choices := goodIn_r _ [4] (by decide +kernel) (by decide +kernel)
set_option maxRecDepth 20000 in
theorem gX7_goOver_X7_choices : GoodIn wsX7_goOver (va_wsS RX7 189 yX7_choices wsX7_choices) := goodIn_app (goodIn_of _ (by decide +kernel)) ggX7_goOver_X7_choices
set_option maxRecDepth 20000 in
theorem ggX7_goOver_X7_power : GoodIn wsX7_goOver wsX7_power := goodIn_r _ [7] (by decide +kernel) (by decide +kernel)
set_option maxRecDepth 20000 in
theorem gX7_goOver_X7_power : GoodIn wsX7_goOver (va_wsS RX7 193 yX7_power wsX7_power) := goodIn_app (goodIn_of _ (by decide +kernel)) ggX7_goOver_X7_power
theorem dX7_goOver_0 : decode cX7_goOver 0 = .ok (.lconst 0, 1) := by decide +kernel
theorem dX7_goOver_1 : decode cX7_goOver 1 = .ok (.lstore 4, 2) := by decide +kernel
theorem dX7_goOver_3 : decode cX7_goOver 3 = .ok (.iload_n 2, 1) := by decide +kernel
theorem dX7_goOver_4 : decode cX7_goOver 4 = .ok (.istore 6, 2) := by decide +kernel
theorem dX7_goOver_6 : decode cX7_goOver 6 = .ok (.iload 6, 2) := by decide +kernel
theorem dX7_goOver_8 : decode cX7_goOver 8 = .ok (.iload_n 3, 1) := by decide +kernel
theorem dX7_goOver_9 : decode cX7_goOver 9 = .ok (.if_icmp .gt 45, 3) := by decide +kernel
theorem dX7_goOver_12 : decode cX7_goOver 12 = .ok (.iload 6, 2) := by decide +kernel
theorem dX7_goOver_14 : decode cX7_goOver 14 = .ok (.iload_n 0, 1) := by decide +kernel
theorem dX7_goOver_15 : decode cX7_goOver 15 = .ok (.if_icmp .gt 39, 3) := by decide +kernel
theorem dX7_goOver_18 : decode cX7_goOver 18 = .ok (.lload 4, 2) := by decide +kernel
theorem dX7_goOver_20 : decode cX7_goOver 20 = .ok (.iload_n 0, 1) := by decide +kernel
theorem dX7_goOver_21 : decode cX7_goOver 21 = .ok (.iload 6, 2) := by decide +kernel
theorem dX7_goOver_23 : decode cX7_goOver 23 = .ok (.invokestatic 189, 3) := by decide +kernel
theorem dX7_goOver_26 : decode cX7_goOver 26 = .ok (.iload_n 1, 1) := by decide +kernel
theorem dX7_goOver_27 : decode cX7_goOver 27 = .ok (.iload 6, 2) := by decide +kernel
theorem dX7_goOver_29 : decode cX7_goOver 29 = .ok (.invokestatic 193, 3) := by decide +kernel
theorem dX7_goOver_32 : decode cX7_goOver 32 = .ok (.lmul, 1) := by decide +kernel
theorem dX7_goOver_33 : decode cX7_goOver 33 = .ok (.bipush 16, 2) := by decide +kernel
theorem dX7_goOver_35 : decode cX7_goOver 35 = .ok (.iload_n 1, 1) := by decide +kernel
theorem dX7_goOver_36 : decode cX7_goOver 36 = .ok (.isub, 1) := by decide +kernel
theorem dX7_goOver_37 : decode cX7_goOver 37 = .ok (.iload_n 0, 1) := by decide +kernel
theorem dX7_goOver_38 : decode cX7_goOver 38 = .ok (.iload 6, 2) := by decide +kernel
theorem dX7_goOver_40 : decode cX7_goOver 40 = .ok (.isub, 1) := by decide +kernel
theorem dX7_goOver_41 : decode cX7_goOver 41 = .ok (.invokestatic 193, 3) := by decide +kernel
theorem dX7_goOver_44 : decode cX7_goOver 44 = .ok (.lmul, 1) := by decide +kernel
theorem dX7_goOver_45 : decode cX7_goOver 45 = .ok (.ladd, 1) := by decide +kernel
theorem dX7_goOver_46 : decode cX7_goOver 46 = .ok (.lstore 4, 2) := by decide +kernel
theorem dX7_goOver_48 : decode cX7_goOver 48 = .ok (.iinc 6 1, 3) := by decide +kernel
theorem dX7_goOver_51 : decode cX7_goOver 51 = .ok (.goto (-45), 3) := by decide +kernel
theorem dX7_goOver_54 : decode cX7_goOver 54 = .ok (.lload 4, 2) := by decide +kernel
theorem dX7_goOver_56 : decode cX7_goOver 56 = .ok (.lreturn, 1) := by decide +kernel
set_option maxRecDepth 20000 in
theorem ggX7_again_X7_in : GoodIn wsX7_again wsX7_in := goodIn_r _ [5] (by decide +kernel) (by decide +kernel)
set_option maxRecDepth 20000 in
theorem gX7_again_X7_in : GoodIn wsX7_again (va_wsS RX7 76 yX7_in wsX7_in) := goodIn_app (goodIn_of _ (by decide +kernel)) ggX7_again_X7_in
set_option maxRecDepth 20000 in
theorem ggX7_again_X7_isSixteenths : GoodIn wsX7_again wsX7_isSixteenths := goodIn_r _ [8, 9, 2, 3, 4, 5] (by decide +kernel) (by decide +kernel)
set_option maxRecDepth 20000 in
theorem gX7_again_X7_isSixteenths : GoodIn wsX7_again (va_wsS RX7 198 yX7_isSixteenths wsX7_isSixteenths) := goodIn_app (goodIn_of _ (by decide +kernel)) ggX7_again_X7_isSixteenths
set_option maxRecDepth 20000 in
theorem ggX7_again_X7_isTwo : GoodIn wsX7_again wsX7_isTwo := goodIn_r _ [12, 2, 3, 4, 5] (by decide +kernel) (by decide +kernel)
set_option maxRecDepth 20000 in
theorem gX7_again_X7_isTwo : GoodIn wsX7_again (va_wsS RX7 148 yX7_isTwo wsX7_isTwo) := goodIn_app (goodIn_of _ (by decide +kernel)) ggX7_again_X7_isTwo
set_option maxRecDepth 20000 in
theorem ggX7_again_X7_no : GoodIn wsX7_again wsX7_no := goodIn_r _ [15, 16] (by decide +kernel) (by decide +kernel)
set_option maxRecDepth 20000 in
theorem gX7_again_X7_no : GoodIn wsX7_again (va_wsS RX7 171 yX7_no wsX7_no) := goodIn_app (goodIn_of _ (by decide +kernel)) ggX7_again_X7_no
set_option maxRecDepth 20000 in
theorem ggX7_again_X7_goOver : GoodIn wsX7_again wsX7_goOver := goodIn_r _ [19, 20, 21, 4, 22, 23, 24, 25] (by decide +kernel) (by decide +kernel)
set_option maxRecDepth 20000 in
theorem gX7_again_X7_goOver : GoodIn wsX7_again (va_wsS RX7 201 yX7_goOver wsX7_goOver) := goodIn_app (goodIn_of _ (by decide +kernel)) ggX7_again_X7_goOver
set_option maxRecDepth 20000 in
theorem ggX7_again_X7_power : GoodIn wsX7_again wsX7_power := goodIn_r _ [25] (by decide +kernel) (by decide +kernel)
set_option maxRecDepth 20000 in
theorem gX7_again_X7_power : GoodIn wsX7_again (va_wsS RX7 193 yX7_power wsX7_power) := goodIn_app (goodIn_of _ (by decide +kernel)) ggX7_again_X7_power
set_option maxRecDepth 20000 in
theorem ggX7_again_X7_part : GoodIn wsX7_again wsX7_part := goodIn_r _ [28, 29, 30, 4, 31] (by decide +kernel) (by decide +kernel)
set_option maxRecDepth 20000 in
theorem gX7_again_X7_part : GoodIn wsX7_again (va_wsS RX7 167 yX7_part wsX7_part) := goodIn_app (goodIn_of _ (by decide +kernel)) ggX7_again_X7_part
theorem dX7_again_0 : decode cX7_again 0 = .ok (.iload_n 1, 1) := by decide +kernel
theorem dX7_again_1 : decode cX7_again 1 = .ok (.i2l, 1) := by decide +kernel
theorem dX7_again_2 : decode cX7_again 2 = .ok (.lconst 1, 1) := by decide +kernel
theorem dX7_again_3 : decode cX7_again 3 = .ok (.ldc2_w 196, 3) := by decide +kernel
theorem dX7_again_6 : decode cX7_again 6 = .ok (.invokestatic 76, 3) := by decide +kernel
theorem dX7_again_9 : decode cX7_again 9 = .ok (.ifCond .eq 30, 3) := by decide +kernel
theorem dX7_again_12 : decode cX7_again 12 = .ok (.iload_n 2, 1) := by decide +kernel
theorem dX7_again_13 : decode cX7_again 13 = .ok (.invokestatic 198, 3) := by decide +kernel
theorem dX7_again_16 : decode cX7_again 16 = .ok (.ifCond .eq 23, 3) := by decide +kernel
theorem dX7_again_19 : decode cX7_again 19 = .ok (.iload_n 3, 1) := by decide +kernel
theorem dX7_again_20 : decode cX7_again 20 = .ok (.i2l, 1) := by decide +kernel
theorem dX7_again_21 : decode cX7_again 21 = .ok (.lconst 0, 1) := by decide +kernel
theorem dX7_again_22 : decode cX7_again 22 = .ok (.ldc2_w 196, 3) := by decide +kernel
theorem dX7_again_25 : decode cX7_again 25 = .ok (.invokestatic 76, 3) := by decide +kernel
theorem dX7_again_28 : decode cX7_again 28 = .ok (.ifCond .eq 11, 3) := by decide +kernel
theorem dX7_again_31 : decode cX7_again 31 = .ok (.iload 4, 2) := by decide +kernel
theorem dX7_again_33 : decode cX7_again 33 = .ok (.invokestatic 148, 3) := by decide +kernel
theorem dX7_again_36 : decode cX7_again 36 = .ok (.ifCond .ne 9, 3) := by decide +kernel
theorem dX7_again_39 : decode cX7_again 39 = .ok (.bipush (-2), 2) := by decide +kernel
theorem dX7_again_41 : decode cX7_again 41 = .ok (.invokestatic 171, 3) := by decide +kernel
theorem dX7_again_44 : decode cX7_again 44 = .ok (.lreturn, 1) := by decide +kernel
theorem dX7_again_45 : decode cX7_again 45 = .ok (.iload_n 1, 1) := by decide +kernel
theorem dX7_again_46 : decode cX7_again 46 = .ok (.iload_n 2, 1) := by decide +kernel
theorem dX7_again_47 : decode cX7_again 47 = .ok (.iload_n 3, 1) := by decide +kernel
theorem dX7_again_48 : decode cX7_again 48 = .ok (.iload_n 1, 1) := by decide +kernel
theorem dX7_again_49 : decode cX7_again 49 = .ok (.invokestatic 201, 3) := by decide +kernel
theorem dX7_again_52 : decode cX7_again 52 = .ok (.bipush 16, 2) := by decide +kernel
theorem dX7_again_54 : decode cX7_again 54 = .ok (.iload_n 1, 1) := by decide +kernel
theorem dX7_again_55 : decode cX7_again 55 = .ok (.invokestatic 193, 3) := by decide +kernel
theorem dX7_again_58 : decode cX7_again 58 = .ok (.iload 4, 2) := by decide +kernel
theorem dX7_again_60 : decode cX7_again 60 = .ok (.invokestatic 167, 3) := by decide +kernel
theorem dX7_again_63 : decode cX7_again 63 = .ok (.lreturn, 1) := by decide +kernel
set_option maxRecDepth 20000 in
theorem ggX7_lasts_X7_isSixteenths : GoodIn wsX7_lasts wsX7_isSixteenths := goodIn_r _ [6, 2, 7, 8, 5, 9] (by decide +kernel) (by decide +kernel)
set_option maxRecDepth 20000 in
theorem gX7_lasts_X7_isSixteenths : GoodIn wsX7_lasts (va_wsS RX7 198 yX7_isSixteenths wsX7_isSixteenths) := goodIn_app (goodIn_of _ (by decide +kernel)) ggX7_lasts_X7_isSixteenths
set_option maxRecDepth 20000 in
theorem ggX7_lasts_X7_in : GoodIn wsX7_lasts wsX7_in := goodIn_r _ [9] (by decide +kernel) (by decide +kernel)
set_option maxRecDepth 20000 in
theorem gX7_lasts_X7_in : GoodIn wsX7_lasts (va_wsS RX7 76 yX7_in wsX7_in) := goodIn_app (goodIn_of _ (by decide +kernel)) ggX7_lasts_X7_in
set_option maxRecDepth 20000 in
theorem ggX7_lasts_X7_power : GoodIn wsX7_lasts wsX7_power := goodIn_r _ [12] (by decide +kernel) (by decide +kernel)
set_option maxRecDepth 20000 in
theorem gX7_lasts_X7_power : GoodIn wsX7_lasts (va_wsS RX7 193 yX7_power wsX7_power) := goodIn_app (goodIn_of _ (by decide +kernel)) ggX7_lasts_X7_power
theorem dX7_lasts_0 : decode cX7_lasts 0 = .ok (.iload_n 1, 1) := by decide +kernel
theorem dX7_lasts_1 : decode cX7_lasts 1 = .ok (.invokestatic 198, 3) := by decide +kernel
theorem dX7_lasts_4 : decode cX7_lasts 4 = .ok (.ifCond .eq 15, 3) := by decide +kernel
theorem dX7_lasts_7 : decode cX7_lasts 7 = .ok (.iload_n 2, 1) := by decide +kernel
theorem dX7_lasts_8 : decode cX7_lasts 8 = .ok (.i2l, 1) := by decide +kernel
theorem dX7_lasts_9 : decode cX7_lasts 9 = .ok (.lconst 0, 1) := by decide +kernel
theorem dX7_lasts_10 : decode cX7_lasts 10 = .ok (.ldc2_w 205, 3) := by decide +kernel
theorem dX7_lasts_13 : decode cX7_lasts 13 = .ok (.invokestatic 76, 3) := by decide +kernel
theorem dX7_lasts_16 : decode cX7_lasts 16 = .ok (.ifCond .ne 6, 3) := by decide +kernel
theorem dX7_lasts_19 : decode cX7_lasts 19 = .ok (.bipush (-2), 2) := by decide +kernel
theorem dX7_lasts_21 : decode cX7_lasts 21 = .ok (.ireturn, 1) := by decide +kernel
theorem dX7_lasts_22 : decode cX7_lasts 22 = .ok (.iconst 0, 1) := by decide +kernel
theorem dX7_lasts_23 : decode cX7_lasts 23 = .ok (.istore_n 3, 1) := by decide +kernel
theorem dX7_lasts_24 : decode cX7_lasts 24 = .ok (.iconst 1, 1) := by decide +kernel
theorem dX7_lasts_25 : decode cX7_lasts 25 = .ok (.istore 4, 2) := by decide +kernel
theorem dX7_lasts_27 : decode cX7_lasts 27 = .ok (.iload 4, 2) := by decide +kernel
theorem dX7_lasts_29 : decode cX7_lasts 29 = .ok (.ifCond .eq 104, 3) := by decide +kernel
theorem dX7_lasts_32 : decode cX7_lasts 32 = .ok (.iload_n 3, 1) := by decide +kernel
theorem dX7_lasts_33 : decode cX7_lasts 33 = .ok (.bipush 15, 2) := by decide +kernel
theorem dX7_lasts_35 : decode cX7_lasts 35 = .ok (.if_icmp .ge 98, 3) := by decide +kernel
theorem dX7_lasts_38 : decode cX7_lasts 38 = .ok (.iload_n 3, 1) := by decide +kernel
theorem dX7_lasts_39 : decode cX7_lasts 39 = .ok (.iconst 1, 1) := by decide +kernel
theorem dX7_lasts_40 : decode cX7_lasts 40 = .ok (.iadd, 1) := by decide +kernel
theorem dX7_lasts_41 : decode cX7_lasts 41 = .ok (.istore 5, 2) := by decide +kernel
theorem dX7_lasts_43 : decode cX7_lasts 43 = .ok (.bipush 16, 2) := by decide +kernel
theorem dX7_lasts_45 : decode cX7_lasts 45 = .ok (.iload 5, 2) := by decide +kernel
theorem dX7_lasts_47 : decode cX7_lasts 47 = .ok (.invokestatic 193, 3) := by decide +kernel
theorem dX7_lasts_50 : decode cX7_lasts 50 = .ok (.bipush 16, 2) := by decide +kernel
theorem dX7_lasts_52 : decode cX7_lasts 52 = .ok (.iload_n 1, 1) := by decide +kernel
theorem dX7_lasts_53 : decode cX7_lasts 53 = .ok (.isub, 1) := by decide +kernel
theorem dX7_lasts_54 : decode cX7_lasts 54 = .ok (.iload 5, 2) := by decide +kernel
theorem dX7_lasts_56 : decode cX7_lasts 56 = .ok (.invokestatic 193, 3) := by decide +kernel
theorem dX7_lasts_59 : decode cX7_lasts 59 = .ok (.lsub, 1) := by decide +kernel
theorem dX7_lasts_60 : decode cX7_lasts 60 = .ok (.lstore 6, 2) := by decide +kernel
theorem dX7_lasts_62 : decode cX7_lasts 62 = .ok (.iload 5, 2) := by decide +kernel
theorem dX7_lasts_64 : decode cX7_lasts 64 = .ok (.iconst 2, 1) := by decide +kernel
theorem dX7_lasts_65 : decode cX7_lasts 65 = .ok (.if_icmp .ge 27, 3) := by decide +kernel
theorem dX7_lasts_68 : decode cX7_lasts 68 = .ok (.lload 6, 2) := by decide +kernel
theorem dX7_lasts_70 : decode cX7_lasts 70 = .ok (.ldc2_w 205, 3) := by decide +kernel
theorem dX7_lasts_73 : decode cX7_lasts 73 = .ok (.lmul, 1) := by decide +kernel
theorem dX7_lasts_74 : decode cX7_lasts 74 = .ok (.iload_n 2, 1) := by decide +kernel
theorem dX7_lasts_75 : decode cX7_lasts 75 = .ok (.i2l, 1) := by decide +kernel
theorem dX7_lasts_76 : decode cX7_lasts 76 = .ok (.ldc2_w 187, 3) := by decide +kernel
theorem dX7_lasts_79 : decode cX7_lasts 79 = .ok (.lmul, 1) := by decide +kernel
theorem dX7_lasts_80 : decode cX7_lasts 80 = .ok (.lcmp, 1) := by decide +kernel
theorem dX7_lasts_81 : decode cX7_lasts 81 = .ok (.ifCond .gt 7, 3) := by decide +kernel
theorem dX7_lasts_84 : decode cX7_lasts 84 = .ok (.iconst 1, 1) := by decide +kernel
theorem dX7_lasts_85 : decode cX7_lasts 85 = .ok (.goto 30, 3) := by decide +kernel
theorem dX7_lasts_88 : decode cX7_lasts 88 = .ok (.iconst 0, 1) := by decide +kernel
theorem dX7_lasts_89 : decode cX7_lasts 89 = .ok (.goto 26, 3) := by decide +kernel
theorem dX7_lasts_92 : decode cX7_lasts 92 = .ok (.lload 6, 2) := by decide +kernel
theorem dX7_lasts_94 : decode cX7_lasts 94 = .ok (.iload_n 2, 1) := by decide +kernel
theorem dX7_lasts_95 : decode cX7_lasts 95 = .ok (.i2l, 1) := by decide +kernel
theorem dX7_lasts_96 : decode cX7_lasts 96 = .ok (.bipush 16, 2) := by decide +kernel
theorem dX7_lasts_98 : decode cX7_lasts 98 = .ok (.iload 5, 2) := by decide +kernel
theorem dX7_lasts_100 : decode cX7_lasts 100 = .ok (.iconst 2, 1) := by decide +kernel
theorem dX7_lasts_101 : decode cX7_lasts 101 = .ok (.isub, 1) := by decide +kernel
theorem dX7_lasts_102 : decode cX7_lasts 102 = .ok (.invokestatic 193, 3) := by decide +kernel
theorem dX7_lasts_105 : decode cX7_lasts 105 = .ok (.lmul, 1) := by decide +kernel
theorem dX7_lasts_106 : decode cX7_lasts 106 = .ok (.lcmp, 1) := by decide +kernel
theorem dX7_lasts_107 : decode cX7_lasts 107 = .ok (.ifCond .gt 7, 3) := by decide +kernel
theorem dX7_lasts_110 : decode cX7_lasts 110 = .ok (.iconst 1, 1) := by decide +kernel
theorem dX7_lasts_111 : decode cX7_lasts 111 = .ok (.goto 4, 3) := by decide +kernel
theorem dX7_lasts_114 : decode cX7_lasts 114 = .ok (.iconst 0, 1) := by decide +kernel
theorem dX7_lasts_115 : decode cX7_lasts 115 = .ok (.istore 4, 2) := by decide +kernel
theorem dX7_lasts_117 : decode cX7_lasts 117 = .ok (.iload_n 3, 1) := by decide +kernel
theorem dX7_lasts_118 : decode cX7_lasts 118 = .ok (.iload 4, 2) := by decide +kernel
theorem dX7_lasts_120 : decode cX7_lasts 120 = .ok (.ifCond .eq 7, 3) := by decide +kernel
theorem dX7_lasts_123 : decode cX7_lasts 123 = .ok (.iconst 1, 1) := by decide +kernel
theorem dX7_lasts_124 : decode cX7_lasts 124 = .ok (.goto 4, 3) := by decide +kernel
theorem dX7_lasts_127 : decode cX7_lasts 127 = .ok (.iconst 0, 1) := by decide +kernel
theorem dX7_lasts_128 : decode cX7_lasts 128 = .ok (.iadd, 1) := by decide +kernel
theorem dX7_lasts_129 : decode cX7_lasts 129 = .ok (.istore_n 3, 1) := by decide +kernel
theorem dX7_lasts_130 : decode cX7_lasts 130 = .ok (.goto (-103), 3) := by decide +kernel
theorem dX7_lasts_133 : decode cX7_lasts 133 = .ok (.iload_n 3, 1) := by decide +kernel
theorem dX7_lasts_134 : decode cX7_lasts 134 = .ok (.ireturn, 1) := by decide +kernel
set_option maxRecDepth 20000 in
theorem ggX7_next_X7_in : GoodIn wsX7_next wsX7_in := goodIn_r _ [7] (by decide +kernel) (by decide +kernel)
set_option maxRecDepth 20000 in
theorem gX7_next_X7_in : GoodIn wsX7_next (va_wsS RX7 76 yX7_in wsX7_in) := goodIn_app (goodIn_of _ (by decide +kernel)) ggX7_next_X7_in
set_option maxRecDepth 20000 in
theorem ggX7_next_X7_isTwo : GoodIn wsX7_next wsX7_isTwo := goodIn_r _ [10, 4, 5, 6, 7] (by decide +kernel) (by decide +kernel)
set_option maxRecDepth 20000 in
theorem gX7_next_X7_isTwo : GoodIn wsX7_next (va_wsS RX7 148 yX7_isTwo wsX7_isTwo) := goodIn_app (goodIn_of _ (by decide +kernel)) ggX7_next_X7_isTwo
set_option maxRecDepth 20000 in
theorem ggX7_next_X7_no : GoodIn wsX7_next wsX7_no := goodIn_r _ [13, 14] (by decide +kernel) (by decide +kernel)
set_option maxRecDepth 20000 in
theorem gX7_next_X7_no : GoodIn wsX7_next (va_wsS RX7 171 yX7_no wsX7_no) := goodIn_app (goodIn_of _ (by decide +kernel)) ggX7_next_X7_no
set_option maxRecDepth 20000 in
theorem ggX7_next_X7_find : GoodIn wsX7_next wsX7_find := goodIn_r _ [18, 19, 20, 21, 22, 23, 24, 25, 26, 3, 27, 28, 29, 30, 31, 6, 32, 33, 34, 35, 36, 4, 5, 7, 37, 38, 39, 40, 50, 51, 52, 53, 54, 55, 56, 57, 58, 59, 60, 61, 62, 63, 64, 65, 66, 67, 68, 69, 70, 71, 72, 73, 74, 75, 76, 77] (by decide +kernel) (by decide +kernel)
set_option maxRecDepth 20000 in
theorem gX7_next_X7_find : GoodIn wsX7_next (wsV RX7 151 RX7 yX7_find wsX7_find) := goodIn_app (goodIn_of _ (by decide +kernel)) ggX7_next_X7_find
set_option maxRecDepth 20000 in
theorem ggX7_next_X7_choices : GoodIn wsX7_next wsX7_choices := goodIn_r _ [43] (by decide +kernel) (by decide +kernel)
set_option maxRecDepth 20000 in
theorem gX7_next_X7_choices : GoodIn wsX7_next (va_wsS RX7 189 yX7_choices wsX7_choices) := goodIn_app (goodIn_of _ (by decide +kernel)) ggX7_next_X7_choices
set_option maxRecDepth 20000 in
theorem ggX7_next_X7_part : GoodIn wsX7_next wsX7_part := goodIn_r _ [46, 47, 48, 6, 49] (by decide +kernel) (by decide +kernel)
set_option maxRecDepth 20000 in
theorem gX7_next_X7_part : GoodIn wsX7_next (va_wsS RX7 167 yX7_part wsX7_part) := goodIn_app (goodIn_of _ (by decide +kernel)) ggX7_next_X7_part
theorem dX7_next_0 : decode cX7_next 0 = .ok (.iload_n 1, 1) := by decide +kernel
theorem dX7_next_1 : decode cX7_next 1 = .ok (.i2l, 1) := by decide +kernel
theorem dX7_next_2 : decode cX7_next 2 = .ok (.lconst 1, 1) := by decide +kernel
theorem dX7_next_3 : decode cX7_next 3 = .ok (.ldc2_w 207, 3) := by decide +kernel
theorem dX7_next_6 : decode cX7_next 6 = .ok (.invokestatic 76, 3) := by decide +kernel
theorem dX7_next_9 : decode cX7_next 9 = .ok (.ifCond .eq 34, 3) := by decide +kernel
theorem dX7_next_12 : decode cX7_next 12 = .ok (.iload_n 2, 1) := by decide +kernel
theorem dX7_next_13 : decode cX7_next 13 = .ok (.i2l, 1) := by decide +kernel
theorem dX7_next_14 : decode cX7_next 14 = .ok (.lconst 1, 1) := by decide +kernel
theorem dX7_next_15 : decode cX7_next 15 = .ok (.ldc2_w 209, 3) := by decide +kernel
theorem dX7_next_18 : decode cX7_next 18 = .ok (.invokestatic 76, 3) := by decide +kernel
theorem dX7_next_21 : decode cX7_next 21 = .ok (.ifCond .eq 22, 3) := by decide +kernel
theorem dX7_next_24 : decode cX7_next 24 = .ok (.iload_n 3, 1) := by decide +kernel
theorem dX7_next_25 : decode cX7_next 25 = .ok (.i2l, 1) := by decide +kernel
theorem dX7_next_26 : decode cX7_next 26 = .ok (.lconst 0, 1) := by decide +kernel
theorem dX7_next_27 : decode cX7_next 27 = .ok (.iload_n 1, 1) := by decide +kernel
theorem dX7_next_28 : decode cX7_next 28 = .ok (.i2l, 1) := by decide +kernel
theorem dX7_next_29 : decode cX7_next 29 = .ok (.invokestatic 76, 3) := by decide +kernel
theorem dX7_next_32 : decode cX7_next 32 = .ok (.ifCond .eq 11, 3) := by decide +kernel
theorem dX7_next_35 : decode cX7_next 35 = .ok (.iload 4, 2) := by decide +kernel
theorem dX7_next_37 : decode cX7_next 37 = .ok (.invokestatic 148, 3) := by decide +kernel
theorem dX7_next_40 : decode cX7_next 40 = .ok (.ifCond .ne 9, 3) := by decide +kernel
theorem dX7_next_43 : decode cX7_next 43 = .ok (.bipush (-2), 2) := by decide +kernel
theorem dX7_next_45 : decode cX7_next 45 = .ok (.invokestatic 171, 3) := by decide +kernel
theorem dX7_next_48 : decode cX7_next 48 = .ok (.lreturn, 1) := by decide +kernel
theorem dX7_next_49 : decode cX7_next 49 = .ok (.aload_n 0, 1) := by decide +kernel
theorem dX7_next_50 : decode cX7_next 50 = .ok (.invokevirtual 151, 3) := by decide +kernel
theorem dX7_next_53 : decode cX7_next 53 = .ok (.aload_n 0, 1) := by decide +kernel
theorem dX7_next_54 : decode cX7_next 54 = .ok (.getfield 139, 3) := by decide +kernel
theorem dX7_next_57 : decode cX7_next 57 = .ok (.iload_n 2, 1) := by decide +kernel
theorem dX7_next_58 : decode cX7_next 58 = .ok (.if_icmp .ge 9, 3) := by decide +kernel
theorem dX7_next_61 : decode cX7_next 61 = .ok (.bipush (-3), 2) := by decide +kernel
theorem dX7_next_63 : decode cX7_next 63 = .ok (.invokestatic 171, 3) := by decide +kernel
theorem dX7_next_66 : decode cX7_next 66 = .ok (.lreturn, 1) := by decide +kernel
theorem dX7_next_67 : decode cX7_next 67 = .ok (.aload_n 0, 1) := by decide +kernel
theorem dX7_next_68 : decode cX7_next 68 = .ok (.getfield 139, 3) := by decide +kernel
theorem dX7_next_71 : decode cX7_next 71 = .ok (.bipush 20, 2) := by decide +kernel
theorem dX7_next_73 : decode cX7_next 73 = .ok (.if_icmp .le 9, 3) := by decide +kernel
theorem dX7_next_76 : decode cX7_next 76 = .ok (.bipush (-4), 2) := by decide +kernel
theorem dX7_next_78 : decode cX7_next 78 = .ok (.invokestatic 171, 3) := by decide +kernel
theorem dX7_next_81 : decode cX7_next 81 = .ok (.lreturn, 1) := by decide +kernel
theorem dX7_next_82 : decode cX7_next 82 = .ok (.iload_n 2, 1) := by decide +kernel
theorem dX7_next_83 : decode cX7_next 83 = .ok (.iconst 1, 1) := by decide +kernel
theorem dX7_next_84 : decode cX7_next 84 = .ok (.isub, 1) := by decide +kernel
theorem dX7_next_85 : decode cX7_next 85 = .ok (.iload_n 3, 1) := by decide +kernel
theorem dX7_next_86 : decode cX7_next 86 = .ok (.iadd, 1) := by decide +kernel
theorem dX7_next_87 : decode cX7_next 87 = .ok (.iload_n 3, 1) := by decide +kernel
theorem dX7_next_88 : decode cX7_next 88 = .ok (.invokestatic 189, 3) := by decide +kernel
theorem dX7_next_91 : decode cX7_next 91 = .ok (.aload_n 0, 1) := by decide +kernel
theorem dX7_next_92 : decode cX7_next 92 = .ok (.getfield 139, 3) := by decide +kernel
theorem dX7_next_95 : decode cX7_next 95 = .ok (.iload_n 2, 1) := by decide +kernel
theorem dX7_next_96 : decode cX7_next 96 = .ok (.isub, 1) := by decide +kernel
theorem dX7_next_97 : decode cX7_next 97 = .ok (.iload_n 1, 1) := by decide +kernel
theorem dX7_next_98 : decode cX7_next 98 = .ok (.iadd, 1) := by decide +kernel
theorem dX7_next_99 : decode cX7_next 99 = .ok (.iload_n 3, 1) := by decide +kernel
theorem dX7_next_100 : decode cX7_next 100 = .ok (.isub, 1) := by decide +kernel
theorem dX7_next_101 : decode cX7_next 101 = .ok (.iload_n 1, 1) := by decide +kernel
theorem dX7_next_102 : decode cX7_next 102 = .ok (.iload_n 3, 1) := by decide +kernel
theorem dX7_next_103 : decode cX7_next 103 = .ok (.isub, 1) := by decide +kernel
theorem dX7_next_104 : decode cX7_next 104 = .ok (.invokestatic 189, 3) := by decide +kernel
theorem dX7_next_107 : decode cX7_next 107 = .ok (.lmul, 1) := by decide +kernel
theorem dX7_next_108 : decode cX7_next 108 = .ok (.lstore 5, 2) := by decide +kernel
theorem dX7_next_110 : decode cX7_next 110 = .ok (.lload 5, 2) := by decide +kernel
theorem dX7_next_112 : decode cX7_next 112 = .ok (.aload_n 0, 1) := by decide +kernel
theorem dX7_next_113 : decode cX7_next 113 = .ok (.getfield 139, 3) := by decide +kernel
theorem dX7_next_116 : decode cX7_next 116 = .ok (.iload_n 1, 1) := by decide +kernel
theorem dX7_next_117 : decode cX7_next 117 = .ok (.iadd, 1) := by decide +kernel
theorem dX7_next_118 : decode cX7_next 118 = .ok (.iload_n 1, 1) := by decide +kernel
theorem dX7_next_119 : decode cX7_next 119 = .ok (.invokestatic 189, 3) := by decide +kernel
theorem dX7_next_122 : decode cX7_next 122 = .ok (.iload 4, 2) := by decide +kernel
theorem dX7_next_124 : decode cX7_next 124 = .ok (.invokestatic 167, 3) := by decide +kernel
theorem dX7_next_127 : decode cX7_next 127 = .ok (.lreturn, 1) := by decide +kernel
set_option maxRecDepth 20000 in
theorem ggX7_between_X7_isSixteenths : GoodIn wsX7_between wsX7_isSixteenths := goodIn_r _ [5, 6, 7, 8, 4, 9] (by decide +kernel) (by decide +kernel)
set_option maxRecDepth 20000 in
theorem gX7_between_X7_isSixteenths : GoodIn wsX7_between (va_wsS RX7 198 yX7_isSixteenths wsX7_isSixteenths) := goodIn_app (goodIn_of _ (by decide +kernel)) ggX7_between_X7_isSixteenths
set_option maxRecDepth 20000 in
theorem ggX7_between_X7_isTwo : GoodIn wsX7_between wsX7_isTwo := goodIn_r _ [12, 7, 8, 4, 9] (by decide +kernel) (by decide +kernel)
set_option maxRecDepth 20000 in
theorem gX7_between_X7_isTwo : GoodIn wsX7_between (va_wsS RX7 148 yX7_isTwo wsX7_isTwo) := goodIn_app (goodIn_of _ (by decide +kernel)) ggX7_between_X7_isTwo
set_option maxRecDepth 20000 in
theorem ggX7_between_X7_no : GoodIn wsX7_between wsX7_no := goodIn_r _ [15, 16] (by decide +kernel) (by decide +kernel)
set_option maxRecDepth 20000 in
theorem gX7_between_X7_no : GoodIn wsX7_between (va_wsS RX7 171 yX7_no wsX7_no) := goodIn_app (goodIn_of _ (by decide +kernel)) ggX7_between_X7_no
set_option maxRecDepth 20000 in
theorem ggX7_between_X7_find : GoodIn wsX7_between wsX7_find := goodIn_r _ [20, 21, 22, 23, 24, 25, 26, 27, 28, 1, 29, 30, 31, 32, 33, 4, 34, 35, 36, 37, 38, 7, 8, 9, 39, 40, 41, 42, 58, 59, 60, 61, 62, 63, 64, 65, 66, 67, 68, 69, 70, 71, 72, 73, 74, 75, 76, 77, 78, 79, 80, 81, 82, 83, 84, 85] (by decide +kernel) (by decide +kernel)
set_option maxRecDepth 20000 in
theorem gX7_between_X7_find : GoodIn wsX7_between (wsV RX7 151 RX7 yX7_find wsX7_find) := goodIn_app (goodIn_of _ (by decide +kernel)) ggX7_between_X7_find
set_option maxRecDepth 20000 in
theorem ggX7_between_X7_goOver : GoodIn wsX7_between wsX7_goOver := goodIn_r _ [45, 46, 47, 4, 48, 49, 50, 51] (by decide +kernel) (by decide +kernel)
set_option maxRecDepth 20000 in
theorem gX7_between_X7_goOver : GoodIn wsX7_between (va_wsS RX7 201 yX7_goOver wsX7_goOver) := goodIn_app (goodIn_of _ (by decide +kernel)) ggX7_between_X7_goOver
set_option maxRecDepth 20000 in
theorem ggX7_between_X7_power : GoodIn wsX7_between wsX7_power := goodIn_r _ [51] (by decide +kernel) (by decide +kernel)
set_option maxRecDepth 20000 in
theorem gX7_between_X7_power : GoodIn wsX7_between (va_wsS RX7 193 yX7_power wsX7_power) := goodIn_app (goodIn_of _ (by decide +kernel)) ggX7_between_X7_power
set_option maxRecDepth 20000 in
theorem ggX7_between_X7_part : GoodIn wsX7_between wsX7_part := goodIn_r _ [54, 55, 56, 4, 57] (by decide +kernel) (by decide +kernel)
set_option maxRecDepth 20000 in
theorem gX7_between_X7_part : GoodIn wsX7_between (va_wsS RX7 167 yX7_part wsX7_part) := goodIn_app (goodIn_of _ (by decide +kernel)) ggX7_between_X7_part
theorem dX7_between_0 : decode cX7_between 0 = .ok (.iload_n 1, 1) := by decide +kernel
theorem dX7_between_1 : decode cX7_between 1 = .ok (.invokestatic 198, 3) := by decide +kernel
theorem dX7_between_4 : decode cX7_between 4 = .ok (.ifCond .eq 27, 3) := by decide +kernel
theorem dX7_between_7 : decode cX7_between 7 = .ok (.iload_n 2, 1) := by decide +kernel
theorem dX7_between_8 : decode cX7_between 8 = .ok (.iconst 1, 1) := by decide +kernel
theorem dX7_between_9 : decode cX7_between 9 = .ok (.if_icmp .lt 22, 3) := by decide +kernel
theorem dX7_between_12 : decode cX7_between 12 = .ok (.iload_n 3, 1) := by decide +kernel
theorem dX7_between_13 : decode cX7_between 13 = .ok (.iload_n 2, 1) := by decide +kernel
theorem dX7_between_14 : decode cX7_between 14 = .ok (.if_icmp .le 17, 3) := by decide +kernel
theorem dX7_between_17 : decode cX7_between 17 = .ok (.iload_n 3, 1) := by decide +kernel
theorem dX7_between_18 : decode cX7_between 18 = .ok (.bipush 60, 2) := by decide +kernel
theorem dX7_between_20 : decode cX7_between 20 = .ok (.if_icmp .gt 11, 3) := by decide +kernel
theorem dX7_between_23 : decode cX7_between 23 = .ok (.iload 4, 2) := by decide +kernel
theorem dX7_between_25 : decode cX7_between 25 = .ok (.invokestatic 148, 3) := by decide +kernel
theorem dX7_between_28 : decode cX7_between 28 = .ok (.ifCond .ne 9, 3) := by decide +kernel
theorem dX7_between_31 : decode cX7_between 31 = .ok (.bipush (-2), 2) := by decide +kernel
theorem dX7_between_33 : decode cX7_between 33 = .ok (.invokestatic 171, 3) := by decide +kernel
theorem dX7_between_36 : decode cX7_between 36 = .ok (.lreturn, 1) := by decide +kernel
theorem dX7_between_37 : decode cX7_between 37 = .ok (.aload_n 0, 1) := by decide +kernel
theorem dX7_between_38 : decode cX7_between 38 = .ok (.invokevirtual 151, 3) := by decide +kernel
theorem dX7_between_41 : decode cX7_between 41 = .ok (.aload_n 0, 1) := by decide +kernel
theorem dX7_between_42 : decode cX7_between 42 = .ok (.getfield 139, 3) := by decide +kernel
theorem dX7_between_45 : decode cX7_between 45 = .ok (.iload_n 3, 1) := by decide +kernel
theorem dX7_between_46 : decode cX7_between 46 = .ok (.if_icmp .ge 9, 3) := by decide +kernel
theorem dX7_between_49 : decode cX7_between 49 = .ok (.bipush (-3), 2) := by decide +kernel
theorem dX7_between_51 : decode cX7_between 51 = .ok (.invokestatic 171, 3) := by decide +kernel
theorem dX7_between_54 : decode cX7_between 54 = .ok (.lreturn, 1) := by decide +kernel
theorem dX7_between_55 : decode cX7_between 55 = .ok (.aload_n 0, 1) := by decide +kernel
theorem dX7_between_56 : decode cX7_between 56 = .ok (.getfield 139, 3) := by decide +kernel
theorem dX7_between_59 : decode cX7_between 59 = .ok (.bipush 15, 2) := by decide +kernel
theorem dX7_between_61 : decode cX7_between 61 = .ok (.if_icmp .le 9, 3) := by decide +kernel
theorem dX7_between_64 : decode cX7_between 64 = .ok (.bipush (-4), 2) := by decide +kernel
theorem dX7_between_66 : decode cX7_between 66 = .ok (.invokestatic 171, 3) := by decide +kernel
theorem dX7_between_69 : decode cX7_between 69 = .ok (.lreturn, 1) := by decide +kernel
theorem dX7_between_70 : decode cX7_between 70 = .ok (.aload_n 0, 1) := by decide +kernel
theorem dX7_between_71 : decode cX7_between 71 = .ok (.getfield 139, 3) := by decide +kernel
theorem dX7_between_74 : decode cX7_between 74 = .ok (.iload_n 1, 1) := by decide +kernel
theorem dX7_between_75 : decode cX7_between 75 = .ok (.iload_n 2, 1) := by decide +kernel
theorem dX7_between_76 : decode cX7_between 76 = .ok (.iload_n 3, 1) := by decide +kernel
theorem dX7_between_77 : decode cX7_between 77 = .ok (.iconst 1, 1) := by decide +kernel
theorem dX7_between_78 : decode cX7_between 78 = .ok (.isub, 1) := by decide +kernel
theorem dX7_between_79 : decode cX7_between 79 = .ok (.invokestatic 201, 3) := by decide +kernel
theorem dX7_between_82 : decode cX7_between 82 = .ok (.bipush 16, 2) := by decide +kernel
theorem dX7_between_84 : decode cX7_between 84 = .ok (.aload_n 0, 1) := by decide +kernel
theorem dX7_between_85 : decode cX7_between 85 = .ok (.getfield 139, 3) := by decide +kernel
theorem dX7_between_88 : decode cX7_between 88 = .ok (.invokestatic 193, 3) := by decide +kernel
theorem dX7_between_91 : decode cX7_between 91 = .ok (.iload 4, 2) := by decide +kernel
theorem dX7_between_93 : decode cX7_between 93 = .ok (.invokestatic 167, 3) := by decide +kernel
theorem dX7_between_96 : decode cX7_between 96 = .ok (.lreturn, 1) := by decide +kernel
set_option maxRecDepth 20000 in
theorem ggX7_shouldOf_X7_millionths : GoodIn wsX7_shouldOf wsX7_millionths := goodIn_r _ [6, 7] (by decide +kernel) (by decide +kernel)
set_option maxRecDepth 20000 in
theorem gX7_shouldOf_X7_millionths : GoodIn wsX7_shouldOf (va_wsS RX7 211 yX7_millionths wsX7_millionths) := goodIn_app (goodIn_of _ (by decide +kernel)) ggX7_shouldOf_X7_millionths
theorem dX7_shouldOf_0 : decode cX7_shouldOf 0 = .ok (.iconst 0, 1) := by decide +kernel
theorem dX7_shouldOf_1 : decode cX7_shouldOf 1 = .ok (.istore_n 2, 1) := by decide +kernel
theorem dX7_shouldOf_2 : decode cX7_shouldOf 2 = .ok (.iload_n 2, 1) := by decide +kernel
theorem dX7_shouldOf_3 : decode cX7_shouldOf 3 = .ok (.bipush 14, 2) := by decide +kernel
theorem dX7_shouldOf_5 : decode cX7_shouldOf 5 = .ok (.if_icmp .ge 24, 3) := by decide +kernel
theorem dX7_shouldOf_8 : decode cX7_shouldOf 8 = .ok (.aload_n 0, 1) := by decide +kernel
theorem dX7_shouldOf_9 : decode cX7_shouldOf 9 = .ok (.getfield 61, 3) := by decide +kernel
theorem dX7_shouldOf_12 : decode cX7_shouldOf 12 = .ok (.iload_n 2, 1) := by decide +kernel
theorem dX7_shouldOf_13 : decode cX7_shouldOf 13 = .ok (.iload_n 2, 1) := by decide +kernel
theorem dX7_shouldOf_14 : decode cX7_shouldOf 14 = .ok (.ifCond .ne 7, 3) := by decide +kernel
theorem dX7_shouldOf_17 : decode cX7_shouldOf 17 = .ok (.lconst 1, 1) := by decide +kernel
theorem dX7_shouldOf_18 : decode cX7_shouldOf 18 = .ok (.goto 4, 3) := by decide +kernel
theorem dX7_shouldOf_21 : decode cX7_shouldOf 21 = .ok (.lconst 0, 1) := by decide +kernel
theorem dX7_shouldOf_22 : decode cX7_shouldOf 22 = .ok (.lastore, 1) := by decide +kernel
theorem dX7_shouldOf_23 : decode cX7_shouldOf 23 = .ok (.iinc 2 1, 3) := by decide +kernel
theorem dX7_shouldOf_26 : decode cX7_shouldOf 26 = .ok (.goto (-24), 3) := by decide +kernel
theorem dX7_shouldOf_29 : decode cX7_shouldOf 29 = .ok (.lconst 1, 1) := by decide +kernel
theorem dX7_shouldOf_30 : decode cX7_shouldOf 30 = .ok (.lstore_n 2, 1) := by decide +kernel
theorem dX7_shouldOf_31 : decode cX7_shouldOf 31 = .ok (.iconst 1, 1) := by decide +kernel
theorem dX7_shouldOf_32 : decode cX7_shouldOf 32 = .ok (.istore 4, 2) := by decide +kernel
theorem dX7_shouldOf_34 : decode cX7_shouldOf 34 = .ok (.iload 4, 2) := by decide +kernel
theorem dX7_shouldOf_36 : decode cX7_shouldOf 36 = .ok (.aload_n 0, 1) := by decide +kernel
theorem dX7_shouldOf_37 : decode cX7_shouldOf 37 = .ok (.getfield 139, 3) := by decide +kernel
theorem dX7_shouldOf_40 : decode cX7_shouldOf 40 = .ok (.if_icmp .gt 67, 3) := by decide +kernel
theorem dX7_shouldOf_43 : decode cX7_shouldOf 43 = .ok (.iload 4, 2) := by decide +kernel
theorem dX7_shouldOf_45 : decode cX7_shouldOf 45 = .ok (.istore 5, 2) := by decide +kernel
theorem dX7_shouldOf_47 : decode cX7_shouldOf 47 = .ok (.iload 5, 2) := by decide +kernel
theorem dX7_shouldOf_49 : decode cX7_shouldOf 49 = .ok (.ifCond .le 39, 3) := by decide +kernel
theorem dX7_shouldOf_52 : decode cX7_shouldOf 52 = .ok (.aload_n 0, 1) := by decide +kernel
theorem dX7_shouldOf_53 : decode cX7_shouldOf 53 = .ok (.getfield 61, 3) := by decide +kernel
theorem dX7_shouldOf_56 : decode cX7_shouldOf 56 = .ok (.iload 5, 2) := by decide +kernel
theorem dX7_shouldOf_58 : decode cX7_shouldOf 58 = .ok (.aload_n 0, 1) := by decide +kernel
theorem dX7_shouldOf_59 : decode cX7_shouldOf 59 = .ok (.getfield 61, 3) := by decide +kernel
theorem dX7_shouldOf_62 : decode cX7_shouldOf 62 = .ok (.iload 5, 2) := by decide +kernel
theorem dX7_shouldOf_64 : decode cX7_shouldOf 64 = .ok (.iconst 1, 1) := by decide +kernel
theorem dX7_shouldOf_65 : decode cX7_shouldOf 65 = .ok (.isub, 1) := by decide +kernel
theorem dX7_shouldOf_66 : decode cX7_shouldOf 66 = .ok (.laload, 1) := by decide +kernel
theorem dX7_shouldOf_67 : decode cX7_shouldOf 67 = .ok (.iload 4, 2) := by decide +kernel
theorem dX7_shouldOf_69 : decode cX7_shouldOf 69 = .ok (.iconst 1, 1) := by decide +kernel
theorem dX7_shouldOf_70 : decode cX7_shouldOf 70 = .ok (.isub, 1) := by decide +kernel
theorem dX7_shouldOf_71 : decode cX7_shouldOf 71 = .ok (.i2l, 1) := by decide +kernel
theorem dX7_shouldOf_72 : decode cX7_shouldOf 72 = .ok (.aload_n 0, 1) := by decide +kernel
theorem dX7_shouldOf_73 : decode cX7_shouldOf 73 = .ok (.getfield 61, 3) := by decide +kernel
theorem dX7_shouldOf_76 : decode cX7_shouldOf 76 = .ok (.iload 5, 2) := by decide +kernel
theorem dX7_shouldOf_78 : decode cX7_shouldOf 78 = .ok (.laload, 1) := by decide +kernel
theorem dX7_shouldOf_79 : decode cX7_shouldOf 79 = .ok (.lmul, 1) := by decide +kernel
theorem dX7_shouldOf_80 : decode cX7_shouldOf 80 = .ok (.ladd, 1) := by decide +kernel
theorem dX7_shouldOf_81 : decode cX7_shouldOf 81 = .ok (.lastore, 1) := by decide +kernel
theorem dX7_shouldOf_82 : decode cX7_shouldOf 82 = .ok (.iinc 5 (-1), 3) := by decide +kernel
theorem dX7_shouldOf_85 : decode cX7_shouldOf 85 = .ok (.goto (-38), 3) := by decide +kernel
theorem dX7_shouldOf_88 : decode cX7_shouldOf 88 = .ok (.aload_n 0, 1) := by decide +kernel
theorem dX7_shouldOf_89 : decode cX7_shouldOf 89 = .ok (.getfield 61, 3) := by decide +kernel
theorem dX7_shouldOf_92 : decode cX7_shouldOf 92 = .ok (.iconst 0, 1) := by decide +kernel
theorem dX7_shouldOf_93 : decode cX7_shouldOf 93 = .ok (.lconst 0, 1) := by decide +kernel
theorem dX7_shouldOf_94 : decode cX7_shouldOf 94 = .ok (.lastore, 1) := by decide +kernel
theorem dX7_shouldOf_95 : decode cX7_shouldOf 95 = .ok (.lload_n 2, 1) := by decide +kernel
theorem dX7_shouldOf_96 : decode cX7_shouldOf 96 = .ok (.iload 4, 2) := by decide +kernel
theorem dX7_shouldOf_98 : decode cX7_shouldOf 98 = .ok (.i2l, 1) := by decide +kernel
theorem dX7_shouldOf_99 : decode cX7_shouldOf 99 = .ok (.lmul, 1) := by decide +kernel
theorem dX7_shouldOf_100 : decode cX7_shouldOf 100 = .ok (.lstore_n 2, 1) := by decide +kernel
theorem dX7_shouldOf_101 : decode cX7_shouldOf 101 = .ok (.iinc 4 1, 3) := by decide +kernel
theorem dX7_shouldOf_104 : decode cX7_shouldOf 104 = .ok (.goto (-70), 3) := by decide +kernel
theorem dX7_shouldOf_107 : decode cX7_shouldOf 107 = .ok (.lconst 0, 1) := by decide +kernel
theorem dX7_shouldOf_108 : decode cX7_shouldOf 108 = .ok (.lstore 4, 2) := by decide +kernel
theorem dX7_shouldOf_110 : decode cX7_shouldOf 110 = .ok (.iload_n 1, 1) := by decide +kernel
theorem dX7_shouldOf_111 : decode cX7_shouldOf 111 = .ok (.istore 6, 2) := by decide +kernel
theorem dX7_shouldOf_113 : decode cX7_shouldOf 113 = .ok (.iload 6, 2) := by decide +kernel
theorem dX7_shouldOf_115 : decode cX7_shouldOf 115 = .ok (.aload_n 0, 1) := by decide +kernel
theorem dX7_shouldOf_116 : decode cX7_shouldOf 116 = .ok (.getfield 139, 3) := by decide +kernel
theorem dX7_shouldOf_119 : decode cX7_shouldOf 119 = .ok (.if_icmp .gt 21, 3) := by decide +kernel
theorem dX7_shouldOf_122 : decode cX7_shouldOf 122 = .ok (.lload 4, 2) := by decide +kernel
theorem dX7_shouldOf_124 : decode cX7_shouldOf 124 = .ok (.aload_n 0, 1) := by decide +kernel
theorem dX7_shouldOf_125 : decode cX7_shouldOf 125 = .ok (.getfield 61, 3) := by decide +kernel
theorem dX7_shouldOf_128 : decode cX7_shouldOf 128 = .ok (.iload 6, 2) := by decide +kernel
theorem dX7_shouldOf_130 : decode cX7_shouldOf 130 = .ok (.laload, 1) := by decide +kernel
theorem dX7_shouldOf_131 : decode cX7_shouldOf 131 = .ok (.ladd, 1) := by decide +kernel
theorem dX7_shouldOf_132 : decode cX7_shouldOf 132 = .ok (.lstore 4, 2) := by decide +kernel
theorem dX7_shouldOf_134 : decode cX7_shouldOf 134 = .ok (.iinc 6 1, 3) := by decide +kernel
theorem dX7_shouldOf_137 : decode cX7_shouldOf 137 = .ok (.goto (-24), 3) := by decide +kernel
theorem dX7_shouldOf_140 : decode cX7_shouldOf 140 = .ok (.lload 4, 2) := by decide +kernel
theorem dX7_shouldOf_142 : decode cX7_shouldOf 142 = .ok (.lload_n 2, 1) := by decide +kernel
theorem dX7_shouldOf_143 : decode cX7_shouldOf 143 = .ok (.invokestatic 211, 3) := by decide +kernel
theorem dX7_shouldOf_146 : decode cX7_shouldOf 146 = .ok (.ireturn, 1) := by decide +kernel
set_option maxRecDepth 20000 in
theorem ggX7_recordsOf_X7_find : GoodIn wsX7_recordsOf wsX7_find := goodIn_r _ [8, 9, 10, 11, 12, 13, 14, 15, 16, 1, 3, 2, 17, 18, 19, 7, 20, 21, 22, 23, 24, 25, 26, 27, 28, 29, 30, 31, 41, 42, 43, 44, 45, 46, 47, 48, 49, 50, 51, 52, 53, 54, 55, 56, 57, 58, 59, 60, 61, 62, 63, 64, 65, 66, 67, 68] (by decide +kernel) (by decide +kernel)
set_option maxRecDepth 20000 in
theorem gX7_recordsOf_X7_find : GoodIn wsX7_recordsOf (wsV RX7 151 RX7 yX7_find wsX7_find) := goodIn_app (goodIn_of _ (by decide +kernel)) ggX7_recordsOf_X7_find
set_option maxRecDepth 20000 in
theorem ggX7_recordsOf_X7_shouldOf : GoodIn wsX7_recordsOf wsX7_shouldOf := goodIn_r _ [35, 36, 1, 37, 38, 7, 39, 40, 41, 42, 43, 44, 45, 46, 47, 48, 49, 50, 51, 52, 53, 54, 55, 56, 57, 58, 59, 60, 61, 62, 63, 64, 65, 66, 67, 68] (by decide +kernel) (by decide +kernel)
set_option maxRecDepth 20000 in
theorem gX7_recordsOf_X7_shouldOf : GoodIn wsX7_recordsOf (wsV RX7 215 RX7 yX7_shouldOf wsX7_shouldOf) := goodIn_app (goodIn_of _ (by decide +kernel)) ggX7_recordsOf_X7_shouldOf
