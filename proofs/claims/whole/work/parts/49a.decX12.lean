theorem dX12_init_0 : decode cX12_init 0 = .ok (.aload_n 0, 1) := by decide +kernel
theorem dX12_init_1 : decode cX12_init 1 = .ok (.invokespecial 1, 3) := by decide +kernel
theorem dX12_init_4 : decode cX12_init 4 = .ok (.aload_n 0, 1) := by decide +kernel
theorem dX12_init_5 : decode cX12_init 5 = .ok (.sipush 625, 3) := by decide +kernel
theorem dX12_init_8 : decode cX12_init 8 = .ok (.newarray .int, 2) := by decide +kernel
theorem dX12_init_10 : decode cX12_init 10 = .ok (.putfield 9, 3) := by decide +kernel
theorem dX12_init_13 : decode cX12_init 13 = .ok (.aload_n 0, 1) := by decide +kernel
theorem dX12_init_14 : decode cX12_init 14 = .ok (.bipush 8, 2) := by decide +kernel
theorem dX12_init_16 : decode cX12_init 16 = .ok (.sipush 625, 3) := by decide +kernel
theorem dX12_init_19 : decode cX12_init 19 = .ok (.multianewarray 13 2, 4) := by decide +kernel
theorem dX12_init_23 : decode cX12_init 23 = .ok (.putfield 15, 3) := by decide +kernel
theorem dX12_init_26 : decode cX12_init 26 = .ok (.aload_n 0, 1) := by decide +kernel
theorem dX12_init_27 : decode cX12_init 27 = .ok (.bipush 16, 2) := by decide +kernel
theorem dX12_init_29 : decode cX12_init 29 = .ok (.newarray .int, 2) := by decide +kernel
theorem dX12_init_31 : decode cX12_init 31 = .ok (.putfield 18, 3) := by decide +kernel
theorem dX12_init_34 : decode cX12_init 34 = .ok (.aload_n 0, 1) := by decide +kernel
theorem dX12_init_35 : decode cX12_init 35 = .ok (.bipush 16, 2) := by decide +kernel
theorem dX12_init_37 : decode cX12_init 37 = .ok (.newarray .int, 2) := by decide +kernel
theorem dX12_init_39 : decode cX12_init 39 = .ok (.putfield 21, 3) := by decide +kernel
theorem dX12_init_42 : decode cX12_init 42 = .ok (.aload_n 0, 1) := by decide +kernel
theorem dX12_init_43 : decode cX12_init 43 = .ok (.bipush 24, 2) := by decide +kernel
theorem dX12_init_45 : decode cX12_init 45 = .ok (.newarray .int, 2) := by decide +kernel
theorem dX12_init_47 : decode cX12_init 47 = .ok (.putfield 24, 3) := by decide +kernel
theorem dX12_init_50 : decode cX12_init 50 = .ok (.aload_n 0, 1) := by decide +kernel
theorem dX12_init_51 : decode cX12_init 51 = .ok (.bipush 25, 2) := by decide +kernel
theorem dX12_init_53 : decode cX12_init 53 = .ok (.bipush 16, 2) := by decide +kernel
theorem dX12_init_55 : decode cX12_init 55 = .ok (.multianewarray 13 2, 4) := by decide +kernel
theorem dX12_init_59 : decode cX12_init 59 = .ok (.putfield 27, 3) := by decide +kernel
theorem dX12_init_62 : decode cX12_init 62 = .ok (.aload_n 0, 1) := by decide +kernel
theorem dX12_init_63 : decode cX12_init 63 = .ok (.bipush 16, 2) := by decide +kernel
theorem dX12_init_65 : decode cX12_init 65 = .ok (.newarray .int, 2) := by decide +kernel
theorem dX12_init_67 : decode cX12_init 67 = .ok (.putfield 30, 3) := by decide +kernel
theorem dX12_init_70 : decode cX12_init 70 = .ok (.aload_n 0, 1) := by decide +kernel
theorem dX12_init_71 : decode cX12_init 71 = .ok (.bipush 16, 2) := by decide +kernel
theorem dX12_init_73 : decode cX12_init 73 = .ok (.newarray .int, 2) := by decide +kernel
theorem dX12_init_75 : decode cX12_init 75 = .ok (.putfield 33, 3) := by decide +kernel
theorem dX12_init_78 : decode cX12_init 78 = .ok (.aload_n 0, 1) := by decide +kernel
theorem dX12_init_79 : decode cX12_init 79 = .ok (.bipush 16, 2) := by decide +kernel
theorem dX12_init_81 : decode cX12_init 81 = .ok (.newarray .int, 2) := by decide +kernel
theorem dX12_init_83 : decode cX12_init 83 = .ok (.putfield 36, 3) := by decide +kernel
theorem dX12_init_86 : decode cX12_init 86 = .ok (.aload_n 0, 1) := by decide +kernel
theorem dX12_init_87 : decode cX12_init 87 = .ok (.getfield 9, 3) := by decide +kernel
theorem dX12_init_90 : decode cX12_init 90 = .ok (.iconst 0, 1) := by decide +kernel
theorem dX12_init_91 : decode cX12_init 91 = .ok (.sipush 2026, 3) := by decide +kernel
theorem dX12_init_94 : decode cX12_init 94 = .ok (.iastore, 1) := by decide +kernel
theorem dX12_init_95 : decode cX12_init 95 = .ok (.aload_n 0, 1) := by decide +kernel
theorem dX12_init_96 : decode cX12_init 96 = .ok (.getfield 9, 3) := by decide +kernel
theorem dX12_init_99 : decode cX12_init 99 = .ok (.iconst 1, 1) := by decide +kernel
theorem dX12_init_100 : decode cX12_init 100 = .ok (.bipush 6, 2) := by decide +kernel
theorem dX12_init_102 : decode cX12_init 102 = .ok (.iastore, 1) := by decide +kernel
theorem dX12_init_103 : decode cX12_init 103 = .ok (.aload_n 0, 1) := by decide +kernel
theorem dX12_init_104 : decode cX12_init 104 = .ok (.getfield 9, 3) := by decide +kernel
theorem dX12_init_107 : decode cX12_init 107 = .ok (.iconst 2, 1) := by decide +kernel
theorem dX12_init_108 : decode cX12_init 108 = .ok (.iconst 1, 1) := by decide +kernel
theorem dX12_init_109 : decode cX12_init 109 = .ok (.iastore, 1) := by decide +kernel
theorem dX12_init_110 : decode cX12_init 110 = .ok (.iconst 0, 1) := by decide +kernel
theorem dX12_init_111 : decode cX12_init 111 = .ok (.istore_n 1, 1) := by decide +kernel
theorem dX12_init_112 : decode cX12_init 112 = .ok (.iload_n 1, 1) := by decide +kernel
theorem dX12_init_113 : decode cX12_init 113 = .ok (.bipush 16, 2) := by decide +kernel
theorem dX12_init_115 : decode cX12_init 115 = .ok (.if_icmp .ge 30, 3) := by decide +kernel
theorem dX12_init_118 : decode cX12_init 118 = .ok (.aload_n 0, 1) := by decide +kernel
theorem dX12_init_119 : decode cX12_init 119 = .ok (.getfield 9, 3) := by decide +kernel
theorem dX12_init_122 : decode cX12_init 122 = .ok (.bipush 7, 2) := by decide +kernel
theorem dX12_init_124 : decode cX12_init 124 = .ok (.iload_n 1, 1) := by decide +kernel
theorem dX12_init_125 : decode cX12_init 125 = .ok (.iadd, 1) := by decide +kernel
theorem dX12_init_126 : decode cX12_init 126 = .ok (.iload_n 1, 1) := by decide +kernel
theorem dX12_init_127 : decode cX12_init 127 = .ok (.iconst 5, 1) := by decide +kernel
theorem dX12_init_128 : decode cX12_init 128 = .ok (.irem, 1) := by decide +kernel
theorem dX12_init_129 : decode cX12_init 129 = .ok (.ifCond .ne 7, 3) := by decide +kernel
theorem dX12_init_132 : decode cX12_init 132 = .ok (.iconst 0, 1) := by decide +kernel
theorem dX12_init_133 : decode cX12_init 133 = .ok (.goto 5, 3) := by decide +kernel
theorem dX12_init_136 : decode cX12_init 136 = .ok (.bipush 10, 2) := by decide +kernel
theorem dX12_init_138 : decode cX12_init 138 = .ok (.iastore, 1) := by decide +kernel
theorem dX12_init_139 : decode cX12_init 139 = .ok (.iinc 1 1, 3) := by decide +kernel
theorem dX12_init_142 : decode cX12_init 142 = .ok (.goto (-30), 3) := by decide +kernel
theorem dX12_init_145 : decode cX12_init 145 = .ok (.iconst 0, 1) := by decide +kernel
theorem dX12_init_146 : decode cX12_init 146 = .ok (.istore_n 1, 1) := by decide +kernel
theorem dX12_init_147 : decode cX12_init 147 = .ok (.iload_n 1, 1) := by decide +kernel
theorem dX12_init_148 : decode cX12_init 148 = .ok (.bipush 12, 2) := by decide +kernel
theorem dX12_init_150 : decode cX12_init 150 = .ok (.if_icmp .ge 21, 3) := by decide +kernel
theorem dX12_init_153 : decode cX12_init 153 = .ok (.aload_n 0, 1) := by decide +kernel
theorem dX12_init_154 : decode cX12_init 154 = .ok (.getfield 9, 3) := by decide +kernel
theorem dX12_init_157 : decode cX12_init 157 = .ok (.sipush 314, 3) := by decide +kernel
theorem dX12_init_160 : decode cX12_init 160 = .ok (.iload_n 1, 1) := by decide +kernel
theorem dX12_init_161 : decode cX12_init 161 = .ok (.iadd, 1) := by decide +kernel
theorem dX12_init_162 : decode cX12_init 162 = .ok (.bipush 10, 2) := by decide +kernel
theorem dX12_init_164 : decode cX12_init 164 = .ok (.iastore, 1) := by decide +kernel
theorem dX12_init_165 : decode cX12_init 165 = .ok (.iinc 1 1, 3) := by decide +kernel
theorem dX12_init_168 : decode cX12_init 168 = .ok (.goto (-21), 3) := by decide +kernel
theorem dX12_init_171 : decode cX12_init 171 = .ok (.aload_n 0, 1) := by decide +kernel
theorem dX12_init_172 : decode cX12_init 172 = .ok (.getfield 9, 3) := by decide +kernel
theorem dX12_init_175 : decode cX12_init 175 = .ok (.sipush 330, 3) := by decide +kernel
theorem dX12_init_178 : decode cX12_init 178 = .ok (.iconst 3, 1) := by decide +kernel
theorem dX12_init_179 : decode cX12_init 179 = .ok (.iastore, 1) := by decide +kernel
theorem dX12_init_180 : decode cX12_init 180 = .ok (.aload_n 0, 1) := by decide +kernel
theorem dX12_init_181 : decode cX12_init 181 = .ok (.getfield 9, 3) := by decide +kernel
theorem dX12_init_184 : decode cX12_init 184 = .ok (.sipush 411, 3) := by decide +kernel
theorem dX12_init_187 : decode cX12_init 187 = .ok (.bipush 8, 2) := by decide +kernel
theorem dX12_init_189 : decode cX12_init 189 = .ok (.iastore, 1) := by decide +kernel
theorem dX12_init_190 : decode cX12_init 190 = .ok (.iconst 0, 1) := by decide +kernel
theorem dX12_init_191 : decode cX12_init 191 = .ok (.istore_n 1, 1) := by decide +kernel
theorem dX12_init_192 : decode cX12_init 192 = .ok (.iload_n 1, 1) := by decide +kernel
theorem dX12_init_193 : decode cX12_init 193 = .ok (.iconst 4, 1) := by decide +kernel
theorem dX12_init_194 : decode cX12_init 194 = .ok (.if_icmp .ge 21, 3) := by decide +kernel
theorem dX12_init_197 : decode cX12_init 197 = .ok (.aload_n 0, 1) := by decide +kernel
theorem dX12_init_198 : decode cX12_init 198 = .ok (.getfield 9, 3) := by decide +kernel
theorem dX12_init_201 : decode cX12_init 201 = .ok (.sipush 448, 3) := by decide +kernel
theorem dX12_init_204 : decode cX12_init 204 = .ok (.iload_n 1, 1) := by decide +kernel
theorem dX12_init_205 : decode cX12_init 205 = .ok (.iadd, 1) := by decide +kernel
theorem dX12_init_206 : decode cX12_init 206 = .ok (.bipush 20, 2) := by decide +kernel
theorem dX12_init_208 : decode cX12_init 208 = .ok (.iastore, 1) := by decide +kernel
theorem dX12_init_209 : decode cX12_init 209 = .ok (.iinc 1 1, 3) := by decide +kernel
theorem dX12_init_212 : decode cX12_init 212 = .ok (.goto (-20), 3) := by decide +kernel
theorem dX12_init_215 : decode cX12_init 215 = .ok (.iconst 0, 1) := by decide +kernel
theorem dX12_init_216 : decode cX12_init 216 = .ok (.istore_n 1, 1) := by decide +kernel
theorem dX12_init_217 : decode cX12_init 217 = .ok (.iload_n 1, 1) := by decide +kernel
theorem dX12_init_218 : decode cX12_init 218 = .ok (.bipush 48, 2) := by decide +kernel
theorem dX12_init_220 : decode cX12_init 220 = .ok (.if_icmp .ge 20, 3) := by decide +kernel
theorem dX12_init_223 : decode cX12_init 223 = .ok (.aload_n 0, 1) := by decide +kernel
theorem dX12_init_224 : decode cX12_init 224 = .ok (.getfield 9, 3) := by decide +kernel
theorem dX12_init_227 : decode cX12_init 227 = .ok (.sipush 452, 3) := by decide +kernel
theorem dX12_init_230 : decode cX12_init 230 = .ok (.iload_n 1, 1) := by decide +kernel
theorem dX12_init_231 : decode cX12_init 231 = .ok (.iadd, 1) := by decide +kernel
theorem dX12_init_232 : decode cX12_init 232 = .ok (.iconst (-1), 1) := by decide +kernel
theorem dX12_init_233 : decode cX12_init 233 = .ok (.iastore, 1) := by decide +kernel
theorem dX12_init_234 : decode cX12_init 234 = .ok (.iinc 1 1, 3) := by decide +kernel
theorem dX12_init_237 : decode cX12_init 237 = .ok (.goto (-20), 3) := by decide +kernel
theorem dX12_init_240 : decode cX12_init 240 = .ok (.iconst 0, 1) := by decide +kernel
theorem dX12_init_241 : decode cX12_init 241 = .ok (.istore_n 1, 1) := by decide +kernel
theorem dX12_init_242 : decode cX12_init 242 = .ok (.iload_n 1, 1) := by decide +kernel
theorem dX12_init_243 : decode cX12_init 243 = .ok (.bipush 100, 2) := by decide +kernel
theorem dX12_init_245 : decode cX12_init 245 = .ok (.if_icmp .ge 20, 3) := by decide +kernel
theorem dX12_init_248 : decode cX12_init 248 = .ok (.aload_n 0, 1) := by decide +kernel
theorem dX12_init_249 : decode cX12_init 249 = .ok (.getfield 9, 3) := by decide +kernel
theorem dX12_init_252 : decode cX12_init 252 = .ok (.sipush 525, 3) := by decide +kernel
theorem dX12_init_255 : decode cX12_init 255 = .ok (.iload_n 1, 1) := by decide +kernel
theorem dX12_init_256 : decode cX12_init 256 = .ok (.iadd, 1) := by decide +kernel
theorem dX12_init_257 : decode cX12_init 257 = .ok (.iconst (-1), 1) := by decide +kernel
theorem dX12_init_258 : decode cX12_init 258 = .ok (.iastore, 1) := by decide +kernel
theorem dX12_init_259 : decode cX12_init 259 = .ok (.iinc 1 1, 3) := by decide +kernel
theorem dX12_init_262 : decode cX12_init 262 = .ok (.goto (-20), 3) := by decide +kernel
theorem dX12_init_265 : decode cX12_init 265 = .ok (.return_, 1) := by decide +kernel
theorem dX12_thrown_0 : decode cX12_thrown 0 = .ok (.aload_n 0, 1) := by decide +kernel
theorem dX12_thrown_1 : decode cX12_thrown 1 = .ok (.getfield 39, 3) := by decide +kernel
theorem dX12_thrown_4 : decode cX12_thrown 4 = .ok (.ireturn, 1) := by decide +kernel
theorem dX12_no_0 : decode cX12_no 0 = .ok (.iload_n 1, 1) := by decide +kernel
theorem dX12_no_1 : decode cX12_no 1 = .ok (.ifCond .ne 8, 3) := by decide +kernel
theorem dX12_no_4 : decode cX12_no 4 = .ok (.aload_n 0, 1) := by decide +kernel
theorem dX12_no_5 : decode cX12_no 5 = .ok (.iload_n 2, 1) := by decide +kernel
theorem dX12_no_6 : decode cX12_no 6 = .ok (.putfield 39, 3) := by decide +kernel
theorem dX12_no_9 : decode cX12_no 9 = .ok (.iload_n 1, 1) := by decide +kernel
theorem dX12_no_10 : decode cX12_no 10 = .ok (.ifCond .ne 7, 3) := by decide +kernel
theorem dX12_no_13 : decode cX12_no 13 = .ok (.iconst 1, 1) := by decide +kernel
theorem dX12_no_14 : decode cX12_no 14 = .ok (.goto 4, 3) := by decide +kernel
theorem dX12_no_17 : decode cX12_no 17 = .ok (.iconst 0, 1) := by decide +kernel
theorem dX12_no_18 : decode cX12_no 18 = .ok (.ireturn, 1) := by decide +kernel
set_option maxRecDepth 20000 in
theorem ggX12_lacks_X12_no : GoodIn wsX12_lacks wsX12_no := goodIn_r _ [6, 1, 7, 8, 9, 10, 11, 12, 13, 14, 15, 16, 17, 18, 19, 20, 21, 22] (by decide +kernel) (by decide +kernel)
set_option maxRecDepth 20000 in
theorem gX12_lacks_X12_no : GoodIn wsX12_lacks (wsV RX12 43 RX12 yX12_no wsX12_no) := goodIn_app (goodIn_of _ (by decide +kernel)) ggX12_lacks_X12_no
theorem dX12_lacks_0 : decode cX12_lacks 0 = .ok (.aload_n 0, 1) := by decide +kernel
theorem dX12_lacks_1 : decode cX12_lacks 1 = .ok (.iconst 0, 1) := by decide +kernel
theorem dX12_lacks_2 : decode cX12_lacks 2 = .ok (.putfield 39, 3) := by decide +kernel
theorem dX12_lacks_5 : decode cX12_lacks 5 = .ok (.aload_n 0, 1) := by decide +kernel
theorem dX12_lacks_6 : decode cX12_lacks 6 = .ok (.iload_n 1, 1) := by decide +kernel
theorem dX12_lacks_7 : decode cX12_lacks 7 = .ok (.iconst 1, 1) := by decide +kernel
theorem dX12_lacks_8 : decode cX12_lacks 8 = .ok (.invokevirtual 43, 3) := by decide +kernel
theorem dX12_lacks_11 : decode cX12_lacks 11 = .ok (.ireturn, 1) := by decide +kernel
theorem dX12_in_0 : decode cX12_in 0 = .ok (.iload_n 0, 1) := by decide +kernel
theorem dX12_in_1 : decode cX12_in 1 = .ok (.iload_n 1, 1) := by decide +kernel
theorem dX12_in_2 : decode cX12_in 2 = .ok (.if_icmp .lt 12, 3) := by decide +kernel
theorem dX12_in_5 : decode cX12_in 5 = .ok (.iload_n 0, 1) := by decide +kernel
theorem dX12_in_6 : decode cX12_in 6 = .ok (.iload_n 2, 1) := by decide +kernel
theorem dX12_in_7 : decode cX12_in 7 = .ok (.if_icmp .gt 7, 3) := by decide +kernel
theorem dX12_in_10 : decode cX12_in 10 = .ok (.iconst 1, 1) := by decide +kernel
theorem dX12_in_11 : decode cX12_in 11 = .ok (.goto 4, 3) := by decide +kernel
theorem dX12_in_14 : decode cX12_in 14 = .ok (.iconst 0, 1) := by decide +kernel
theorem dX12_in_15 : decode cX12_in 15 = .ok (.ireturn, 1) := by decide +kernel
set_option maxRecDepth 20000 in
theorem ggX12_isStage_X12_in : GoodIn wsX12_isStage wsX12_in := goodIn_r _ [4] (by decide +kernel) (by decide +kernel)
set_option maxRecDepth 20000 in
theorem gX12_isStage_X12_in : GoodIn wsX12_isStage (va_wsS RX12 47 yX12_in wsX12_in) := goodIn_app (goodIn_of _ (by decide +kernel)) ggX12_isStage_X12_in
theorem dX12_isStage_0 : decode cX12_isStage 0 = .ok (.iload_n 0, 1) := by decide +kernel
theorem dX12_isStage_1 : decode cX12_isStage 1 = .ok (.iconst 0, 1) := by decide +kernel
theorem dX12_isStage_2 : decode cX12_isStage 2 = .ok (.iconst 3, 1) := by decide +kernel
theorem dX12_isStage_3 : decode cX12_isStage 3 = .ok (.invokestatic 47, 3) := by decide +kernel
theorem dX12_isStage_6 : decode cX12_isStage 6 = .ok (.ireturn, 1) := by decide +kernel
set_option maxRecDepth 20000 in
theorem ggX12_isDay_X12_in : GoodIn wsX12_isDay wsX12_in := goodIn_r _ [4] (by decide +kernel) (by decide +kernel)
set_option maxRecDepth 20000 in
theorem gX12_isDay_X12_in : GoodIn wsX12_isDay (va_wsS RX12 47 yX12_in wsX12_in) := goodIn_app (goodIn_of _ (by decide +kernel)) ggX12_isDay_X12_in
theorem dX12_isDay_0 : decode cX12_isDay 0 = .ok (.iload_n 0, 1) := by decide +kernel
theorem dX12_isDay_1 : decode cX12_isDay 1 = .ok (.iconst 0, 1) := by decide +kernel
theorem dX12_isDay_2 : decode cX12_isDay 2 = .ok (.iconst 3, 1) := by decide +kernel
theorem dX12_isDay_3 : decode cX12_isDay 3 = .ok (.invokestatic 47, 3) := by decide +kernel
theorem dX12_isDay_6 : decode cX12_isDay 6 = .ok (.ireturn, 1) := by decide +kernel
set_option maxRecDepth 20000 in
theorem ggX12_isVisitor_X12_in : GoodIn wsX12_isVisitor wsX12_in := goodIn_r _ [4] (by decide +kernel) (by decide +kernel)
set_option maxRecDepth 20000 in
theorem gX12_isVisitor_X12_in : GoodIn wsX12_isVisitor (va_wsS RX12 47 yX12_in wsX12_in) := goodIn_app (goodIn_of _ (by decide +kernel)) ggX12_isVisitor_X12_in
theorem dX12_isVisitor_0 : decode cX12_isVisitor 0 = .ok (.iload_n 0, 1) := by decide +kernel
theorem dX12_isVisitor_1 : decode cX12_isVisitor 1 = .ok (.iconst 0, 1) := by decide +kernel
theorem dX12_isVisitor_2 : decode cX12_isVisitor 2 = .ok (.bipush 11, 2) := by decide +kernel
theorem dX12_isVisitor_4 : decode cX12_isVisitor 4 = .ok (.invokestatic 47, 3) := by decide +kernel
theorem dX12_isVisitor_7 : decode cX12_isVisitor 7 = .ok (.ireturn, 1) := by decide +kernel
set_option maxRecDepth 20000 in
theorem ggX12_isBar_X12_in : GoodIn wsX12_isBar wsX12_in := goodIn_r _ [4] (by decide +kernel) (by decide +kernel)
set_option maxRecDepth 20000 in
theorem gX12_isBar_X12_in : GoodIn wsX12_isBar (va_wsS RX12 47 yX12_in wsX12_in) := goodIn_app (goodIn_of _ (by decide +kernel)) ggX12_isBar_X12_in
theorem dX12_isBar_0 : decode cX12_isBar 0 = .ok (.iload_n 0, 1) := by decide +kernel
theorem dX12_isBar_1 : decode cX12_isBar 1 = .ok (.iconst 0, 1) := by decide +kernel
theorem dX12_isBar_2 : decode cX12_isBar 2 = .ok (.iconst 2, 1) := by decide +kernel
theorem dX12_isBar_3 : decode cX12_isBar 3 = .ok (.invokestatic 47, 3) := by decide +kernel
theorem dX12_isBar_6 : decode cX12_isBar 6 = .ok (.ireturn, 1) := by decide +kernel
set_option maxRecDepth 20000 in
theorem ggX12_isHour_X12_in : GoodIn wsX12_isHour wsX12_in := goodIn_r _ [4] (by decide +kernel) (by decide +kernel)
set_option maxRecDepth 20000 in
theorem gX12_isHour_X12_in : GoodIn wsX12_isHour (va_wsS RX12 47 yX12_in wsX12_in) := goodIn_app (goodIn_of _ (by decide +kernel)) ggX12_isHour_X12_in
theorem dX12_isHour_0 : decode cX12_isHour 0 = .ok (.iload_n 0, 1) := by decide +kernel
theorem dX12_isHour_1 : decode cX12_isHour 1 = .ok (.iconst 0, 1) := by decide +kernel
theorem dX12_isHour_2 : decode cX12_isHour 2 = .ok (.bipush 23, 2) := by decide +kernel
theorem dX12_isHour_4 : decode cX12_isHour 4 = .ok (.invokestatic 47, 3) := by decide +kernel
theorem dX12_isHour_7 : decode cX12_isHour 7 = .ok (.ireturn, 1) := by decide +kernel
set_option maxRecDepth 20000 in
theorem ggX12_isGate_X12_in : GoodIn wsX12_isGate wsX12_in := goodIn_r _ [4] (by decide +kernel) (by decide +kernel)
set_option maxRecDepth 20000 in
theorem gX12_isGate_X12_in : GoodIn wsX12_isGate (va_wsS RX12 47 yX12_in wsX12_in) := goodIn_app (goodIn_of _ (by decide +kernel)) ggX12_isGate_X12_in
theorem dX12_isGate_0 : decode cX12_isGate 0 = .ok (.iload_n 0, 1) := by decide +kernel
theorem dX12_isGate_1 : decode cX12_isGate 1 = .ok (.iconst 0, 1) := by decide +kernel
theorem dX12_isGate_2 : decode cX12_isGate 2 = .ok (.iconst 2, 1) := by decide +kernel
theorem dX12_isGate_3 : decode cX12_isGate 3 = .ok (.invokestatic 47, 3) := by decide +kernel
theorem dX12_isGate_6 : decode cX12_isGate 6 = .ok (.ireturn, 1) := by decide +kernel
theorem dX12_its_0 : decode cX12_its 0 = .ok (.aload_n 0, 1) := by decide +kernel
theorem dX12_its_1 : decode cX12_its 1 = .ok (.getfield 9, 3) := by decide +kernel
theorem dX12_its_4 : decode cX12_its 4 = .ok (.bipush 23, 2) := by decide +kernel
theorem dX12_its_6 : decode cX12_its 6 = .ok (.bipush 6, 2) := by decide +kernel
theorem dX12_its_8 : decode cX12_its 8 = .ok (.iload_n 1, 1) := by decide +kernel
theorem dX12_its_9 : decode cX12_its 9 = .ok (.imul, 1) := by decide +kernel
theorem dX12_its_10 : decode cX12_its 10 = .ok (.iadd, 1) := by decide +kernel
theorem dX12_its_11 : decode cX12_its 11 = .ok (.iload_n 2, 1) := by decide +kernel
theorem dX12_its_12 : decode cX12_its 12 = .ok (.iadd, 1) := by decide +kernel
theorem dX12_its_13 : decode cX12_its 13 = .ok (.iaload, 1) := by decide +kernel
theorem dX12_its_14 : decode cX12_its 14 = .ok (.ireturn, 1) := by decide +kernel
set_option maxRecDepth 20000 in
theorem ggX12_isAct_X12_in : GoodIn wsX12_isAct wsX12_in := goodIn_r _ [4] (by decide +kernel) (by decide +kernel)
set_option maxRecDepth 20000 in
theorem gX12_isAct_X12_in : GoodIn wsX12_isAct (va_wsS RX12 47 yX12_in wsX12_in) := goodIn_app (goodIn_of _ (by decide +kernel)) ggX12_isAct_X12_in
set_option maxRecDepth 20000 in
theorem ggX12_isAct_X12_its : GoodIn wsX12_isAct wsX12_its := goodIn_r _ [8, 9, 10, 11, 12, 13, 14, 15, 16, 17, 18, 19, 20, 21, 22, 23, 24, 25] (by decide +kernel) (by decide +kernel)
set_option maxRecDepth 20000 in
theorem gX12_isAct_X12_its : GoodIn wsX12_isAct (wsV RX12 51 RX12 yX12_its wsX12_its) := goodIn_app (goodIn_of _ (by decide +kernel)) ggX12_isAct_X12_its
theorem dX12_isAct_0 : decode cX12_isAct 0 = .ok (.iload_n 1, 1) := by decide +kernel
theorem dX12_isAct_1 : decode cX12_isAct 1 = .ok (.iconst 0, 1) := by decide +kernel
theorem dX12_isAct_2 : decode cX12_isAct 2 = .ok (.bipush 15, 2) := by decide +kernel
theorem dX12_isAct_4 : decode cX12_isAct 4 = .ok (.invokestatic 47, 3) := by decide +kernel
theorem dX12_isAct_7 : decode cX12_isAct 7 = .ok (.ifCond .eq 17, 3) := by decide +kernel
theorem dX12_isAct_10 : decode cX12_isAct 10 = .ok (.aload_n 0, 1) := by decide +kernel
theorem dX12_isAct_11 : decode cX12_isAct 11 = .ok (.iload_n 1, 1) := by decide +kernel
theorem dX12_isAct_12 : decode cX12_isAct 12 = .ok (.iconst 0, 1) := by decide +kernel
theorem dX12_isAct_13 : decode cX12_isAct 13 = .ok (.invokevirtual 51, 3) := by decide +kernel
theorem dX12_isAct_16 : decode cX12_isAct 16 = .ok (.iconst 1, 1) := by decide +kernel
theorem dX12_isAct_17 : decode cX12_isAct 17 = .ok (.if_icmp .ne 7, 3) := by decide +kernel
theorem dX12_isAct_20 : decode cX12_isAct 20 = .ok (.iconst 1, 1) := by decide +kernel
theorem dX12_isAct_21 : decode cX12_isAct 21 = .ok (.goto 4, 3) := by decide +kernel
theorem dX12_isAct_24 : decode cX12_isAct 24 = .ok (.iconst 0, 1) := by decide +kernel
theorem dX12_isAct_25 : decode cX12_isAct 25 = .ok (.ireturn, 1) := by decide +kernel
theorem dX12_keeps_0 : decode cX12_keeps 0 = .ok (.aload_n 0, 1) := by decide +kernel
theorem dX12_keeps_1 : decode cX12_keeps 1 = .ok (.getfield 55, 3) := by decide +kernel
theorem dX12_keeps_4 : decode cX12_keeps 4 = .ok (.bipush 8, 2) := by decide +kernel
theorem dX12_keeps_6 : decode cX12_keeps 6 = .ok (.if_icmp .ne 56, 3) := by decide +kernel
theorem dX12_keeps_9 : decode cX12_keeps 9 = .ok (.aload_n 0, 1) := by decide +kernel
theorem dX12_keeps_10 : decode cX12_keeps 10 = .ok (.getfield 15, 3) := by decide +kernel
theorem dX12_keeps_13 : decode cX12_keeps 13 = .ok (.iconst 0, 1) := by decide +kernel
theorem dX12_keeps_14 : decode cX12_keeps 14 = .ok (.aaload, 1) := by decide +kernel
theorem dX12_keeps_15 : decode cX12_keeps 15 = .ok (.astore_n 1, 1) := by decide +kernel
theorem dX12_keeps_16 : decode cX12_keeps 16 = .ok (.iconst 1, 1) := by decide +kernel
theorem dX12_keeps_17 : decode cX12_keeps 17 = .ok (.istore_n 2, 1) := by decide +kernel
theorem dX12_keeps_18 : decode cX12_keeps 18 = .ok (.iload_n 2, 1) := by decide +kernel
theorem dX12_keeps_19 : decode cX12_keeps 19 = .ok (.bipush 8, 2) := by decide +kernel
theorem dX12_keeps_21 : decode cX12_keeps 21 = .ok (.if_icmp .ge 23, 3) := by decide +kernel
theorem dX12_keeps_24 : decode cX12_keeps 24 = .ok (.aload_n 0, 1) := by decide +kernel
theorem dX12_keeps_25 : decode cX12_keeps 25 = .ok (.getfield 15, 3) := by decide +kernel
theorem dX12_keeps_28 : decode cX12_keeps 28 = .ok (.iload_n 2, 1) := by decide +kernel
theorem dX12_keeps_29 : decode cX12_keeps 29 = .ok (.iconst 1, 1) := by decide +kernel
theorem dX12_keeps_30 : decode cX12_keeps 30 = .ok (.isub, 1) := by decide +kernel
theorem dX12_keeps_31 : decode cX12_keeps 31 = .ok (.aload_n 0, 1) := by decide +kernel
theorem dX12_keeps_32 : decode cX12_keeps 32 = .ok (.getfield 15, 3) := by decide +kernel
theorem dX12_keeps_35 : decode cX12_keeps 35 = .ok (.iload_n 2, 1) := by decide +kernel
theorem dX12_keeps_36 : decode cX12_keeps 36 = .ok (.aaload, 1) := by decide +kernel
theorem dX12_keeps_37 : decode cX12_keeps 37 = .ok (.aastore, 1) := by decide +kernel
theorem dX12_keeps_38 : decode cX12_keeps 38 = .ok (.iinc 2 1, 3) := by decide +kernel
theorem dX12_keeps_41 : decode cX12_keeps 41 = .ok (.goto (-23), 3) := by decide +kernel
theorem dX12_keeps_44 : decode cX12_keeps 44 = .ok (.aload_n 0, 1) := by decide +kernel
theorem dX12_keeps_45 : decode cX12_keeps 45 = .ok (.getfield 15, 3) := by decide +kernel
theorem dX12_keeps_48 : decode cX12_keeps 48 = .ok (.bipush 7, 2) := by decide +kernel
theorem dX12_keeps_50 : decode cX12_keeps 50 = .ok (.aload_n 1, 1) := by decide +kernel
theorem dX12_keeps_51 : decode cX12_keeps 51 = .ok (.aastore, 1) := by decide +kernel
theorem dX12_keeps_52 : decode cX12_keeps 52 = .ok (.aload_n 0, 1) := by decide +kernel
theorem dX12_keeps_53 : decode cX12_keeps 53 = .ok (.dup, 1) := by decide +kernel
theorem dX12_keeps_54 : decode cX12_keeps 54 = .ok (.getfield 55, 3) := by decide +kernel
theorem dX12_keeps_57 : decode cX12_keeps 57 = .ok (.iconst 1, 1) := by decide +kernel
theorem dX12_keeps_58 : decode cX12_keeps 58 = .ok (.isub, 1) := by decide +kernel
theorem dX12_keeps_59 : decode cX12_keeps 59 = .ok (.putfield 55, 3) := by decide +kernel
theorem dX12_keeps_62 : decode cX12_keeps 62 = .ok (.aload_n 0, 1) := by decide +kernel
theorem dX12_keeps_63 : decode cX12_keeps 63 = .ok (.getfield 9, 3) := by decide +kernel
theorem dX12_keeps_66 : decode cX12_keeps 66 = .ok (.iconst 0, 1) := by decide +kernel
theorem dX12_keeps_67 : decode cX12_keeps 67 = .ok (.aload_n 0, 1) := by decide +kernel
theorem dX12_keeps_68 : decode cX12_keeps 68 = .ok (.getfield 15, 3) := by decide +kernel
theorem dX12_keeps_71 : decode cX12_keeps 71 = .ok (.aload_n 0, 1) := by decide +kernel
theorem dX12_keeps_72 : decode cX12_keeps 72 = .ok (.getfield 55, 3) := by decide +kernel
theorem dX12_keeps_75 : decode cX12_keeps 75 = .ok (.aaload, 1) := by decide +kernel
theorem dX12_keeps_76 : decode cX12_keeps 76 = .ok (.iconst 0, 1) := by decide +kernel
theorem dX12_keeps_77 : decode cX12_keeps 77 = .ok (.sipush 625, 3) := by decide +kernel
theorem dX12_keeps_80 : decode cX12_keeps 80 = .ok (.invokestatic 58, 3) := by decide +kernel
theorem dX12_keeps_83 : decode cX12_keeps 83 = .ok (.aload_n 0, 1) := by decide +kernel
theorem dX12_keeps_84 : decode cX12_keeps 84 = .ok (.dup, 1) := by decide +kernel
theorem dX12_keeps_85 : decode cX12_keeps 85 = .ok (.getfield 55, 3) := by decide +kernel
theorem dX12_keeps_88 : decode cX12_keeps 88 = .ok (.iconst 1, 1) := by decide +kernel
theorem dX12_keeps_89 : decode cX12_keeps 89 = .ok (.iadd, 1) := by decide +kernel
theorem dX12_keeps_90 : decode cX12_keeps 90 = .ok (.putfield 55, 3) := by decide +kernel
theorem dX12_keeps_93 : decode cX12_keeps 93 = .ok (.aload_n 0, 1) := by decide +kernel
theorem dX12_keeps_94 : decode cX12_keeps 94 = .ok (.iconst 0, 1) := by decide +kernel
theorem dX12_keeps_95 : decode cX12_keeps 95 = .ok (.putfield 64, 3) := by decide +kernel
theorem dX12_keeps_98 : decode cX12_keeps 98 = .ok (.return_, 1) := by decide +kernel
set_option maxRecDepth 20000 in
theorem ggX12_sets_X12_keeps : GoodIn wsX12_sets wsX12_keeps := goodIn_r _ [6, 7, 8, 1, 9, 10, 11, 12, 13, 14, 15, 16, 17, 18, 19, 20, 21, 22, 23, 24, 25, 26, 27, 28, 29] (by decide +kernel) (by decide +kernel)
set_option maxRecDepth 20000 in
theorem gX12_sets_X12_keeps : GoodIn wsX12_sets (wsV RX12 68 RX12 yX12_keeps wsX12_keeps) := goodIn_app (goodIn_of _ (by decide +kernel)) ggX12_sets_X12_keeps
theorem dX12_sets_0 : decode cX12_sets 0 = .ok (.aload_n 0, 1) := by decide +kernel
theorem dX12_sets_1 : decode cX12_sets 1 = .ok (.invokevirtual 68, 3) := by decide +kernel
theorem dX12_sets_4 : decode cX12_sets 4 = .ok (.aload_n 0, 1) := by decide +kernel
theorem dX12_sets_5 : decode cX12_sets 5 = .ok (.getfield 9, 3) := by decide +kernel
theorem dX12_sets_8 : decode cX12_sets 8 = .ok (.iload_n 1, 1) := by decide +kernel
theorem dX12_sets_9 : decode cX12_sets 9 = .ok (.iaload, 1) := by decide +kernel
theorem dX12_sets_10 : decode cX12_sets 10 = .ok (.istore_n 3, 1) := by decide +kernel
theorem dX12_sets_11 : decode cX12_sets 11 = .ok (.aload_n 0, 1) := by decide +kernel
theorem dX12_sets_12 : decode cX12_sets 12 = .ok (.getfield 9, 3) := by decide +kernel
theorem dX12_sets_15 : decode cX12_sets 15 = .ok (.iload_n 1, 1) := by decide +kernel
theorem dX12_sets_16 : decode cX12_sets 16 = .ok (.iload_n 2, 1) := by decide +kernel
theorem dX12_sets_17 : decode cX12_sets 17 = .ok (.iastore, 1) := by decide +kernel
theorem dX12_sets_18 : decode cX12_sets 18 = .ok (.iload_n 3, 1) := by decide +kernel
theorem dX12_sets_19 : decode cX12_sets 19 = .ok (.ireturn, 1) := by decide +kernel
theorem dX12_isLeap_0 : decode cX12_isLeap 0 = .ok (.iload_n 0, 1) := by decide +kernel
theorem dX12_isLeap_1 : decode cX12_isLeap 1 = .ok (.iconst 4, 1) := by decide +kernel
theorem dX12_isLeap_2 : decode cX12_isLeap 2 = .ok (.irem, 1) := by decide +kernel
theorem dX12_isLeap_3 : decode cX12_isLeap 3 = .ok (.ifCond .ne 10, 3) := by decide +kernel
theorem dX12_isLeap_6 : decode cX12_isLeap 6 = .ok (.iload_n 0, 1) := by decide +kernel
theorem dX12_isLeap_7 : decode cX12_isLeap 7 = .ok (.bipush 100, 2) := by decide +kernel
theorem dX12_isLeap_9 : decode cX12_isLeap 9 = .ok (.irem, 1) := by decide +kernel
theorem dX12_isLeap_10 : decode cX12_isLeap 10 = .ok (.ifCond .ne 11, 3) := by decide +kernel
theorem dX12_isLeap_13 : decode cX12_isLeap 13 = .ok (.iload_n 0, 1) := by decide +kernel
theorem dX12_isLeap_14 : decode cX12_isLeap 14 = .ok (.sipush 400, 3) := by decide +kernel
theorem dX12_isLeap_17 : decode cX12_isLeap 17 = .ok (.irem, 1) := by decide +kernel
theorem dX12_isLeap_18 : decode cX12_isLeap 18 = .ok (.ifCond .ne 7, 3) := by decide +kernel
theorem dX12_isLeap_21 : decode cX12_isLeap 21 = .ok (.iconst 1, 1) := by decide +kernel
theorem dX12_isLeap_22 : decode cX12_isLeap 22 = .ok (.goto 4, 3) := by decide +kernel
theorem dX12_isLeap_25 : decode cX12_isLeap 25 = .ok (.iconst 0, 1) := by decide +kernel
theorem dX12_isLeap_26 : decode cX12_isLeap 26 = .ok (.ireturn, 1) := by decide +kernel
set_option maxRecDepth 20000 in
theorem ggX12_daysOf_X12_isLeap : GoodIn wsX12_daysOf wsX12_isLeap := goodIn_r _ [4] (by decide +kernel) (by decide +kernel)
set_option maxRecDepth 20000 in
theorem gX12_daysOf_X12_isLeap : GoodIn wsX12_daysOf (va_wsS RX12 71 yX12_isLeap wsX12_isLeap) := goodIn_app (goodIn_of _ (by decide +kernel)) ggX12_daysOf_X12_isLeap
theorem dX12_daysOf_0 : decode cX12_daysOf 0 = .ok (.iload_n 1, 1) := by decide +kernel
theorem dX12_daysOf_1 : decode cX12_daysOf 1 = .ok (.iconst 2, 1) := by decide +kernel
theorem dX12_daysOf_2 : decode cX12_daysOf 2 = .ok (.if_icmp .ne 20, 3) := by decide +kernel
theorem dX12_daysOf_5 : decode cX12_daysOf 5 = .ok (.iload_n 0, 1) := by decide +kernel
theorem dX12_daysOf_6 : decode cX12_daysOf 6 = .ok (.invokestatic 71, 3) := by decide +kernel
theorem dX12_daysOf_9 : decode cX12_daysOf 9 = .ok (.ifCond .eq 8, 3) := by decide +kernel
theorem dX12_daysOf_12 : decode cX12_daysOf 12 = .ok (.bipush 29, 2) := by decide +kernel
theorem dX12_daysOf_14 : decode cX12_daysOf 14 = .ok (.goto 38, 3) := by decide +kernel
theorem dX12_daysOf_17 : decode cX12_daysOf 17 = .ok (.bipush 28, 2) := by decide +kernel
theorem dX12_daysOf_19 : decode cX12_daysOf 19 = .ok (.goto 33, 3) := by decide +kernel
theorem dX12_daysOf_22 : decode cX12_daysOf 22 = .ok (.iload_n 1, 1) := by decide +kernel
theorem dX12_daysOf_23 : decode cX12_daysOf 23 = .ok (.iconst 4, 1) := by decide +kernel
theorem dX12_daysOf_24 : decode cX12_daysOf 24 = .ok (.if_icmp .eq 21, 3) := by decide +kernel
theorem dX12_daysOf_27 : decode cX12_daysOf 27 = .ok (.iload_n 1, 1) := by decide +kernel
theorem dX12_daysOf_28 : decode cX12_daysOf 28 = .ok (.bipush 6, 2) := by decide +kernel
theorem dX12_daysOf_30 : decode cX12_daysOf 30 = .ok (.if_icmp .eq 15, 3) := by decide +kernel
theorem dX12_daysOf_33 : decode cX12_daysOf 33 = .ok (.iload_n 1, 1) := by decide +kernel
theorem dX12_daysOf_34 : decode cX12_daysOf 34 = .ok (.bipush 9, 2) := by decide +kernel
theorem dX12_daysOf_36 : decode cX12_daysOf 36 = .ok (.if_icmp .eq 9, 3) := by decide +kernel
theorem dX12_daysOf_39 : decode cX12_daysOf 39 = .ok (.iload_n 1, 1) := by decide +kernel
theorem dX12_daysOf_40 : decode cX12_daysOf 40 = .ok (.bipush 11, 2) := by decide +kernel
theorem dX12_daysOf_42 : decode cX12_daysOf 42 = .ok (.if_icmp .ne 8, 3) := by decide +kernel
theorem dX12_daysOf_45 : decode cX12_daysOf 45 = .ok (.bipush 30, 2) := by decide +kernel
theorem dX12_daysOf_47 : decode cX12_daysOf 47 = .ok (.goto 5, 3) := by decide +kernel
theorem dX12_daysOf_50 : decode cX12_daysOf 50 = .ok (.bipush 31, 2) := by decide +kernel
theorem dX12_daysOf_52 : decode cX12_daysOf 52 = .ok (.ireturn, 1) := by decide +kernel
set_option maxRecDepth 20000 in
theorem ggX12_weekday_X12_daysOf : GoodIn wsX12_weekday wsX12_daysOf := goodIn_r _ [4, 5, 6, 3, 7] (by decide +kernel) (by decide +kernel)
set_option maxRecDepth 20000 in
theorem gX12_weekday_X12_daysOf : GoodIn wsX12_weekday (va_wsS RX12 75 yX12_daysOf wsX12_daysOf) := goodIn_app (goodIn_of _ (by decide +kernel)) ggX12_weekday_X12_daysOf
theorem dX12_weekday_0 : decode cX12_weekday 0 = .ok (.iload_n 0, 1) := by decide +kernel
theorem dX12_weekday_1 : decode cX12_weekday 1 = .ok (.iconst 1, 1) := by decide +kernel
theorem dX12_weekday_2 : decode cX12_weekday 2 = .ok (.isub, 1) := by decide +kernel
theorem dX12_weekday_3 : decode cX12_weekday 3 = .ok (.istore_n 3, 1) := by decide +kernel
theorem dX12_weekday_4 : decode cX12_weekday 4 = .ok (.sipush 365, 3) := by decide +kernel
theorem dX12_weekday_7 : decode cX12_weekday 7 = .ok (.iload_n 3, 1) := by decide +kernel
theorem dX12_weekday_8 : decode cX12_weekday 8 = .ok (.imul, 1) := by decide +kernel
theorem dX12_weekday_9 : decode cX12_weekday 9 = .ok (.iload_n 3, 1) := by decide +kernel
theorem dX12_weekday_10 : decode cX12_weekday 10 = .ok (.iconst 4, 1) := by decide +kernel
theorem dX12_weekday_11 : decode cX12_weekday 11 = .ok (.idiv, 1) := by decide +kernel
theorem dX12_weekday_12 : decode cX12_weekday 12 = .ok (.iadd, 1) := by decide +kernel
theorem dX12_weekday_13 : decode cX12_weekday 13 = .ok (.iload_n 3, 1) := by decide +kernel
theorem dX12_weekday_14 : decode cX12_weekday 14 = .ok (.bipush 100, 2) := by decide +kernel
theorem dX12_weekday_16 : decode cX12_weekday 16 = .ok (.idiv, 1) := by decide +kernel
theorem dX12_weekday_17 : decode cX12_weekday 17 = .ok (.isub, 1) := by decide +kernel
theorem dX12_weekday_18 : decode cX12_weekday 18 = .ok (.iload_n 3, 1) := by decide +kernel
theorem dX12_weekday_19 : decode cX12_weekday 19 = .ok (.sipush 400, 3) := by decide +kernel
theorem dX12_weekday_22 : decode cX12_weekday 22 = .ok (.idiv, 1) := by decide +kernel
theorem dX12_weekday_23 : decode cX12_weekday 23 = .ok (.iadd, 1) := by decide +kernel
theorem dX12_weekday_24 : decode cX12_weekday 24 = .ok (.iload_n 2, 1) := by decide +kernel
theorem dX12_weekday_25 : decode cX12_weekday 25 = .ok (.iadd, 1) := by decide +kernel
theorem dX12_weekday_26 : decode cX12_weekday 26 = .ok (.iconst 1, 1) := by decide +kernel
theorem dX12_weekday_27 : decode cX12_weekday 27 = .ok (.isub, 1) := by decide +kernel
theorem dX12_weekday_28 : decode cX12_weekday 28 = .ok (.istore 4, 2) := by decide +kernel
theorem dX12_weekday_30 : decode cX12_weekday 30 = .ok (.iconst 1, 1) := by decide +kernel
theorem dX12_weekday_31 : decode cX12_weekday 31 = .ok (.istore 5, 2) := by decide +kernel
theorem dX12_weekday_33 : decode cX12_weekday 33 = .ok (.iload 5, 2) := by decide +kernel
theorem dX12_weekday_35 : decode cX12_weekday 35 = .ok (.iload_n 1, 1) := by decide +kernel
theorem dX12_weekday_36 : decode cX12_weekday 36 = .ok (.if_icmp .ge 20, 3) := by decide +kernel
theorem dX12_weekday_39 : decode cX12_weekday 39 = .ok (.iload 4, 2) := by decide +kernel
theorem dX12_weekday_41 : decode cX12_weekday 41 = .ok (.iload_n 0, 1) := by decide +kernel
theorem dX12_weekday_42 : decode cX12_weekday 42 = .ok (.iload 5, 2) := by decide +kernel
theorem dX12_weekday_44 : decode cX12_weekday 44 = .ok (.invokestatic 75, 3) := by decide +kernel
theorem dX12_weekday_47 : decode cX12_weekday 47 = .ok (.iadd, 1) := by decide +kernel
theorem dX12_weekday_48 : decode cX12_weekday 48 = .ok (.istore 4, 2) := by decide +kernel
theorem dX12_weekday_50 : decode cX12_weekday 50 = .ok (.iinc 5 1, 3) := by decide +kernel
theorem dX12_weekday_53 : decode cX12_weekday 53 = .ok (.goto (-20), 3) := by decide +kernel
theorem dX12_weekday_56 : decode cX12_weekday 56 = .ok (.iload 4, 2) := by decide +kernel
theorem dX12_weekday_58 : decode cX12_weekday 58 = .ok (.bipush 7, 2) := by decide +kernel
theorem dX12_weekday_60 : decode cX12_weekday 60 = .ok (.irem, 1) := by decide +kernel
theorem dX12_weekday_61 : decode cX12_weekday 61 = .ok (.iconst 1, 1) := by decide +kernel
theorem dX12_weekday_62 : decode cX12_weekday 62 = .ok (.iadd, 1) := by decide +kernel
theorem dX12_weekday_63 : decode cX12_weekday 63 = .ok (.ireturn, 1) := by decide +kernel
set_option maxRecDepth 20000 in
theorem ggX12_setDate_X12_in : GoodIn wsX12_setDate wsX12_in := goodIn_r _ [5] (by decide +kernel) (by decide +kernel)
set_option maxRecDepth 20000 in
theorem gX12_setDate_X12_in : GoodIn wsX12_setDate (va_wsS RX12 47 yX12_in wsX12_in) := goodIn_app (goodIn_of _ (by decide +kernel)) ggX12_setDate_X12_in
set_option maxRecDepth 20000 in
theorem ggX12_setDate_X12_daysOf : GoodIn wsX12_setDate wsX12_daysOf := goodIn_r _ [8, 9, 10, 4, 11] (by decide +kernel) (by decide +kernel)
set_option maxRecDepth 20000 in
theorem gX12_setDate_X12_daysOf : GoodIn wsX12_setDate (va_wsS RX12 75 yX12_daysOf wsX12_daysOf) := goodIn_app (goodIn_of _ (by decide +kernel)) ggX12_setDate_X12_daysOf
set_option maxRecDepth 20000 in
theorem ggX12_setDate_X12_lacks : GoodIn wsX12_setDate wsX12_lacks := goodIn_r _ [15, 16, 17, 18, 19, 4, 20, 35, 36, 37, 38, 39, 40, 41, 42, 43, 44, 45, 46, 47, 48, 49, 50] (by decide +kernel) (by decide +kernel)
set_option maxRecDepth 20000 in
theorem gX12_setDate_X12_lacks : GoodIn wsX12_setDate (wsV RX12 78 RX12 yX12_lacks wsX12_lacks) := goodIn_app (goodIn_of _ (by decide +kernel)) ggX12_setDate_X12_lacks
set_option maxRecDepth 20000 in
theorem ggX12_setDate_X12_keeps : GoodIn wsX12_setDate wsX12_keeps := goodIn_r _ [24, 25, 26, 1, 27, 28, 29, 30, 31, 35, 36, 37, 38, 39, 40, 41, 42, 43, 44, 45, 46, 47, 48, 49, 50] (by decide +kernel) (by decide +kernel)
set_option maxRecDepth 20000 in
theorem gX12_setDate_X12_keeps : GoodIn wsX12_setDate (wsV RX12 68 RX12 yX12_keeps wsX12_keeps) := goodIn_app (goodIn_of _ (by decide +kernel)) ggX12_setDate_X12_keeps
set_option maxRecDepth 20000 in
theorem ggX12_setDate_X12_weekday : GoodIn wsX12_setDate wsX12_weekday := goodIn_r _ [34, 6, 7, 4, 8, 9, 10, 11] (by decide +kernel) (by decide +kernel)
set_option maxRecDepth 20000 in
theorem gX12_setDate_X12_weekday : GoodIn wsX12_setDate (va_wsS RX12 82 yX12_weekday wsX12_weekday) := goodIn_app (goodIn_of _ (by decide +kernel)) ggX12_setDate_X12_weekday
theorem dX12_setDate_0 : decode cX12_setDate 0 = .ok (.aload_n 0, 1) := by decide +kernel
theorem dX12_setDate_1 : decode cX12_setDate 1 = .ok (.iload_n 1, 1) := by decide +kernel
theorem dX12_setDate_2 : decode cX12_setDate 2 = .ok (.iconst 1, 1) := by decide +kernel
theorem dX12_setDate_3 : decode cX12_setDate 3 = .ok (.sipush 9990, 3) := by decide +kernel
theorem dX12_setDate_6 : decode cX12_setDate 6 = .ok (.invokestatic 47, 3) := by decide +kernel
theorem dX12_setDate_9 : decode cX12_setDate 9 = .ok (.ifCond .eq 30, 3) := by decide +kernel
theorem dX12_setDate_12 : decode cX12_setDate 12 = .ok (.iload_n 2, 1) := by decide +kernel
theorem dX12_setDate_13 : decode cX12_setDate 13 = .ok (.iconst 1, 1) := by decide +kernel
theorem dX12_setDate_14 : decode cX12_setDate 14 = .ok (.bipush 12, 2) := by decide +kernel
theorem dX12_setDate_16 : decode cX12_setDate 16 = .ok (.invokestatic 47, 3) := by decide +kernel
theorem dX12_setDate_19 : decode cX12_setDate 19 = .ok (.ifCond .eq 20, 3) := by decide +kernel
theorem dX12_setDate_22 : decode cX12_setDate 22 = .ok (.iload_n 3, 1) := by decide +kernel
theorem dX12_setDate_23 : decode cX12_setDate 23 = .ok (.iconst 1, 1) := by decide +kernel
theorem dX12_setDate_24 : decode cX12_setDate 24 = .ok (.iload_n 1, 1) := by decide +kernel
theorem dX12_setDate_25 : decode cX12_setDate 25 = .ok (.iload_n 2, 1) := by decide +kernel
theorem dX12_setDate_26 : decode cX12_setDate 26 = .ok (.invokestatic 75, 3) := by decide +kernel
theorem dX12_setDate_29 : decode cX12_setDate 29 = .ok (.invokestatic 47, 3) := by decide +kernel
theorem dX12_setDate_32 : decode cX12_setDate 32 = .ok (.ifCond .eq 7, 3) := by decide +kernel
theorem dX12_setDate_35 : decode cX12_setDate 35 = .ok (.iconst 1, 1) := by decide +kernel
theorem dX12_setDate_36 : decode cX12_setDate 36 = .ok (.goto 4, 3) := by decide +kernel
theorem dX12_setDate_39 : decode cX12_setDate 39 = .ok (.iconst 0, 1) := by decide +kernel
theorem dX12_setDate_40 : decode cX12_setDate 40 = .ok (.invokevirtual 78, 3) := by decide +kernel
theorem dX12_setDate_43 : decode cX12_setDate 43 = .ok (.ifCond .eq 5, 3) := by decide +kernel
theorem dX12_setDate_46 : decode cX12_setDate 46 = .ok (.iconst 0, 1) := by decide +kernel
theorem dX12_setDate_47 : decode cX12_setDate 47 = .ok (.ireturn, 1) := by decide +kernel
theorem dX12_setDate_48 : decode cX12_setDate 48 = .ok (.aload_n 0, 1) := by decide +kernel
theorem dX12_setDate_49 : decode cX12_setDate 49 = .ok (.invokevirtual 68, 3) := by decide +kernel
theorem dX12_setDate_52 : decode cX12_setDate 52 = .ok (.aload_n 0, 1) := by decide +kernel
theorem dX12_setDate_53 : decode cX12_setDate 53 = .ok (.getfield 9, 3) := by decide +kernel
theorem dX12_setDate_56 : decode cX12_setDate 56 = .ok (.iconst 0, 1) := by decide +kernel
theorem dX12_setDate_57 : decode cX12_setDate 57 = .ok (.iload_n 1, 1) := by decide +kernel
theorem dX12_setDate_58 : decode cX12_setDate 58 = .ok (.iastore, 1) := by decide +kernel
theorem dX12_setDate_59 : decode cX12_setDate 59 = .ok (.aload_n 0, 1) := by decide +kernel
theorem dX12_setDate_60 : decode cX12_setDate 60 = .ok (.getfield 9, 3) := by decide +kernel
theorem dX12_setDate_63 : decode cX12_setDate 63 = .ok (.iconst 1, 1) := by decide +kernel
theorem dX12_setDate_64 : decode cX12_setDate 64 = .ok (.iload_n 2, 1) := by decide +kernel
theorem dX12_setDate_65 : decode cX12_setDate 65 = .ok (.iastore, 1) := by decide +kernel
theorem dX12_setDate_66 : decode cX12_setDate 66 = .ok (.aload_n 0, 1) := by decide +kernel
theorem dX12_setDate_67 : decode cX12_setDate 67 = .ok (.getfield 9, 3) := by decide +kernel
theorem dX12_setDate_70 : decode cX12_setDate 70 = .ok (.iconst 2, 1) := by decide +kernel
theorem dX12_setDate_71 : decode cX12_setDate 71 = .ok (.iload_n 3, 1) := by decide +kernel
theorem dX12_setDate_72 : decode cX12_setDate 72 = .ok (.iastore, 1) := by decide +kernel
theorem dX12_setDate_73 : decode cX12_setDate 73 = .ok (.iload_n 1, 1) := by decide +kernel
theorem dX12_setDate_74 : decode cX12_setDate 74 = .ok (.iload_n 2, 1) := by decide +kernel
theorem dX12_setDate_75 : decode cX12_setDate 75 = .ok (.iload_n 3, 1) := by decide +kernel
theorem dX12_setDate_76 : decode cX12_setDate 76 = .ok (.invokestatic 82, 3) := by decide +kernel
theorem dX12_setDate_79 : decode cX12_setDate 79 = .ok (.ireturn, 1) := by decide +kernel
set_option maxRecDepth 20000 in
theorem ggX12_dateAt_X12_in : GoodIn wsX12_dateAt wsX12_in := goodIn_r _ [5] (by decide +kernel) (by decide +kernel)
set_option maxRecDepth 20000 in
theorem gX12_dateAt_X12_in : GoodIn wsX12_dateAt (va_wsS RX12 47 yX12_in wsX12_in) := goodIn_app (goodIn_of _ (by decide +kernel)) ggX12_dateAt_X12_in
set_option maxRecDepth 20000 in
theorem ggX12_dateAt_X12_lacks : GoodIn wsX12_dateAt wsX12_lacks := goodIn_r _ [9, 10, 11, 12, 13, 4, 14, 24, 25, 26, 27, 28, 29, 30, 31, 32, 33, 34, 35, 36, 37, 38, 39] (by decide +kernel) (by decide +kernel)
set_option maxRecDepth 20000 in
theorem gX12_dateAt_X12_lacks : GoodIn wsX12_dateAt (wsV RX12 78 RX12 yX12_lacks wsX12_lacks) := goodIn_app (goodIn_of _ (by decide +kernel)) ggX12_dateAt_X12_lacks
set_option maxRecDepth 20000 in
theorem ggX12_dateAt_X12_daysOf : GoodIn wsX12_dateAt wsX12_daysOf := goodIn_r _ [17, 18, 19, 4, 20] (by decide +kernel) (by decide +kernel)
set_option maxRecDepth 20000 in
theorem gX12_dateAt_X12_daysOf : GoodIn wsX12_dateAt (va_wsS RX12 75 yX12_daysOf wsX12_daysOf) := goodIn_app (goodIn_of _ (by decide +kernel)) ggX12_dateAt_X12_daysOf
set_option maxRecDepth 20000 in
theorem ggX12_dateAt_X12_weekday : GoodIn wsX12_dateAt wsX12_weekday := goodIn_r _ [23, 15, 16, 4, 17, 18, 19, 20] (by decide +kernel) (by decide +kernel)
set_option maxRecDepth 20000 in
theorem gX12_dateAt_X12_weekday : GoodIn wsX12_dateAt (va_wsS RX12 82 yX12_weekday wsX12_weekday) := goodIn_app (goodIn_of _ (by decide +kernel)) ggX12_dateAt_X12_weekday
theorem dX12_dateAt_0 : decode cX12_dateAt 0 = .ok (.aload_n 0, 1) := by decide +kernel
theorem dX12_dateAt_1 : decode cX12_dateAt 1 = .ok (.iload_n 1, 1) := by decide +kernel
theorem dX12_dateAt_2 : decode cX12_dateAt 2 = .ok (.iconst 0, 1) := by decide +kernel
theorem dX12_dateAt_3 : decode cX12_dateAt 3 = .ok (.sipush 5759, 3) := by decide +kernel
theorem dX12_dateAt_6 : decode cX12_dateAt 6 = .ok (.invokestatic 47, 3) := by decide +kernel
theorem dX12_dateAt_9 : decode cX12_dateAt 9 = .ok (.ifCond .eq 16, 3) := by decide +kernel
theorem dX12_dateAt_12 : decode cX12_dateAt 12 = .ok (.iload_n 2, 1) := by decide +kernel
theorem dX12_dateAt_13 : decode cX12_dateAt 13 = .ok (.iconst 0, 1) := by decide +kernel
theorem dX12_dateAt_14 : decode cX12_dateAt 14 = .ok (.iconst 5, 1) := by decide +kernel
theorem dX12_dateAt_15 : decode cX12_dateAt 15 = .ok (.invokestatic 47, 3) := by decide +kernel
theorem dX12_dateAt_18 : decode cX12_dateAt 18 = .ok (.ifCond .eq 7, 3) := by decide +kernel
theorem dX12_dateAt_21 : decode cX12_dateAt 21 = .ok (.iconst 1, 1) := by decide +kernel
theorem dX12_dateAt_22 : decode cX12_dateAt 22 = .ok (.goto 4, 3) := by decide +kernel
theorem dX12_dateAt_25 : decode cX12_dateAt 25 = .ok (.iconst 0, 1) := by decide +kernel
theorem dX12_dateAt_26 : decode cX12_dateAt 26 = .ok (.invokevirtual 78, 3) := by decide +kernel
theorem dX12_dateAt_29 : decode cX12_dateAt 29 = .ok (.ifCond .eq 5, 3) := by decide +kernel
theorem dX12_dateAt_32 : decode cX12_dateAt 32 = .ok (.iconst 0, 1) := by decide +kernel
theorem dX12_dateAt_33 : decode cX12_dateAt 33 = .ok (.ireturn, 1) := by decide +kernel
theorem dX12_dateAt_34 : decode cX12_dateAt 34 = .ok (.aload_n 0, 1) := by decide +kernel
theorem dX12_dateAt_35 : decode cX12_dateAt 35 = .ok (.getfield 9, 3) := by decide +kernel
theorem dX12_dateAt_38 : decode cX12_dateAt 38 = .ok (.iconst 0, 1) := by decide +kernel
theorem dX12_dateAt_39 : decode cX12_dateAt 39 = .ok (.iaload, 1) := by decide +kernel
theorem dX12_dateAt_40 : decode cX12_dateAt 40 = .ok (.istore_n 3, 1) := by decide +kernel
theorem dX12_dateAt_41 : decode cX12_dateAt 41 = .ok (.aload_n 0, 1) := by decide +kernel
theorem dX12_dateAt_42 : decode cX12_dateAt 42 = .ok (.getfield 9, 3) := by decide +kernel
theorem dX12_dateAt_45 : decode cX12_dateAt 45 = .ok (.iconst 1, 1) := by decide +kernel
theorem dX12_dateAt_46 : decode cX12_dateAt 46 = .ok (.iaload, 1) := by decide +kernel
theorem dX12_dateAt_47 : decode cX12_dateAt 47 = .ok (.istore 4, 2) := by decide +kernel
theorem dX12_dateAt_49 : decode cX12_dateAt 49 = .ok (.aload_n 0, 1) := by decide +kernel
theorem dX12_dateAt_50 : decode cX12_dateAt 50 = .ok (.getfield 9, 3) := by decide +kernel
theorem dX12_dateAt_53 : decode cX12_dateAt 53 = .ok (.iconst 2, 1) := by decide +kernel
theorem dX12_dateAt_54 : decode cX12_dateAt 54 = .ok (.iaload, 1) := by decide +kernel
theorem dX12_dateAt_55 : decode cX12_dateAt 55 = .ok (.istore 5, 2) := by decide +kernel
theorem dX12_dateAt_57 : decode cX12_dateAt 57 = .ok (.iload_n 1, 1) := by decide +kernel
theorem dX12_dateAt_58 : decode cX12_dateAt 58 = .ok (.sipush 1440, 3) := by decide +kernel
theorem dX12_dateAt_61 : decode cX12_dateAt 61 = .ok (.idiv, 1) := by decide +kernel
theorem dX12_dateAt_62 : decode cX12_dateAt 62 = .ok (.istore 6, 2) := by decide +kernel
theorem dX12_dateAt_64 : decode cX12_dateAt 64 = .ok (.iload 6, 2) := by decide +kernel
theorem dX12_dateAt_66 : decode cX12_dateAt 66 = .ok (.ifCond .le 48, 3) := by decide +kernel
theorem dX12_dateAt_69 : decode cX12_dateAt 69 = .ok (.iinc 5 1, 3) := by decide +kernel
theorem dX12_dateAt_72 : decode cX12_dateAt 72 = .ok (.iload 5, 2) := by decide +kernel
theorem dX12_dateAt_74 : decode cX12_dateAt 74 = .ok (.iload_n 3, 1) := by decide +kernel
theorem dX12_dateAt_75 : decode cX12_dateAt 75 = .ok (.iload 4, 2) := by decide +kernel
theorem dX12_dateAt_77 : decode cX12_dateAt 77 = .ok (.invokestatic 75, 3) := by decide +kernel
theorem dX12_dateAt_80 : decode cX12_dateAt 80 = .ok (.if_icmp .gt 6, 3) := by decide +kernel
theorem dX12_dateAt_83 : decode cX12_dateAt 83 = .ok (.goto 25, 3) := by decide +kernel
theorem dX12_dateAt_86 : decode cX12_dateAt 86 = .ok (.iconst 1, 1) := by decide +kernel
theorem dX12_dateAt_87 : decode cX12_dateAt 87 = .ok (.istore 5, 2) := by decide +kernel
theorem dX12_dateAt_89 : decode cX12_dateAt 89 = .ok (.iinc 4 1, 3) := by decide +kernel
theorem dX12_dateAt_92 : decode cX12_dateAt 92 = .ok (.iload 4, 2) := by decide +kernel
theorem dX12_dateAt_94 : decode cX12_dateAt 94 = .ok (.bipush 12, 2) := by decide +kernel
theorem dX12_dateAt_96 : decode cX12_dateAt 96 = .ok (.if_icmp .gt 6, 3) := by decide +kernel
theorem dX12_dateAt_99 : decode cX12_dateAt 99 = .ok (.goto 9, 3) := by decide +kernel
theorem dX12_dateAt_102 : decode cX12_dateAt 102 = .ok (.iconst 1, 1) := by decide +kernel
theorem dX12_dateAt_103 : decode cX12_dateAt 103 = .ok (.istore 4, 2) := by decide +kernel
theorem dX12_dateAt_105 : decode cX12_dateAt 105 = .ok (.iinc 3 1, 3) := by decide +kernel
theorem dX12_dateAt_108 : decode cX12_dateAt 108 = .ok (.iinc 6 (-1), 3) := by decide +kernel
theorem dX12_dateAt_111 : decode cX12_dateAt 111 = .ok (.goto (-47), 3) := by decide +kernel
theorem dX12_dateAt_114 : decode cX12_dateAt 114 = .ok (.iload_n 2, 1) := by decide +kernel
theorem dX12_dateAt_115 : decode cX12_dateAt 115 = .ok (.tableswitch 59 0 4 #[33, 35, 38, 41, 50], 33) := by decide +kernel
theorem dX12_dateAt_148 : decode cX12_dateAt 148 = .ok (.iload_n 3, 1) := by decide +kernel
theorem dX12_dateAt_149 : decode cX12_dateAt 149 = .ok (.ireturn, 1) := by decide +kernel
theorem dX12_dateAt_150 : decode cX12_dateAt 150 = .ok (.iload 4, 2) := by decide +kernel
theorem dX12_dateAt_152 : decode cX12_dateAt 152 = .ok (.ireturn, 1) := by decide +kernel
theorem dX12_dateAt_153 : decode cX12_dateAt 153 = .ok (.iload 5, 2) := by decide +kernel
theorem dX12_dateAt_155 : decode cX12_dateAt 155 = .ok (.ireturn, 1) := by decide +kernel
theorem dX12_dateAt_156 : decode cX12_dateAt 156 = .ok (.iload_n 3, 1) := by decide +kernel
theorem dX12_dateAt_157 : decode cX12_dateAt 157 = .ok (.iload 4, 2) := by decide +kernel
theorem dX12_dateAt_159 : decode cX12_dateAt 159 = .ok (.iload 5, 2) := by decide +kernel
theorem dX12_dateAt_161 : decode cX12_dateAt 161 = .ok (.invokestatic 82, 3) := by decide +kernel
theorem dX12_dateAt_164 : decode cX12_dateAt 164 = .ok (.ireturn, 1) := by decide +kernel
theorem dX12_dateAt_165 : decode cX12_dateAt 165 = .ok (.iload_n 1, 1) := by decide +kernel
theorem dX12_dateAt_166 : decode cX12_dateAt 166 = .ok (.sipush 1440, 3) := by decide +kernel
theorem dX12_dateAt_169 : decode cX12_dateAt 169 = .ok (.irem, 1) := by decide +kernel
theorem dX12_dateAt_170 : decode cX12_dateAt 170 = .ok (.bipush 60, 2) := by decide +kernel
theorem dX12_dateAt_172 : decode cX12_dateAt 172 = .ok (.idiv, 1) := by decide +kernel
theorem dX12_dateAt_173 : decode cX12_dateAt 173 = .ok (.ireturn, 1) := by decide +kernel
theorem dX12_dateAt_174 : decode cX12_dateAt 174 = .ok (.iload_n 1, 1) := by decide +kernel
theorem dX12_dateAt_175 : decode cX12_dateAt 175 = .ok (.bipush 60, 2) := by decide +kernel
theorem dX12_dateAt_177 : decode cX12_dateAt 177 = .ok (.irem, 1) := by decide +kernel
theorem dX12_dateAt_178 : decode cX12_dateAt 178 = .ok (.ireturn, 1) := by decide +kernel
set_option maxRecDepth 20000 in
theorem ggX12_setOpen_X12_isStage : GoodIn wsX12_setOpen wsX12_isStage := goodIn_r _ [4, 5, 6, 3, 7] (by decide +kernel) (by decide +kernel)
set_option maxRecDepth 20000 in
theorem gX12_setOpen_X12_isStage : GoodIn wsX12_setOpen (va_wsS RX12 86 yX12_isStage wsX12_isStage) := goodIn_app (goodIn_of _ (by decide +kernel)) ggX12_setOpen_X12_isStage
set_option maxRecDepth 20000 in
theorem ggX12_setOpen_X12_lacks : GoodIn wsX12_setOpen wsX12_lacks := goodIn_r _ [11, 12, 13, 14, 15, 3, 16, 33, 34, 35, 36, 37, 38, 39, 40, 41, 42, 43, 44, 45, 46, 47, 48] (by decide +kernel) (by decide +kernel)
set_option maxRecDepth 20000 in
theorem gX12_setOpen_X12_lacks : GoodIn wsX12_setOpen (wsV RX12 78 RX12 yX12_lacks wsX12_lacks) := goodIn_app (goodIn_of _ (by decide +kernel)) ggX12_setOpen_X12_lacks
set_option maxRecDepth 20000 in
theorem ggX12_setOpen_X12_sets : GoodIn wsX12_setOpen wsX12_sets := goodIn_r _ [20, 21, 22, 23, 24, 3, 25, 26, 27, 28, 29, 30, 31, 32, 33, 34, 35, 36, 37, 38, 39, 40, 41, 42, 43, 44, 45, 46, 47, 48] (by decide +kernel) (by decide +kernel)
set_option maxRecDepth 20000 in
theorem gX12_setOpen_X12_sets : GoodIn wsX12_setOpen (wsV RX12 89 RX12 yX12_sets wsX12_sets) := goodIn_app (goodIn_of _ (by decide +kernel)) ggX12_setOpen_X12_sets
theorem dX12_setOpen_0 : decode cX12_setOpen 0 = .ok (.aload_n 0, 1) := by decide +kernel
theorem dX12_setOpen_1 : decode cX12_setOpen 1 = .ok (.iload_n 1, 1) := by decide +kernel
theorem dX12_setOpen_2 : decode cX12_setOpen 2 = .ok (.invokestatic 86, 3) := by decide +kernel
theorem dX12_setOpen_5 : decode cX12_setOpen 5 = .ok (.invokevirtual 78, 3) := by decide +kernel
theorem dX12_setOpen_8 : decode cX12_setOpen 8 = .ok (.ifCond .ne 27, 3) := by decide +kernel
theorem dX12_setOpen_11 : decode cX12_setOpen 11 = .ok (.aload_n 0, 1) := by decide +kernel
theorem dX12_setOpen_12 : decode cX12_setOpen 12 = .ok (.iconst 3, 1) := by decide +kernel
theorem dX12_setOpen_13 : decode cX12_setOpen 13 = .ok (.iload_n 1, 1) := by decide +kernel
theorem dX12_setOpen_14 : decode cX12_setOpen 14 = .ok (.iadd, 1) := by decide +kernel
theorem dX12_setOpen_15 : decode cX12_setOpen 15 = .ok (.iload_n 2, 1) := by decide +kernel
theorem dX12_setOpen_16 : decode cX12_setOpen 16 = .ok (.ifCond .eq 7, 3) := by decide +kernel
theorem dX12_setOpen_19 : decode cX12_setOpen 19 = .ok (.iconst 1, 1) := by decide +kernel
theorem dX12_setOpen_20 : decode cX12_setOpen 20 = .ok (.goto 4, 3) := by decide +kernel
theorem dX12_setOpen_23 : decode cX12_setOpen 23 = .ok (.iconst 0, 1) := by decide +kernel
theorem dX12_setOpen_24 : decode cX12_setOpen 24 = .ok (.invokevirtual 89, 3) := by decide +kernel
theorem dX12_setOpen_27 : decode cX12_setOpen 27 = .ok (.iconst 1, 1) := by decide +kernel
theorem dX12_setOpen_28 : decode cX12_setOpen 28 = .ok (.if_icmp .ne 7, 3) := by decide +kernel
theorem dX12_setOpen_31 : decode cX12_setOpen 31 = .ok (.iconst 1, 1) := by decide +kernel
theorem dX12_setOpen_32 : decode cX12_setOpen 32 = .ok (.goto 4, 3) := by decide +kernel
theorem dX12_setOpen_35 : decode cX12_setOpen 35 = .ok (.iconst 0, 1) := by decide +kernel
theorem dX12_setOpen_36 : decode cX12_setOpen 36 = .ok (.ireturn, 1) := by decide +kernel
theorem dX12_walkOf_0 : decode cX12_walkOf 0 = .ok (.iload_n 1, 1) := by decide +kernel
theorem dX12_walkOf_1 : decode cX12_walkOf 1 = .ok (.iload_n 2, 1) := by decide +kernel
theorem dX12_walkOf_2 : decode cX12_walkOf 2 = .ok (.if_icmp .ne 7, 3) := by decide +kernel
theorem dX12_walkOf_5 : decode cX12_walkOf 5 = .ok (.iconst 0, 1) := by decide +kernel
theorem dX12_walkOf_6 : decode cX12_walkOf 6 = .ok (.goto 16, 3) := by decide +kernel
theorem dX12_walkOf_9 : decode cX12_walkOf 9 = .ok (.aload_n 0, 1) := by decide +kernel
theorem dX12_walkOf_10 : decode cX12_walkOf 10 = .ok (.getfield 9, 3) := by decide +kernel
theorem dX12_walkOf_13 : decode cX12_walkOf 13 = .ok (.bipush 7, 2) := by decide +kernel
theorem dX12_walkOf_15 : decode cX12_walkOf 15 = .ok (.iconst 4, 1) := by decide +kernel
theorem dX12_walkOf_16 : decode cX12_walkOf 16 = .ok (.iload_n 1, 1) := by decide +kernel
theorem dX12_walkOf_17 : decode cX12_walkOf 17 = .ok (.imul, 1) := by decide +kernel
theorem dX12_walkOf_18 : decode cX12_walkOf 18 = .ok (.iadd, 1) := by decide +kernel
theorem dX12_walkOf_19 : decode cX12_walkOf 19 = .ok (.iload_n 2, 1) := by decide +kernel
theorem dX12_walkOf_20 : decode cX12_walkOf 20 = .ok (.iadd, 1) := by decide +kernel
theorem dX12_walkOf_21 : decode cX12_walkOf 21 = .ok (.iaload, 1) := by decide +kernel
theorem dX12_walkOf_22 : decode cX12_walkOf 22 = .ok (.istore_n 3, 1) := by decide +kernel
theorem dX12_walkOf_23 : decode cX12_walkOf 23 = .ok (.iconst 0, 1) := by decide +kernel
theorem dX12_walkOf_24 : decode cX12_walkOf 24 = .ok (.istore 4, 2) := by decide +kernel
theorem dX12_walkOf_26 : decode cX12_walkOf 26 = .ok (.iload 4, 2) := by decide +kernel
theorem dX12_walkOf_28 : decode cX12_walkOf 28 = .ok (.iconst 4, 1) := by decide +kernel
theorem dX12_walkOf_29 : decode cX12_walkOf 29 = .ok (.if_icmp .ge 79, 3) := by decide +kernel
theorem dX12_walkOf_32 : decode cX12_walkOf 32 = .ok (.iconst 0, 1) := by decide +kernel
theorem dX12_walkOf_33 : decode cX12_walkOf 33 = .ok (.istore 5, 2) := by decide +kernel
theorem dX12_walkOf_35 : decode cX12_walkOf 35 = .ok (.iload 5, 2) := by decide +kernel
theorem dX12_walkOf_37 : decode cX12_walkOf 37 = .ok (.iconst 4, 1) := by decide +kernel
theorem dX12_walkOf_38 : decode cX12_walkOf 38 = .ok (.if_icmp .ge 64, 3) := by decide +kernel
theorem dX12_walkOf_41 : decode cX12_walkOf 41 = .ok (.iload_n 1, 1) := by decide +kernel
theorem dX12_walkOf_42 : decode cX12_walkOf 42 = .ok (.iload_n 2, 1) := by decide +kernel
theorem dX12_walkOf_43 : decode cX12_walkOf 43 = .ok (.if_icmp .eq 53, 3) := by decide +kernel
theorem dX12_walkOf_46 : decode cX12_walkOf 46 = .ok (.iload_n 3, 1) := by decide +kernel
theorem dX12_walkOf_47 : decode cX12_walkOf 47 = .ok (.aload_n 0, 1) := by decide +kernel
theorem dX12_walkOf_48 : decode cX12_walkOf 48 = .ok (.getfield 9, 3) := by decide +kernel
theorem dX12_walkOf_51 : decode cX12_walkOf 51 = .ok (.bipush 7, 2) := by decide +kernel
theorem dX12_walkOf_53 : decode cX12_walkOf 53 = .ok (.iconst 4, 1) := by decide +kernel
theorem dX12_walkOf_54 : decode cX12_walkOf 54 = .ok (.iload_n 1, 1) := by decide +kernel
theorem dX12_walkOf_55 : decode cX12_walkOf 55 = .ok (.imul, 1) := by decide +kernel
theorem dX12_walkOf_56 : decode cX12_walkOf 56 = .ok (.iadd, 1) := by decide +kernel
theorem dX12_walkOf_57 : decode cX12_walkOf 57 = .ok (.iload 4, 2) := by decide +kernel
theorem dX12_walkOf_59 : decode cX12_walkOf 59 = .ok (.iadd, 1) := by decide +kernel
theorem dX12_walkOf_60 : decode cX12_walkOf 60 = .ok (.iaload, 1) := by decide +kernel
theorem dX12_walkOf_61 : decode cX12_walkOf 61 = .ok (.aload_n 0, 1) := by decide +kernel
theorem dX12_walkOf_62 : decode cX12_walkOf 62 = .ok (.getfield 9, 3) := by decide +kernel
theorem dX12_walkOf_65 : decode cX12_walkOf 65 = .ok (.bipush 7, 2) := by decide +kernel
theorem dX12_walkOf_67 : decode cX12_walkOf 67 = .ok (.iconst 4, 1) := by decide +kernel
theorem dX12_walkOf_68 : decode cX12_walkOf 68 = .ok (.iload 4, 2) := by decide +kernel
theorem dX12_walkOf_70 : decode cX12_walkOf 70 = .ok (.imul, 1) := by decide +kernel
theorem dX12_walkOf_71 : decode cX12_walkOf 71 = .ok (.iadd, 1) := by decide +kernel
theorem dX12_walkOf_72 : decode cX12_walkOf 72 = .ok (.iload 5, 2) := by decide +kernel
theorem dX12_walkOf_74 : decode cX12_walkOf 74 = .ok (.iadd, 1) := by decide +kernel
theorem dX12_walkOf_75 : decode cX12_walkOf 75 = .ok (.iaload, 1) := by decide +kernel
theorem dX12_walkOf_76 : decode cX12_walkOf 76 = .ok (.iadd, 1) := by decide +kernel
theorem dX12_walkOf_77 : decode cX12_walkOf 77 = .ok (.aload_n 0, 1) := by decide +kernel
theorem dX12_walkOf_78 : decode cX12_walkOf 78 = .ok (.getfield 9, 3) := by decide +kernel
theorem dX12_walkOf_81 : decode cX12_walkOf 81 = .ok (.bipush 7, 2) := by decide +kernel
theorem dX12_walkOf_83 : decode cX12_walkOf 83 = .ok (.iconst 4, 1) := by decide +kernel
theorem dX12_walkOf_84 : decode cX12_walkOf 84 = .ok (.iload 5, 2) := by decide +kernel
theorem dX12_walkOf_86 : decode cX12_walkOf 86 = .ok (.imul, 1) := by decide +kernel
theorem dX12_walkOf_87 : decode cX12_walkOf 87 = .ok (.iadd, 1) := by decide +kernel
theorem dX12_walkOf_88 : decode cX12_walkOf 88 = .ok (.iload_n 2, 1) := by decide +kernel
theorem dX12_walkOf_89 : decode cX12_walkOf 89 = .ok (.iadd, 1) := by decide +kernel
theorem dX12_walkOf_90 : decode cX12_walkOf 90 = .ok (.iaload, 1) := by decide +kernel
theorem dX12_walkOf_91 : decode cX12_walkOf 91 = .ok (.iadd, 1) := by decide +kernel
theorem dX12_walkOf_92 : decode cX12_walkOf 92 = .ok (.invokestatic 92, 3) := by decide +kernel
theorem dX12_walkOf_95 : decode cX12_walkOf 95 = .ok (.istore_n 3, 1) := by decide +kernel
theorem dX12_walkOf_96 : decode cX12_walkOf 96 = .ok (.iinc 5 1, 3) := by decide +kernel
theorem dX12_walkOf_99 : decode cX12_walkOf 99 = .ok (.goto (-64), 3) := by decide +kernel
theorem dX12_walkOf_102 : decode cX12_walkOf 102 = .ok (.iinc 4 1, 3) := by decide +kernel
theorem dX12_walkOf_105 : decode cX12_walkOf 105 = .ok (.goto (-79), 3) := by decide +kernel
theorem dX12_walkOf_108 : decode cX12_walkOf 108 = .ok (.iload_n 3, 1) := by decide +kernel
theorem dX12_walkOf_109 : decode cX12_walkOf 109 = .ok (.ireturn, 1) := by decide +kernel
set_option maxRecDepth 20000 in
theorem ggX12_setWay_X12_isStage : GoodIn wsX12_setWay wsX12_isStage := goodIn_r _ [5, 6, 7, 4, 8] (by decide +kernel) (by decide +kernel)
set_option maxRecDepth 20000 in
theorem gX12_setWay_X12_isStage : GoodIn wsX12_setWay (va_wsS RX12 86 yX12_isStage wsX12_isStage) := goodIn_app (goodIn_of _ (by decide +kernel)) ggX12_setWay_X12_isStage
set_option maxRecDepth 20000 in
theorem ggX12_setWay_X12_lacks : GoodIn wsX12_setWay wsX12_lacks := goodIn_r _ [12, 13, 14, 15, 16, 4, 17, 37, 38, 39, 40, 41, 42, 43, 44, 45, 46, 47, 48, 49, 50, 51, 52] (by decide +kernel) (by decide +kernel)
set_option maxRecDepth 20000 in
theorem gX12_setWay_X12_lacks : GoodIn wsX12_setWay (wsV RX12 78 RX12 yX12_lacks wsX12_lacks) := goodIn_app (goodIn_of _ (by decide +kernel)) ggX12_setWay_X12_lacks
set_option maxRecDepth 20000 in
theorem ggX12_setWay_X12_in : GoodIn wsX12_setWay wsX12_in := goodIn_r _ [8] (by decide +kernel) (by decide +kernel)
set_option maxRecDepth 20000 in
theorem gX12_setWay_X12_in : GoodIn wsX12_setWay (va_wsS RX12 47 yX12_in wsX12_in) := goodIn_app (goodIn_of _ (by decide +kernel)) ggX12_setWay_X12_in
set_option maxRecDepth 20000 in
theorem ggX12_setWay_X12_no : GoodIn wsX12_setWay wsX12_no := goodIn_r _ [17, 13, 37, 38, 39, 40, 41, 42, 43, 44, 45, 46, 47, 48, 49, 50, 51, 52] (by decide +kernel) (by decide +kernel)
set_option maxRecDepth 20000 in
theorem gX12_setWay_X12_no : GoodIn wsX12_setWay (wsV RX12 43 RX12 yX12_no wsX12_no) := goodIn_app (goodIn_of _ (by decide +kernel)) ggX12_setWay_X12_no
set_option maxRecDepth 20000 in
theorem ggX12_setWay_X12_keeps : GoodIn wsX12_setWay wsX12_keeps := goodIn_r _ [21, 22, 23, 1, 24, 25, 26, 27, 28, 37, 38, 39, 40, 41, 42, 43, 44, 45, 46, 47, 48, 49, 50, 51, 52] (by decide +kernel) (by decide +kernel)
set_option maxRecDepth 20000 in
theorem gX12_setWay_X12_keeps : GoodIn wsX12_setWay (wsV RX12 68 RX12 yX12_keeps wsX12_keeps) := goodIn_app (goodIn_of _ (by decide +kernel)) ggX12_setWay_X12_keeps
set_option maxRecDepth 20000 in
theorem ggX12_setWay_X12_walkOf : GoodIn wsX12_setWay wsX12_walkOf := goodIn_r _ [32, 1, 33, 34, 35, 36, 37, 38, 39, 40, 41, 42, 43, 44, 45, 46, 47, 48, 49, 50, 51, 52] (by decide +kernel) (by decide +kernel)
set_option maxRecDepth 20000 in
theorem gX12_setWay_X12_walkOf : GoodIn wsX12_setWay (wsV RX12 97 RX12 yX12_walkOf wsX12_walkOf) := goodIn_app (goodIn_of _ (by decide +kernel)) ggX12_setWay_X12_walkOf
theorem dX12_setWay_0 : decode cX12_setWay 0 = .ok (.aload_n 0, 1) := by decide +kernel
theorem dX12_setWay_1 : decode cX12_setWay 1 = .ok (.iload_n 1, 1) := by decide +kernel
theorem dX12_setWay_2 : decode cX12_setWay 2 = .ok (.invokestatic 86, 3) := by decide +kernel
theorem dX12_setWay_5 : decode cX12_setWay 5 = .ok (.ifCond .eq 14, 3) := by decide +kernel
theorem dX12_setWay_8 : decode cX12_setWay 8 = .ok (.iload_n 2, 1) := by decide +kernel
theorem dX12_setWay_9 : decode cX12_setWay 9 = .ok (.invokestatic 86, 3) := by decide +kernel
theorem dX12_setWay_12 : decode cX12_setWay 12 = .ok (.ifCond .eq 7, 3) := by decide +kernel
theorem dX12_setWay_15 : decode cX12_setWay 15 = .ok (.iconst 1, 1) := by decide +kernel
theorem dX12_setWay_16 : decode cX12_setWay 16 = .ok (.goto 4, 3) := by decide +kernel
theorem dX12_setWay_19 : decode cX12_setWay 19 = .ok (.iconst 0, 1) := by decide +kernel
theorem dX12_setWay_20 : decode cX12_setWay 20 = .ok (.invokevirtual 78, 3) := by decide +kernel
theorem dX12_setWay_23 : decode cX12_setWay 23 = .ok (.ifCond .ne 31, 3) := by decide +kernel
theorem dX12_setWay_26 : decode cX12_setWay 26 = .ok (.aload_n 0, 1) := by decide +kernel
theorem dX12_setWay_27 : decode cX12_setWay 27 = .ok (.iload_n 1, 1) := by decide +kernel
theorem dX12_setWay_28 : decode cX12_setWay 28 = .ok (.iload_n 2, 1) := by decide +kernel
theorem dX12_setWay_29 : decode cX12_setWay 29 = .ok (.if_icmp .eq 17, 3) := by decide +kernel
theorem dX12_setWay_32 : decode cX12_setWay 32 = .ok (.iload_n 3, 1) := by decide +kernel
theorem dX12_setWay_33 : decode cX12_setWay 33 = .ok (.iconst 1, 1) := by decide +kernel
theorem dX12_setWay_34 : decode cX12_setWay 34 = .ok (.bipush 60, 2) := by decide +kernel
theorem dX12_setWay_36 : decode cX12_setWay 36 = .ok (.invokestatic 47, 3) := by decide +kernel
theorem dX12_setWay_39 : decode cX12_setWay 39 = .ok (.ifCond .eq 7, 3) := by decide +kernel
theorem dX12_setWay_42 : decode cX12_setWay 42 = .ok (.iconst 1, 1) := by decide +kernel
theorem dX12_setWay_43 : decode cX12_setWay 43 = .ok (.goto 4, 3) := by decide +kernel
theorem dX12_setWay_46 : decode cX12_setWay 46 = .ok (.iconst 0, 1) := by decide +kernel
theorem dX12_setWay_47 : decode cX12_setWay 47 = .ok (.iconst 2, 1) := by decide +kernel
theorem dX12_setWay_48 : decode cX12_setWay 48 = .ok (.invokevirtual 43, 3) := by decide +kernel
theorem dX12_setWay_51 : decode cX12_setWay 51 = .ok (.ifCond .eq 5, 3) := by decide +kernel
theorem dX12_setWay_54 : decode cX12_setWay 54 = .ok (.iconst 0, 1) := by decide +kernel
theorem dX12_setWay_55 : decode cX12_setWay 55 = .ok (.ireturn, 1) := by decide +kernel
theorem dX12_setWay_56 : decode cX12_setWay 56 = .ok (.aload_n 0, 1) := by decide +kernel
theorem dX12_setWay_57 : decode cX12_setWay 57 = .ok (.invokevirtual 68, 3) := by decide +kernel
theorem dX12_setWay_60 : decode cX12_setWay 60 = .ok (.aload_n 0, 1) := by decide +kernel
theorem dX12_setWay_61 : decode cX12_setWay 61 = .ok (.getfield 9, 3) := by decide +kernel
theorem dX12_setWay_64 : decode cX12_setWay 64 = .ok (.bipush 7, 2) := by decide +kernel
theorem dX12_setWay_66 : decode cX12_setWay 66 = .ok (.iconst 4, 1) := by decide +kernel
theorem dX12_setWay_67 : decode cX12_setWay 67 = .ok (.iload_n 1, 1) := by decide +kernel
theorem dX12_setWay_68 : decode cX12_setWay 68 = .ok (.imul, 1) := by decide +kernel
theorem dX12_setWay_69 : decode cX12_setWay 69 = .ok (.iadd, 1) := by decide +kernel
theorem dX12_setWay_70 : decode cX12_setWay 70 = .ok (.iload_n 2, 1) := by decide +kernel
theorem dX12_setWay_71 : decode cX12_setWay 71 = .ok (.iadd, 1) := by decide +kernel
theorem dX12_setWay_72 : decode cX12_setWay 72 = .ok (.iload_n 3, 1) := by decide +kernel
theorem dX12_setWay_73 : decode cX12_setWay 73 = .ok (.iastore, 1) := by decide +kernel
theorem dX12_setWay_74 : decode cX12_setWay 74 = .ok (.aload_n 0, 1) := by decide +kernel
theorem dX12_setWay_75 : decode cX12_setWay 75 = .ok (.getfield 9, 3) := by decide +kernel
theorem dX12_setWay_78 : decode cX12_setWay 78 = .ok (.bipush 7, 2) := by decide +kernel
theorem dX12_setWay_80 : decode cX12_setWay 80 = .ok (.iconst 4, 1) := by decide +kernel
theorem dX12_setWay_81 : decode cX12_setWay 81 = .ok (.iload_n 2, 1) := by decide +kernel
theorem dX12_setWay_82 : decode cX12_setWay 82 = .ok (.imul, 1) := by decide +kernel
theorem dX12_setWay_83 : decode cX12_setWay 83 = .ok (.iadd, 1) := by decide +kernel
theorem dX12_setWay_84 : decode cX12_setWay 84 = .ok (.iload_n 1, 1) := by decide +kernel
theorem dX12_setWay_85 : decode cX12_setWay 85 = .ok (.iadd, 1) := by decide +kernel
theorem dX12_setWay_86 : decode cX12_setWay 86 = .ok (.iload_n 3, 1) := by decide +kernel
theorem dX12_setWay_87 : decode cX12_setWay 87 = .ok (.iastore, 1) := by decide +kernel
theorem dX12_setWay_88 : decode cX12_setWay 88 = .ok (.aload_n 0, 1) := by decide +kernel
theorem dX12_setWay_89 : decode cX12_setWay 89 = .ok (.iload_n 1, 1) := by decide +kernel
theorem dX12_setWay_90 : decode cX12_setWay 90 = .ok (.iload_n 2, 1) := by decide +kernel
theorem dX12_setWay_91 : decode cX12_setWay 91 = .ok (.invokevirtual 97, 3) := by decide +kernel
theorem dX12_setWay_94 : decode cX12_setWay 94 = .ok (.ireturn, 1) := by decide +kernel
set_option maxRecDepth 20000 in
theorem ggX12_walk_X12_isStage : GoodIn wsX12_walk wsX12_isStage := goodIn_r _ [4, 5, 6, 3, 7] (by decide +kernel) (by decide +kernel)
set_option maxRecDepth 20000 in
theorem gX12_walk_X12_isStage : GoodIn wsX12_walk (va_wsS RX12 86 yX12_isStage wsX12_isStage) := goodIn_app (goodIn_of _ (by decide +kernel)) ggX12_walk_X12_isStage
set_option maxRecDepth 20000 in
theorem ggX12_walk_X12_lacks : GoodIn wsX12_walk wsX12_lacks := goodIn_r _ [11, 12, 13, 14, 15, 3, 16, 26, 27, 28, 29, 30, 31, 32, 33, 34, 35, 36, 37, 38, 39, 40, 41] (by decide +kernel) (by decide +kernel)
set_option maxRecDepth 20000 in
theorem gX12_walk_X12_lacks : GoodIn wsX12_walk (wsV RX12 78 RX12 yX12_lacks wsX12_lacks) := goodIn_app (goodIn_of _ (by decide +kernel)) ggX12_walk_X12_lacks
set_option maxRecDepth 20000 in
theorem ggX12_walk_X12_walkOf : GoodIn wsX12_walk wsX12_walkOf := goodIn_r _ [20, 21, 22, 23, 24, 25, 26, 27, 28, 29, 30, 31, 32, 33, 34, 35, 36, 37, 38, 39, 40, 41] (by decide +kernel) (by decide +kernel)
set_option maxRecDepth 20000 in
theorem gX12_walk_X12_walkOf : GoodIn wsX12_walk (wsV RX12 97 RX12 yX12_walkOf wsX12_walkOf) := goodIn_app (goodIn_of _ (by decide +kernel)) ggX12_walk_X12_walkOf
theorem dX12_walk_0 : decode cX12_walk 0 = .ok (.aload_n 0, 1) := by decide +kernel
theorem dX12_walk_1 : decode cX12_walk 1 = .ok (.iload_n 1, 1) := by decide +kernel
theorem dX12_walk_2 : decode cX12_walk 2 = .ok (.invokestatic 86, 3) := by decide +kernel
theorem dX12_walk_5 : decode cX12_walk 5 = .ok (.ifCond .eq 14, 3) := by decide +kernel
theorem dX12_walk_8 : decode cX12_walk 8 = .ok (.iload_n 2, 1) := by decide +kernel
theorem dX12_walk_9 : decode cX12_walk 9 = .ok (.invokestatic 86, 3) := by decide +kernel
theorem dX12_walk_12 : decode cX12_walk 12 = .ok (.ifCond .eq 7, 3) := by decide +kernel
theorem dX12_walk_15 : decode cX12_walk 15 = .ok (.iconst 1, 1) := by decide +kernel
theorem dX12_walk_16 : decode cX12_walk 16 = .ok (.goto 4, 3) := by decide +kernel
theorem dX12_walk_19 : decode cX12_walk 19 = .ok (.iconst 0, 1) := by decide +kernel
theorem dX12_walk_20 : decode cX12_walk 20 = .ok (.invokevirtual 78, 3) := by decide +kernel
theorem dX12_walk_23 : decode cX12_walk 23 = .ok (.ifCond .eq 7, 3) := by decide +kernel
theorem dX12_walk_26 : decode cX12_walk 26 = .ok (.iconst 0, 1) := by decide +kernel
theorem dX12_walk_27 : decode cX12_walk 27 = .ok (.goto 9, 3) := by decide +kernel
theorem dX12_walk_30 : decode cX12_walk 30 = .ok (.aload_n 0, 1) := by decide +kernel
theorem dX12_walk_31 : decode cX12_walk 31 = .ok (.iload_n 1, 1) := by decide +kernel
theorem dX12_walk_32 : decode cX12_walk 32 = .ok (.iload_n 2, 1) := by decide +kernel
theorem dX12_walk_33 : decode cX12_walk 33 = .ok (.invokevirtual 97, 3) := by decide +kernel
theorem dX12_walk_36 : decode cX12_walk 36 = .ok (.ireturn, 1) := by decide +kernel
set_option maxRecDepth 20000 in
theorem ggX12_act_X12_isStage : GoodIn wsX12_act wsX12_isStage := goodIn_r _ [5, 6, 7, 4, 8] (by decide +kernel) (by decide +kernel)
set_option maxRecDepth 20000 in
theorem gX12_act_X12_isStage : GoodIn wsX12_act (va_wsS RX12 86 yX12_isStage wsX12_isStage) := goodIn_app (goodIn_of _ (by decide +kernel)) ggX12_act_X12_isStage
set_option maxRecDepth 20000 in
theorem ggX12_act_X12_lacks : GoodIn wsX12_act wsX12_lacks := goodIn_r _ [12, 13, 14, 15, 16, 4, 17, 33, 34, 35, 36, 37, 38, 39, 40, 41, 42, 43, 44, 45, 46, 47, 48] (by decide +kernel) (by decide +kernel)
set_option maxRecDepth 20000 in
theorem gX12_act_X12_lacks : GoodIn wsX12_act (wsV RX12 78 RX12 yX12_lacks wsX12_lacks) := goodIn_app (goodIn_of _ (by decide +kernel)) ggX12_act_X12_lacks
set_option maxRecDepth 20000 in
theorem ggX12_act_X12_in : GoodIn wsX12_act wsX12_in := goodIn_r _ [8] (by decide +kernel) (by decide +kernel)
set_option maxRecDepth 20000 in
theorem gX12_act_X12_in : GoodIn wsX12_act (va_wsS RX12 47 yX12_in wsX12_in) := goodIn_app (goodIn_of _ (by decide +kernel)) ggX12_act_X12_in
set_option maxRecDepth 20000 in
theorem ggX12_act_X12_no : GoodIn wsX12_act wsX12_no := goodIn_r _ [17, 13, 33, 34, 35, 36, 37, 38, 39, 40, 41, 42, 43, 44, 45, 46, 47, 48] (by decide +kernel) (by decide +kernel)
set_option maxRecDepth 20000 in
theorem gX12_act_X12_no : GoodIn wsX12_act (wsV RX12 43 RX12 yX12_no wsX12_no) := goodIn_app (goodIn_of _ (by decide +kernel)) ggX12_act_X12_no
set_option maxRecDepth 20000 in
theorem ggX12_act_X12_its : GoodIn wsX12_act wsX12_its := goodIn_r _ [21, 1, 33, 34, 35, 36, 37, 38, 39, 40, 41, 42, 43, 44, 45, 46, 47, 48] (by decide +kernel) (by decide +kernel)
set_option maxRecDepth 20000 in
theorem gX12_act_X12_its : GoodIn wsX12_act (wsV RX12 51 RX12 yX12_its wsX12_its) := goodIn_app (goodIn_of _ (by decide +kernel)) ggX12_act_X12_its
set_option maxRecDepth 20000 in
theorem ggX12_act_X12_keeps : GoodIn wsX12_act wsX12_keeps := goodIn_r _ [25, 26, 27, 1, 28, 29, 30, 31, 32, 33, 34, 35, 36, 37, 38, 39, 40, 41, 42, 43, 44, 45, 46, 47, 48] (by decide +kernel) (by decide +kernel)
set_option maxRecDepth 20000 in
theorem gX12_act_X12_keeps : GoodIn wsX12_act (wsV RX12 68 RX12 yX12_keeps wsX12_keeps) := goodIn_app (goodIn_of _ (by decide +kernel)) ggX12_act_X12_keeps
theorem dX12_act_0 : decode cX12_act 0 = .ok (.aload_n 0, 1) := by decide +kernel
theorem dX12_act_1 : decode cX12_act 1 = .ok (.iload_n 1, 1) := by decide +kernel
theorem dX12_act_2 : decode cX12_act 2 = .ok (.invokestatic 86, 3) := by decide +kernel
theorem dX12_act_5 : decode cX12_act 5 = .ok (.invokevirtual 78, 3) := by decide +kernel
theorem dX12_act_8 : decode cX12_act 8 = .ok (.ifCond .eq 5, 3) := by decide +kernel
theorem dX12_act_11 : decode cX12_act 11 = .ok (.iconst 0, 1) := by decide +kernel
theorem dX12_act_12 : decode cX12_act 12 = .ok (.ireturn, 1) := by decide +kernel
theorem dX12_act_13 : decode cX12_act 13 = .ok (.iload_n 2, 1) := by decide +kernel
theorem dX12_act_14 : decode cX12_act 14 = .ok (.iconst 0, 1) := by decide +kernel
theorem dX12_act_15 : decode cX12_act 15 = .ok (.sipush 5759, 3) := by decide +kernel
theorem dX12_act_18 : decode cX12_act 18 = .ok (.invokestatic 47, 3) := by decide +kernel
theorem dX12_act_21 : decode cX12_act 21 = .ok (.ifCond .eq 58, 3) := by decide +kernel
theorem dX12_act_24 : decode cX12_act 24 = .ok (.iload_n 3, 1) := by decide +kernel
theorem dX12_act_25 : decode cX12_act 25 = .ok (.bipush 10, 2) := by decide +kernel
theorem dX12_act_27 : decode cX12_act 27 = .ok (.sipush 240, 3) := by decide +kernel
theorem dX12_act_30 : decode cX12_act 30 = .ok (.invokestatic 47, 3) := by decide +kernel
theorem dX12_act_33 : decode cX12_act 33 = .ok (.ifCond .eq 46, 3) := by decide +kernel
theorem dX12_act_36 : decode cX12_act 36 = .ok (.iload 4, 2) := by decide +kernel
theorem dX12_act_38 : decode cX12_act 38 = .ok (.iconst 0, 1) := by decide +kernel
theorem dX12_act_39 : decode cX12_act 39 = .ok (.bipush 60, 2) := by decide +kernel
theorem dX12_act_41 : decode cX12_act 41 = .ok (.invokestatic 47, 3) := by decide +kernel
theorem dX12_act_44 : decode cX12_act 44 = .ok (.ifCond .eq 35, 3) := by decide +kernel
theorem dX12_act_47 : decode cX12_act 47 = .ok (.iload 5, 2) := by decide +kernel
theorem dX12_act_49 : decode cX12_act 49 = .ok (.iconst 1, 1) := by decide +kernel
theorem dX12_act_50 : decode cX12_act 50 = .ok (.sipush 4095, 3) := by decide +kernel
theorem dX12_act_53 : decode cX12_act 53 = .ok (.invokestatic 47, 3) := by decide +kernel
theorem dX12_act_56 : decode cX12_act 56 = .ok (.ifCond .eq 23, 3) := by decide +kernel
theorem dX12_act_59 : decode cX12_act 59 = .ok (.iload_n 2, 1) := by decide +kernel
theorem dX12_act_60 : decode cX12_act 60 = .ok (.iload 4, 2) := by decide +kernel
theorem dX12_act_62 : decode cX12_act 62 = .ok (.isub, 1) := by decide +kernel
theorem dX12_act_63 : decode cX12_act 63 = .ok (.ifCond .lt 16, 3) := by decide +kernel
theorem dX12_act_66 : decode cX12_act 66 = .ok (.iload_n 2, 1) := by decide +kernel
theorem dX12_act_67 : decode cX12_act 67 = .ok (.iload_n 3, 1) := by decide +kernel
theorem dX12_act_68 : decode cX12_act 68 = .ok (.iadd, 1) := by decide +kernel
theorem dX12_act_69 : decode cX12_act 69 = .ok (.sipush 5760, 3) := by decide +kernel
theorem dX12_act_72 : decode cX12_act 72 = .ok (.if_icmp .gt 7, 3) := by decide +kernel
theorem dX12_act_75 : decode cX12_act 75 = .ok (.iconst 1, 1) := by decide +kernel
theorem dX12_act_76 : decode cX12_act 76 = .ok (.goto 4, 3) := by decide +kernel
theorem dX12_act_79 : decode cX12_act 79 = .ok (.iconst 0, 1) := by decide +kernel
theorem dX12_act_80 : decode cX12_act 80 = .ok (.istore 6, 2) := by decide +kernel
theorem dX12_act_82 : decode cX12_act 82 = .ok (.aload_n 0, 1) := by decide +kernel
theorem dX12_act_83 : decode cX12_act 83 = .ok (.iload 6, 2) := by decide +kernel
theorem dX12_act_85 : decode cX12_act 85 = .ok (.iconst 2, 1) := by decide +kernel
theorem dX12_act_86 : decode cX12_act 86 = .ok (.invokevirtual 43, 3) := by decide +kernel
theorem dX12_act_89 : decode cX12_act 89 = .ok (.ifCond .eq 5, 3) := by decide +kernel
theorem dX12_act_92 : decode cX12_act 92 = .ok (.iconst 0, 1) := by decide +kernel
theorem dX12_act_93 : decode cX12_act 93 = .ok (.ireturn, 1) := by decide +kernel
theorem dX12_act_94 : decode cX12_act 94 = .ok (.iconst 0, 1) := by decide +kernel
theorem dX12_act_95 : decode cX12_act 95 = .ok (.istore 7, 2) := by decide +kernel
theorem dX12_act_97 : decode cX12_act 97 = .ok (.iload 7, 2) := by decide +kernel
theorem dX12_act_99 : decode cX12_act 99 = .ok (.bipush 16, 2) := by decide +kernel
theorem dX12_act_101 : decode cX12_act 101 = .ok (.if_icmp .ge 20, 3) := by decide +kernel
theorem dX12_act_104 : decode cX12_act 104 = .ok (.aload_n 0, 1) := by decide +kernel
theorem dX12_act_105 : decode cX12_act 105 = .ok (.iload 7, 2) := by decide +kernel
theorem dX12_act_107 : decode cX12_act 107 = .ok (.iconst 0, 1) := by decide +kernel
theorem dX12_act_108 : decode cX12_act 108 = .ok (.invokevirtual 51, 3) := by decide +kernel
theorem dX12_act_111 : decode cX12_act 111 = .ok (.iconst 1, 1) := by decide +kernel
theorem dX12_act_112 : decode cX12_act 112 = .ok (.if_icmp .ne 9, 3) := by decide +kernel
theorem dX12_act_115 : decode cX12_act 115 = .ok (.iinc 7 1, 3) := by decide +kernel
theorem dX12_act_118 : decode cX12_act 118 = .ok (.goto (-21), 3) := by decide +kernel
theorem dX12_act_121 : decode cX12_act 121 = .ok (.aload_n 0, 1) := by decide +kernel
theorem dX12_act_122 : decode cX12_act 122 = .ok (.iload 7, 2) := by decide +kernel
theorem dX12_act_124 : decode cX12_act 124 = .ok (.bipush 16, 2) := by decide +kernel
theorem dX12_act_126 : decode cX12_act 126 = .ok (.if_icmp .ge 7, 3) := by decide +kernel
theorem dX12_act_129 : decode cX12_act 129 = .ok (.iconst 1, 1) := by decide +kernel
theorem dX12_act_130 : decode cX12_act 130 = .ok (.goto 4, 3) := by decide +kernel
theorem dX12_act_133 : decode cX12_act 133 = .ok (.iconst 0, 1) := by decide +kernel
theorem dX12_act_134 : decode cX12_act 134 = .ok (.iconst 3, 1) := by decide +kernel
theorem dX12_act_135 : decode cX12_act 135 = .ok (.invokevirtual 43, 3) := by decide +kernel
theorem dX12_act_138 : decode cX12_act 138 = .ok (.ifCond .eq 5, 3) := by decide +kernel
theorem dX12_act_141 : decode cX12_act 141 = .ok (.iconst 0, 1) := by decide +kernel
theorem dX12_act_142 : decode cX12_act 142 = .ok (.ireturn, 1) := by decide +kernel
theorem dX12_act_143 : decode cX12_act 143 = .ok (.aload_n 0, 1) := by decide +kernel
theorem dX12_act_144 : decode cX12_act 144 = .ok (.invokevirtual 68, 3) := by decide +kernel
theorem dX12_act_147 : decode cX12_act 147 = .ok (.bipush 23, 2) := by decide +kernel
theorem dX12_act_149 : decode cX12_act 149 = .ok (.bipush 6, 2) := by decide +kernel
theorem dX12_act_151 : decode cX12_act 151 = .ok (.iload 7, 2) := by decide +kernel
theorem dX12_act_153 : decode cX12_act 153 = .ok (.imul, 1) := by decide +kernel
theorem dX12_act_154 : decode cX12_act 154 = .ok (.iadd, 1) := by decide +kernel
theorem dX12_act_155 : decode cX12_act 155 = .ok (.istore 8, 2) := by decide +kernel
theorem dX12_act_157 : decode cX12_act 157 = .ok (.aload_n 0, 1) := by decide +kernel
theorem dX12_act_158 : decode cX12_act 158 = .ok (.getfield 9, 3) := by decide +kernel
theorem dX12_act_161 : decode cX12_act 161 = .ok (.iload 8, 2) := by decide +kernel
theorem dX12_act_163 : decode cX12_act 163 = .ok (.iconst 1, 1) := by decide +kernel
theorem dX12_act_164 : decode cX12_act 164 = .ok (.iastore, 1) := by decide +kernel
theorem dX12_act_165 : decode cX12_act 165 = .ok (.aload_n 0, 1) := by decide +kernel
theorem dX12_act_166 : decode cX12_act 166 = .ok (.getfield 9, 3) := by decide +kernel
theorem dX12_act_169 : decode cX12_act 169 = .ok (.iload 8, 2) := by decide +kernel
theorem dX12_act_171 : decode cX12_act 171 = .ok (.iconst 1, 1) := by decide +kernel
theorem dX12_act_172 : decode cX12_act 172 = .ok (.iadd, 1) := by decide +kernel
theorem dX12_act_173 : decode cX12_act 173 = .ok (.iload_n 1, 1) := by decide +kernel
theorem dX12_act_174 : decode cX12_act 174 = .ok (.iastore, 1) := by decide +kernel
theorem dX12_act_175 : decode cX12_act 175 = .ok (.aload_n 0, 1) := by decide +kernel
theorem dX12_act_176 : decode cX12_act 176 = .ok (.getfield 9, 3) := by decide +kernel
theorem dX12_act_179 : decode cX12_act 179 = .ok (.iload 8, 2) := by decide +kernel
theorem dX12_act_181 : decode cX12_act 181 = .ok (.iconst 2, 1) := by decide +kernel
theorem dX12_act_182 : decode cX12_act 182 = .ok (.iadd, 1) := by decide +kernel
theorem dX12_act_183 : decode cX12_act 183 = .ok (.iload_n 2, 1) := by decide +kernel
theorem dX12_act_184 : decode cX12_act 184 = .ok (.iastore, 1) := by decide +kernel
theorem dX12_act_185 : decode cX12_act 185 = .ok (.aload_n 0, 1) := by decide +kernel
theorem dX12_act_186 : decode cX12_act 186 = .ok (.getfield 9, 3) := by decide +kernel
theorem dX12_act_189 : decode cX12_act 189 = .ok (.iload 8, 2) := by decide +kernel
theorem dX12_act_191 : decode cX12_act 191 = .ok (.iconst 3, 1) := by decide +kernel
theorem dX12_act_192 : decode cX12_act 192 = .ok (.iadd, 1) := by decide +kernel
theorem dX12_act_193 : decode cX12_act 193 = .ok (.iload_n 3, 1) := by decide +kernel
theorem dX12_act_194 : decode cX12_act 194 = .ok (.iastore, 1) := by decide +kernel
theorem dX12_act_195 : decode cX12_act 195 = .ok (.aload_n 0, 1) := by decide +kernel
theorem dX12_act_196 : decode cX12_act 196 = .ok (.getfield 9, 3) := by decide +kernel
theorem dX12_act_199 : decode cX12_act 199 = .ok (.iload 8, 2) := by decide +kernel
theorem dX12_act_201 : decode cX12_act 201 = .ok (.iconst 4, 1) := by decide +kernel
theorem dX12_act_202 : decode cX12_act 202 = .ok (.iadd, 1) := by decide +kernel
theorem dX12_act_203 : decode cX12_act 203 = .ok (.iload 4, 2) := by decide +kernel
theorem dX12_act_205 : decode cX12_act 205 = .ok (.iastore, 1) := by decide +kernel
theorem dX12_act_206 : decode cX12_act 206 = .ok (.aload_n 0, 1) := by decide +kernel
theorem dX12_act_207 : decode cX12_act 207 = .ok (.getfield 9, 3) := by decide +kernel
theorem dX12_act_210 : decode cX12_act 210 = .ok (.iload 8, 2) := by decide +kernel
theorem dX12_act_212 : decode cX12_act 212 = .ok (.iconst 5, 1) := by decide +kernel
theorem dX12_act_213 : decode cX12_act 213 = .ok (.iadd, 1) := by decide +kernel
theorem dX12_act_214 : decode cX12_act 214 = .ok (.iload 5, 2) := by decide +kernel
theorem dX12_act_216 : decode cX12_act 216 = .ok (.iastore, 1) := by decide +kernel
theorem dX12_act_217 : decode cX12_act 217 = .ok (.iconst 0, 1) := by decide +kernel
theorem dX12_act_218 : decode cX12_act 218 = .ok (.istore 9, 2) := by decide +kernel
theorem dX12_act_220 : decode cX12_act 220 = .ok (.iload 9, 2) := by decide +kernel
theorem dX12_act_222 : decode cX12_act 222 = .ok (.bipush 12, 2) := by decide +kernel
theorem dX12_act_224 : decode cX12_act 224 = .ok (.if_icmp .ge 26, 3) := by decide +kernel
theorem dX12_act_227 : decode cX12_act 227 = .ok (.aload_n 0, 1) := by decide +kernel
theorem dX12_act_228 : decode cX12_act 228 = .ok (.getfield 9, 3) := by decide +kernel
theorem dX12_act_231 : decode cX12_act 231 = .ok (.bipush 119, 2) := by decide +kernel
theorem dX12_act_233 : decode cX12_act 233 = .ok (.bipush 16, 2) := by decide +kernel
theorem dX12_act_235 : decode cX12_act 235 = .ok (.iload 9, 2) := by decide +kernel
theorem dX12_act_237 : decode cX12_act 237 = .ok (.imul, 1) := by decide +kernel
theorem dX12_act_238 : decode cX12_act 238 = .ok (.iadd, 1) := by decide +kernel
theorem dX12_act_239 : decode cX12_act 239 = .ok (.iload 7, 2) := by decide +kernel
theorem dX12_act_241 : decode cX12_act 241 = .ok (.iadd, 1) := by decide +kernel
theorem dX12_act_242 : decode cX12_act 242 = .ok (.iconst 0, 1) := by decide +kernel
theorem dX12_act_243 : decode cX12_act 243 = .ok (.iastore, 1) := by decide +kernel
theorem dX12_act_244 : decode cX12_act 244 = .ok (.iinc 9 1, 3) := by decide +kernel
theorem dX12_act_247 : decode cX12_act 247 = .ok (.goto (-27), 3) := by decide +kernel
theorem dX12_act_250 : decode cX12_act 250 = .ok (.iload 7, 2) := by decide +kernel
theorem dX12_act_252 : decode cX12_act 252 = .ok (.ireturn, 1) := by decide +kernel
theorem dX12_wishOf_0 : decode cX12_wishOf 0 = .ok (.aload_n 0, 1) := by decide +kernel
theorem dX12_wishOf_1 : decode cX12_wishOf 1 = .ok (.getfield 9, 3) := by decide +kernel
theorem dX12_wishOf_4 : decode cX12_wishOf 4 = .ok (.bipush 119, 2) := by decide +kernel
theorem dX12_wishOf_6 : decode cX12_wishOf 6 = .ok (.bipush 16, 2) := by decide +kernel
theorem dX12_wishOf_8 : decode cX12_wishOf 8 = .ok (.iload_n 1, 1) := by decide +kernel
theorem dX12_wishOf_9 : decode cX12_wishOf 9 = .ok (.imul, 1) := by decide +kernel
theorem dX12_wishOf_10 : decode cX12_wishOf 10 = .ok (.iadd, 1) := by decide +kernel
theorem dX12_wishOf_11 : decode cX12_wishOf 11 = .ok (.iload_n 2, 1) := by decide +kernel
theorem dX12_wishOf_12 : decode cX12_wishOf 12 = .ok (.iadd, 1) := by decide +kernel
theorem dX12_wishOf_13 : decode cX12_wishOf 13 = .ok (.iaload, 1) := by decide +kernel
theorem dX12_wishOf_14 : decode cX12_wishOf 14 = .ok (.ireturn, 1) := by decide +kernel
set_option maxRecDepth 20000 in
theorem ggX12_pleases_X12_wishOf : GoodIn wsX12_pleases wsX12_wishOf := goodIn_r _ [5, 6, 7, 8, 9, 10, 11, 12, 13, 14, 15, 16, 17, 18, 19, 20, 21, 22] (by decide +kernel) (by decide +kernel)
set_option maxRecDepth 20000 in
theorem gX12_pleases_X12_wishOf : GoodIn wsX12_pleases (wsV RX12 100 RX12 yX12_wishOf wsX12_wishOf) := goodIn_app (goodIn_of _ (by decide +kernel)) ggX12_pleases_X12_wishOf
theorem dX12_pleases_0 : decode cX12_pleases 0 = .ok (.iconst 0, 1) := by decide +kernel
theorem dX12_pleases_1 : decode cX12_pleases 1 = .ok (.istore_n 2, 1) := by decide +kernel
theorem dX12_pleases_2 : decode cX12_pleases 2 = .ok (.iconst 0, 1) := by decide +kernel
theorem dX12_pleases_3 : decode cX12_pleases 3 = .ok (.istore_n 3, 1) := by decide +kernel
theorem dX12_pleases_4 : decode cX12_pleases 4 = .ok (.iload_n 3, 1) := by decide +kernel
theorem dX12_pleases_5 : decode cX12_pleases 5 = .ok (.bipush 12, 2) := by decide +kernel
theorem dX12_pleases_7 : decode cX12_pleases 7 = .ok (.if_icmp .ge 18, 3) := by decide +kernel
theorem dX12_pleases_10 : decode cX12_pleases 10 = .ok (.iload_n 2, 1) := by decide +kernel
theorem dX12_pleases_11 : decode cX12_pleases 11 = .ok (.aload_n 0, 1) := by decide +kernel
theorem dX12_pleases_12 : decode cX12_pleases 12 = .ok (.iload_n 3, 1) := by decide +kernel
theorem dX12_pleases_13 : decode cX12_pleases 13 = .ok (.iload_n 1, 1) := by decide +kernel
theorem dX12_pleases_14 : decode cX12_pleases 14 = .ok (.invokevirtual 100, 3) := by decide +kernel
theorem dX12_pleases_17 : decode cX12_pleases 17 = .ok (.iadd, 1) := by decide +kernel
theorem dX12_pleases_18 : decode cX12_pleases 18 = .ok (.istore_n 2, 1) := by decide +kernel
theorem dX12_pleases_19 : decode cX12_pleases 19 = .ok (.iinc 3 1, 3) := by decide +kernel
theorem dX12_pleases_22 : decode cX12_pleases 22 = .ok (.goto (-18), 3) := by decide +kernel
theorem dX12_pleases_25 : decode cX12_pleases 25 = .ok (.iload_n 2, 1) := by decide +kernel
theorem dX12_pleases_26 : decode cX12_pleases 26 = .ok (.ireturn, 1) := by decide +kernel
theorem dX12_goes_0 : decode cX12_goes 0 = .ok (.aload_n 0, 1) := by decide +kernel
theorem dX12_goes_1 : decode cX12_goes 1 = .ok (.getfield 9, 3) := by decide +kernel
theorem dX12_goes_4 : decode cX12_goes 4 = .ok (.bipush 23, 2) := by decide +kernel
theorem dX12_goes_6 : decode cX12_goes 6 = .ok (.bipush 6, 2) := by decide +kernel
theorem dX12_goes_8 : decode cX12_goes 8 = .ok (.iload_n 1, 1) := by decide +kernel
theorem dX12_goes_9 : decode cX12_goes 9 = .ok (.imul, 1) := by decide +kernel
theorem dX12_goes_10 : decode cX12_goes 10 = .ok (.iadd, 1) := by decide +kernel
theorem dX12_goes_11 : decode cX12_goes 11 = .ok (.iconst 0, 1) := by decide +kernel
theorem dX12_goes_12 : decode cX12_goes 12 = .ok (.iastore, 1) := by decide +kernel
theorem dX12_goes_13 : decode cX12_goes 13 = .ok (.iconst 0, 1) := by decide +kernel
theorem dX12_goes_14 : decode cX12_goes 14 = .ok (.istore_n 2, 1) := by decide +kernel
theorem dX12_goes_15 : decode cX12_goes 15 = .ok (.iload_n 2, 1) := by decide +kernel
theorem dX12_goes_16 : decode cX12_goes 16 = .ok (.bipush 12, 2) := by decide +kernel
theorem dX12_goes_18 : decode cX12_goes 18 = .ok (.if_icmp .ge 24, 3) := by decide +kernel
theorem dX12_goes_21 : decode cX12_goes 21 = .ok (.aload_n 0, 1) := by decide +kernel
theorem dX12_goes_22 : decode cX12_goes 22 = .ok (.getfield 9, 3) := by decide +kernel
theorem dX12_goes_25 : decode cX12_goes 25 = .ok (.bipush 119, 2) := by decide +kernel
theorem dX12_goes_27 : decode cX12_goes 27 = .ok (.bipush 16, 2) := by decide +kernel
theorem dX12_goes_29 : decode cX12_goes 29 = .ok (.iload_n 2, 1) := by decide +kernel
theorem dX12_goes_30 : decode cX12_goes 30 = .ok (.imul, 1) := by decide +kernel
theorem dX12_goes_31 : decode cX12_goes 31 = .ok (.iadd, 1) := by decide +kernel
theorem dX12_goes_32 : decode cX12_goes 32 = .ok (.iload_n 1, 1) := by decide +kernel
theorem dX12_goes_33 : decode cX12_goes 33 = .ok (.iadd, 1) := by decide +kernel
theorem dX12_goes_34 : decode cX12_goes 34 = .ok (.iconst 0, 1) := by decide +kernel
theorem dX12_goes_35 : decode cX12_goes 35 = .ok (.iastore, 1) := by decide +kernel
theorem dX12_goes_36 : decode cX12_goes 36 = .ok (.iinc 2 1, 3) := by decide +kernel
theorem dX12_goes_39 : decode cX12_goes 39 = .ok (.goto (-24), 3) := by decide +kernel
theorem dX12_goes_42 : decode cX12_goes 42 = .ok (.return_, 1) := by decide +kernel
set_option maxRecDepth 20000 in
theorem ggX12_drop_X12_isAct : GoodIn wsX12_drop wsX12_isAct := goodIn_r _ [5, 6, 7, 4, 8, 9, 10, 11, 12, 13, 46, 47, 48, 49, 50, 51, 52, 53, 54, 55, 56, 57, 58, 59, 60, 61] (by decide +kernel) (by decide +kernel)
set_option maxRecDepth 20000 in
theorem gX12_drop_X12_isAct : GoodIn wsX12_drop (wsV RX12 103 RX12 yX12_isAct wsX12_isAct) := goodIn_app (goodIn_of _ (by decide +kernel)) ggX12_drop_X12_isAct
set_option maxRecDepth 20000 in
theorem ggX12_drop_X12_lacks : GoodIn wsX12_drop wsX12_lacks := goodIn_r _ [17, 18, 19, 20, 21, 4, 22, 46, 47, 48, 49, 50, 51, 52, 53, 54, 55, 56, 57, 58, 59, 60, 61] (by decide +kernel) (by decide +kernel)
set_option maxRecDepth 20000 in
theorem gX12_drop_X12_lacks : GoodIn wsX12_drop (wsV RX12 78 RX12 yX12_lacks wsX12_lacks) := goodIn_app (goodIn_of _ (by decide +kernel)) ggX12_drop_X12_lacks
set_option maxRecDepth 20000 in
theorem ggX12_drop_X12_keeps : GoodIn wsX12_drop wsX12_keeps := goodIn_r _ [26, 27, 28, 13, 29, 30, 31, 32, 33, 46, 47, 48, 49, 50, 51, 52, 53, 54, 55, 56, 57, 58, 59, 60, 61] (by decide +kernel) (by decide +kernel)
set_option maxRecDepth 20000 in
theorem gX12_drop_X12_keeps : GoodIn wsX12_drop (wsV RX12 68 RX12 yX12_keeps wsX12_keeps) := goodIn_app (goodIn_of _ (by decide +kernel)) ggX12_drop_X12_keeps
set_option maxRecDepth 20000 in
theorem ggX12_drop_X12_pleases : GoodIn wsX12_drop wsX12_pleases := goodIn_r _ [37, 38, 39, 40, 4, 41, 13, 46, 47, 48, 49, 50, 51, 52, 53, 54, 55, 56, 57, 58, 59, 60, 61] (by decide +kernel) (by decide +kernel)
set_option maxRecDepth 20000 in
theorem gX12_drop_X12_pleases : GoodIn wsX12_drop (wsV RX12 106 RX12 yX12_pleases wsX12_pleases) := goodIn_app (goodIn_of _ (by decide +kernel)) ggX12_drop_X12_pleases
set_option maxRecDepth 20000 in
theorem ggX12_drop_X12_goes : GoodIn wsX12_drop wsX12_goes := goodIn_r _ [45, 13, 46, 47, 48, 49, 50, 51, 52, 53, 54, 55, 56, 57, 58, 59, 60, 61] (by decide +kernel) (by decide +kernel)
set_option maxRecDepth 20000 in
theorem gX12_drop_X12_goes : GoodIn wsX12_drop (wsV RX12 110 RX12 yX12_goes wsX12_goes) := goodIn_app (goodIn_of _ (by decide +kernel)) ggX12_drop_X12_goes
theorem dX12_drop_0 : decode cX12_drop 0 = .ok (.aload_n 0, 1) := by decide +kernel
theorem dX12_drop_1 : decode cX12_drop 1 = .ok (.aload_n 0, 1) := by decide +kernel
theorem dX12_drop_2 : decode cX12_drop 2 = .ok (.iload_n 1, 1) := by decide +kernel
theorem dX12_drop_3 : decode cX12_drop 3 = .ok (.invokevirtual 103, 3) := by decide +kernel
theorem dX12_drop_6 : decode cX12_drop 6 = .ok (.invokevirtual 78, 3) := by decide +kernel
theorem dX12_drop_9 : decode cX12_drop 9 = .ok (.ifCond .eq 5, 3) := by decide +kernel
theorem dX12_drop_12 : decode cX12_drop 12 = .ok (.iconst 0, 1) := by decide +kernel
theorem dX12_drop_13 : decode cX12_drop 13 = .ok (.ireturn, 1) := by decide +kernel
theorem dX12_drop_14 : decode cX12_drop 14 = .ok (.aload_n 0, 1) := by decide +kernel
theorem dX12_drop_15 : decode cX12_drop 15 = .ok (.invokevirtual 68, 3) := by decide +kernel
theorem dX12_drop_18 : decode cX12_drop 18 = .ok (.aload_n 0, 1) := by decide +kernel
theorem dX12_drop_19 : decode cX12_drop 19 = .ok (.iload_n 1, 1) := by decide +kernel
theorem dX12_drop_20 : decode cX12_drop 20 = .ok (.invokevirtual 106, 3) := by decide +kernel
theorem dX12_drop_23 : decode cX12_drop 23 = .ok (.istore_n 2, 1) := by decide +kernel
theorem dX12_drop_24 : decode cX12_drop 24 = .ok (.aload_n 0, 1) := by decide +kernel
theorem dX12_drop_25 : decode cX12_drop 25 = .ok (.iload_n 1, 1) := by decide +kernel
theorem dX12_drop_26 : decode cX12_drop 26 = .ok (.invokevirtual 110, 3) := by decide +kernel
theorem dX12_drop_29 : decode cX12_drop 29 = .ok (.iload_n 2, 1) := by decide +kernel
theorem dX12_drop_30 : decode cX12_drop 30 = .ok (.ireturn, 1) := by decide +kernel
set_option maxRecDepth 20000 in
theorem ggX12_wish_X12_isVisitor : GoodIn wsX12_wish wsX12_isVisitor := goodIn_r _ [4, 5, 6, 3, 7] (by decide +kernel) (by decide +kernel)
set_option maxRecDepth 20000 in
theorem gX12_wish_X12_isVisitor : GoodIn wsX12_wish (va_wsS RX12 114 yX12_isVisitor wsX12_isVisitor) := goodIn_app (goodIn_of _ (by decide +kernel)) ggX12_wish_X12_isVisitor
set_option maxRecDepth 20000 in
theorem ggX12_wish_X12_isAct : GoodIn wsX12_wish wsX12_isAct := goodIn_r _ [11, 5, 6, 3, 7, 12, 13, 14, 15, 16, 41, 42, 43, 44, 45, 46, 47, 48, 49, 50, 51, 52, 53, 54, 55, 56] (by decide +kernel) (by decide +kernel)
set_option maxRecDepth 20000 in
theorem gX12_wish_X12_isAct : GoodIn wsX12_wish (wsV RX12 103 RX12 yX12_isAct wsX12_isAct) := goodIn_app (goodIn_of _ (by decide +kernel)) ggX12_wish_X12_isAct
set_option maxRecDepth 20000 in
theorem ggX12_wish_X12_lacks : GoodIn wsX12_wish wsX12_lacks := goodIn_r _ [20, 21, 22, 23, 24, 3, 25, 41, 42, 43, 44, 45, 46, 47, 48, 49, 50, 51, 52, 53, 54, 55, 56] (by decide +kernel) (by decide +kernel)
set_option maxRecDepth 20000 in
theorem gX12_wish_X12_lacks : GoodIn wsX12_wish (wsV RX12 78 RX12 yX12_lacks wsX12_lacks) := goodIn_app (goodIn_of _ (by decide +kernel)) ggX12_wish_X12_lacks
set_option maxRecDepth 20000 in
theorem ggX12_wish_X12_in : GoodIn wsX12_wish wsX12_in := goodIn_r _ [7] (by decide +kernel) (by decide +kernel)
set_option maxRecDepth 20000 in
theorem gX12_wish_X12_in : GoodIn wsX12_wish (va_wsS RX12 47 yX12_in wsX12_in) := goodIn_app (goodIn_of _ (by decide +kernel)) ggX12_wish_X12_in
set_option maxRecDepth 20000 in
theorem ggX12_wish_X12_no : GoodIn wsX12_wish wsX12_no := goodIn_r _ [25, 21, 41, 42, 43, 44, 45, 46, 47, 48, 49, 50, 51, 52, 53, 54, 55, 56] (by decide +kernel) (by decide +kernel)
set_option maxRecDepth 20000 in
theorem gX12_wish_X12_no : GoodIn wsX12_wish (wsV RX12 43 RX12 yX12_no wsX12_no) := goodIn_app (goodIn_of _ (by decide +kernel)) ggX12_wish_X12_no
set_option maxRecDepth 20000 in
theorem ggX12_wish_X12_sets : GoodIn wsX12_wish wsX12_sets := goodIn_r _ [29, 16, 30, 31, 32, 3, 33, 34, 35, 36, 37, 38, 39, 40, 41, 42, 43, 44, 45, 46, 47, 48, 49, 50, 51, 52, 53, 54, 55, 56] (by decide +kernel) (by decide +kernel)
set_option maxRecDepth 20000 in
theorem gX12_wish_X12_sets : GoodIn wsX12_wish (wsV RX12 89 RX12 yX12_sets wsX12_sets) := goodIn_app (goodIn_of _ (by decide +kernel)) ggX12_wish_X12_sets
theorem dX12_wish_0 : decode cX12_wish 0 = .ok (.aload_n 0, 1) := by decide +kernel
theorem dX12_wish_1 : decode cX12_wish 1 = .ok (.iload_n 1, 1) := by decide +kernel
theorem dX12_wish_2 : decode cX12_wish 2 = .ok (.invokestatic 114, 3) := by decide +kernel
theorem dX12_wish_5 : decode cX12_wish 5 = .ok (.ifCond .eq 15, 3) := by decide +kernel
theorem dX12_wish_8 : decode cX12_wish 8 = .ok (.aload_n 0, 1) := by decide +kernel
theorem dX12_wish_9 : decode cX12_wish 9 = .ok (.iload_n 2, 1) := by decide +kernel
theorem dX12_wish_10 : decode cX12_wish 10 = .ok (.invokevirtual 103, 3) := by decide +kernel
theorem dX12_wish_13 : decode cX12_wish 13 = .ok (.ifCond .eq 7, 3) := by decide +kernel
theorem dX12_wish_16 : decode cX12_wish 16 = .ok (.iconst 1, 1) := by decide +kernel
theorem dX12_wish_17 : decode cX12_wish 17 = .ok (.goto 4, 3) := by decide +kernel
theorem dX12_wish_20 : decode cX12_wish 20 = .ok (.iconst 0, 1) := by decide +kernel
theorem dX12_wish_21 : decode cX12_wish 21 = .ok (.invokevirtual 78, 3) := by decide +kernel
theorem dX12_wish_24 : decode cX12_wish 24 = .ok (.ifCond .ne 18, 3) := by decide +kernel
theorem dX12_wish_27 : decode cX12_wish 27 = .ok (.aload_n 0, 1) := by decide +kernel
theorem dX12_wish_28 : decode cX12_wish 28 = .ok (.iload_n 3, 1) := by decide +kernel
theorem dX12_wish_29 : decode cX12_wish 29 = .ok (.iconst 0, 1) := by decide +kernel
theorem dX12_wish_30 : decode cX12_wish 30 = .ok (.bipush 9, 2) := by decide +kernel
theorem dX12_wish_32 : decode cX12_wish 32 = .ok (.invokestatic 47, 3) := by decide +kernel
theorem dX12_wish_35 : decode cX12_wish 35 = .ok (.iconst 2, 1) := by decide +kernel
theorem dX12_wish_36 : decode cX12_wish 36 = .ok (.invokevirtual 43, 3) := by decide +kernel
theorem dX12_wish_39 : decode cX12_wish 39 = .ok (.ifCond .eq 7, 3) := by decide +kernel
theorem dX12_wish_42 : decode cX12_wish 42 = .ok (.iconst 0, 1) := by decide +kernel
theorem dX12_wish_43 : decode cX12_wish 43 = .ok (.goto 17, 3) := by decide +kernel
theorem dX12_wish_46 : decode cX12_wish 46 = .ok (.aload_n 0, 1) := by decide +kernel
theorem dX12_wish_47 : decode cX12_wish 47 = .ok (.bipush 119, 2) := by decide +kernel
theorem dX12_wish_49 : decode cX12_wish 49 = .ok (.bipush 16, 2) := by decide +kernel
theorem dX12_wish_51 : decode cX12_wish 51 = .ok (.iload_n 1, 1) := by decide +kernel
theorem dX12_wish_52 : decode cX12_wish 52 = .ok (.imul, 1) := by decide +kernel
theorem dX12_wish_53 : decode cX12_wish 53 = .ok (.iadd, 1) := by decide +kernel
theorem dX12_wish_54 : decode cX12_wish 54 = .ok (.iload_n 2, 1) := by decide +kernel
theorem dX12_wish_55 : decode cX12_wish 55 = .ok (.iadd, 1) := by decide +kernel
theorem dX12_wish_56 : decode cX12_wish 56 = .ok (.iload_n 3, 1) := by decide +kernel
theorem dX12_wish_57 : decode cX12_wish 57 = .ok (.invokevirtual 89, 3) := by decide +kernel
theorem dX12_wish_60 : decode cX12_wish 60 = .ok (.ireturn, 1) := by decide +kernel
set_option maxRecDepth 20000 in
theorem ggX12_endOf_X12_its : GoodIn wsX12_endOf wsX12_its := goodIn_r _ [5, 6, 7, 8, 9, 10, 11, 12, 13, 14, 15, 16, 17, 18, 19, 20, 21, 22] (by decide +kernel) (by decide +kernel)
set_option maxRecDepth 20000 in
theorem gX12_endOf_X12_its : GoodIn wsX12_endOf (wsV RX12 51 RX12 yX12_its wsX12_its) := goodIn_app (goodIn_of _ (by decide +kernel)) ggX12_endOf_X12_its
theorem dX12_endOf_0 : decode cX12_endOf 0 = .ok (.aload_n 0, 1) := by decide +kernel
theorem dX12_endOf_1 : decode cX12_endOf 1 = .ok (.iload_n 1, 1) := by decide +kernel
theorem dX12_endOf_2 : decode cX12_endOf 2 = .ok (.iconst 2, 1) := by decide +kernel
theorem dX12_endOf_3 : decode cX12_endOf 3 = .ok (.invokevirtual 51, 3) := by decide +kernel
theorem dX12_endOf_6 : decode cX12_endOf 6 = .ok (.aload_n 0, 1) := by decide +kernel
theorem dX12_endOf_7 : decode cX12_endOf 7 = .ok (.iload_n 1, 1) := by decide +kernel
theorem dX12_endOf_8 : decode cX12_endOf 8 = .ok (.iconst 3, 1) := by decide +kernel
theorem dX12_endOf_9 : decode cX12_endOf 9 = .ok (.invokevirtual 51, 3) := by decide +kernel
theorem dX12_endOf_12 : decode cX12_endOf 12 = .ok (.iadd, 1) := by decide +kernel
theorem dX12_endOf_13 : decode cX12_endOf 13 = .ok (.ireturn, 1) := by decide +kernel
set_option maxRecDepth 20000 in
theorem ggX12_piecesMeet_X12_its : GoodIn wsX12_piecesMeet wsX12_its := goodIn_r _ [5, 6, 11, 12, 13, 14, 15, 16, 17, 18, 19, 20, 21, 22, 23, 24, 25, 26] (by decide +kernel) (by decide +kernel)
set_option maxRecDepth 20000 in
theorem gX12_piecesMeet_X12_its : GoodIn wsX12_piecesMeet (wsV RX12 51 RX12 yX12_its wsX12_its) := goodIn_app (goodIn_of _ (by decide +kernel)) ggX12_piecesMeet_X12_its
set_option maxRecDepth 20000 in
theorem ggX12_piecesMeet_X12_endOf : GoodIn wsX12_piecesMeet wsX12_endOf := goodIn_r _ [10, 1, 2, 3, 4, 5, 6, 11, 12, 13, 14, 15, 16, 17, 18, 19, 20, 21, 22, 23, 24, 25, 26] (by decide +kernel) (by decide +kernel)
set_option maxRecDepth 20000 in
theorem gX12_piecesMeet_X12_endOf : GoodIn wsX12_piecesMeet (wsV RX12 117 RX12 yX12_endOf wsX12_endOf) := goodIn_app (goodIn_of _ (by decide +kernel)) ggX12_piecesMeet_X12_endOf
theorem dX12_piecesMeet_0 : decode cX12_piecesMeet 0 = .ok (.aload_n 0, 1) := by decide +kernel
theorem dX12_piecesMeet_1 : decode cX12_piecesMeet 1 = .ok (.iload_n 1, 1) := by decide +kernel
theorem dX12_piecesMeet_2 : decode cX12_piecesMeet 2 = .ok (.iconst 2, 1) := by decide +kernel
theorem dX12_piecesMeet_3 : decode cX12_piecesMeet 3 = .ok (.invokevirtual 51, 3) := by decide +kernel
theorem dX12_piecesMeet_6 : decode cX12_piecesMeet 6 = .ok (.aload_n 0, 1) := by decide +kernel
theorem dX12_piecesMeet_7 : decode cX12_piecesMeet 7 = .ok (.iload_n 1, 1) := by decide +kernel
theorem dX12_piecesMeet_8 : decode cX12_piecesMeet 8 = .ok (.iconst 4, 1) := by decide +kernel
theorem dX12_piecesMeet_9 : decode cX12_piecesMeet 9 = .ok (.invokevirtual 51, 3) := by decide +kernel
theorem dX12_piecesMeet_12 : decode cX12_piecesMeet 12 = .ok (.isub, 1) := by decide +kernel
theorem dX12_piecesMeet_13 : decode cX12_piecesMeet 13 = .ok (.aload_n 0, 1) := by decide +kernel
theorem dX12_piecesMeet_14 : decode cX12_piecesMeet 14 = .ok (.iload_n 2, 1) := by decide +kernel
theorem dX12_piecesMeet_15 : decode cX12_piecesMeet 15 = .ok (.invokevirtual 117, 3) := by decide +kernel
theorem dX12_piecesMeet_18 : decode cX12_piecesMeet 18 = .ok (.if_icmp .ge 28, 3) := by decide +kernel
theorem dX12_piecesMeet_21 : decode cX12_piecesMeet 21 = .ok (.aload_n 0, 1) := by decide +kernel
theorem dX12_piecesMeet_22 : decode cX12_piecesMeet 22 = .ok (.iload_n 2, 1) := by decide +kernel
theorem dX12_piecesMeet_23 : decode cX12_piecesMeet 23 = .ok (.iconst 2, 1) := by decide +kernel
theorem dX12_piecesMeet_24 : decode cX12_piecesMeet 24 = .ok (.invokevirtual 51, 3) := by decide +kernel
theorem dX12_piecesMeet_27 : decode cX12_piecesMeet 27 = .ok (.aload_n 0, 1) := by decide +kernel
theorem dX12_piecesMeet_28 : decode cX12_piecesMeet 28 = .ok (.iload_n 2, 1) := by decide +kernel
theorem dX12_piecesMeet_29 : decode cX12_piecesMeet 29 = .ok (.iconst 4, 1) := by decide +kernel
theorem dX12_piecesMeet_30 : decode cX12_piecesMeet 30 = .ok (.invokevirtual 51, 3) := by decide +kernel
theorem dX12_piecesMeet_33 : decode cX12_piecesMeet 33 = .ok (.isub, 1) := by decide +kernel
theorem dX12_piecesMeet_34 : decode cX12_piecesMeet 34 = .ok (.aload_n 0, 1) := by decide +kernel
theorem dX12_piecesMeet_35 : decode cX12_piecesMeet 35 = .ok (.iload_n 1, 1) := by decide +kernel
theorem dX12_piecesMeet_36 : decode cX12_piecesMeet 36 = .ok (.invokevirtual 117, 3) := by decide +kernel
theorem dX12_piecesMeet_39 : decode cX12_piecesMeet 39 = .ok (.if_icmp .ge 7, 3) := by decide +kernel
theorem dX12_piecesMeet_42 : decode cX12_piecesMeet 42 = .ok (.iconst 1, 1) := by decide +kernel
theorem dX12_piecesMeet_43 : decode cX12_piecesMeet 43 = .ok (.goto 4, 3) := by decide +kernel
theorem dX12_piecesMeet_46 : decode cX12_piecesMeet 46 = .ok (.iconst 0, 1) := by decide +kernel
theorem dX12_piecesMeet_47 : decode cX12_piecesMeet 47 = .ok (.ireturn, 1) := by decide +kernel
set_option maxRecDepth 20000 in
theorem ggX12_areClashing_X12_piecesMeet : GoodIn wsX12_areClashing wsX12_piecesMeet := goodIn_r _ [5, 6, 7, 8, 4, 9, 10, 11, 12, 13, 14, 15, 16, 17, 18, 19, 20, 21, 22, 23, 24, 25, 26, 27, 28, 29, 30] (by decide +kernel) (by decide +kernel)
set_option maxRecDepth 20000 in
theorem gX12_areClashing_X12_piecesMeet : GoodIn wsX12_areClashing (wsV RX12 120 RX12 yX12_piecesMeet wsX12_piecesMeet) := goodIn_app (goodIn_of _ (by decide +kernel)) ggX12_areClashing_X12_piecesMeet
set_option maxRecDepth 20000 in
theorem ggX12_areClashing_X12_its : GoodIn wsX12_areClashing wsX12_its := goodIn_r _ [9, 10, 15, 16, 17, 18, 19, 20, 21, 22, 23, 24, 25, 26, 27, 28, 29, 30] (by decide +kernel) (by decide +kernel)
set_option maxRecDepth 20000 in
theorem gX12_areClashing_X12_its : GoodIn wsX12_areClashing (wsV RX12 51 RX12 yX12_its wsX12_its) := goodIn_app (goodIn_of _ (by decide +kernel)) ggX12_areClashing_X12_its
theorem dX12_areClashing_0 : decode cX12_areClashing 0 = .ok (.aload_n 0, 1) := by decide +kernel
theorem dX12_areClashing_1 : decode cX12_areClashing 1 = .ok (.iload_n 1, 1) := by decide +kernel
theorem dX12_areClashing_2 : decode cX12_areClashing 2 = .ok (.iload_n 2, 1) := by decide +kernel
theorem dX12_areClashing_3 : decode cX12_areClashing 3 = .ok (.invokevirtual 120, 3) := by decide +kernel
theorem dX12_areClashing_6 : decode cX12_areClashing 6 = .ok (.ifCond .eq 38, 3) := by decide +kernel
theorem dX12_areClashing_9 : decode cX12_areClashing 9 = .ok (.aload_n 0, 1) := by decide +kernel
theorem dX12_areClashing_10 : decode cX12_areClashing 10 = .ok (.iload_n 1, 1) := by decide +kernel
theorem dX12_areClashing_11 : decode cX12_areClashing 11 = .ok (.iconst 1, 1) := by decide +kernel
theorem dX12_areClashing_12 : decode cX12_areClashing 12 = .ok (.invokevirtual 51, 3) := by decide +kernel
theorem dX12_areClashing_15 : decode cX12_areClashing 15 = .ok (.aload_n 0, 1) := by decide +kernel
theorem dX12_areClashing_16 : decode cX12_areClashing 16 = .ok (.iload_n 2, 1) := by decide +kernel
theorem dX12_areClashing_17 : decode cX12_areClashing 17 = .ok (.iconst 1, 1) := by decide +kernel
theorem dX12_areClashing_18 : decode cX12_areClashing 18 = .ok (.invokevirtual 51, 3) := by decide +kernel
theorem dX12_areClashing_21 : decode cX12_areClashing 21 = .ok (.if_icmp .eq 19, 3) := by decide +kernel
theorem dX12_areClashing_24 : decode cX12_areClashing 24 = .ok (.aload_n 0, 1) := by decide +kernel
theorem dX12_areClashing_25 : decode cX12_areClashing 25 = .ok (.iload_n 1, 1) := by decide +kernel
theorem dX12_areClashing_26 : decode cX12_areClashing 26 = .ok (.iconst 5, 1) := by decide +kernel
theorem dX12_areClashing_27 : decode cX12_areClashing 27 = .ok (.invokevirtual 51, 3) := by decide +kernel
theorem dX12_areClashing_30 : decode cX12_areClashing 30 = .ok (.aload_n 0, 1) := by decide +kernel
theorem dX12_areClashing_31 : decode cX12_areClashing 31 = .ok (.iload_n 2, 1) := by decide +kernel
theorem dX12_areClashing_32 : decode cX12_areClashing 32 = .ok (.iconst 5, 1) := by decide +kernel
theorem dX12_areClashing_33 : decode cX12_areClashing 33 = .ok (.invokevirtual 51, 3) := by decide +kernel
theorem dX12_areClashing_36 : decode cX12_areClashing 36 = .ok (.iand, 1) := by decide +kernel
theorem dX12_areClashing_37 : decode cX12_areClashing 37 = .ok (.ifCond .eq 7, 3) := by decide +kernel
theorem dX12_areClashing_40 : decode cX12_areClashing 40 = .ok (.iconst 1, 1) := by decide +kernel
theorem dX12_areClashing_41 : decode cX12_areClashing 41 = .ok (.goto 4, 3) := by decide +kernel
theorem dX12_areClashing_44 : decode cX12_areClashing 44 = .ok (.iconst 0, 1) := by decide +kernel
theorem dX12_areClashing_45 : decode cX12_areClashing 45 = .ok (.ireturn, 1) := by decide +kernel
set_option maxRecDepth 20000 in
theorem ggX12_triesLineups_X12_isAct : GoodIn wsX12_triesLineups wsX12_isAct := goodIn_r _ [7, 8, 9, 6, 10, 11, 12, 13, 14, 15, 39, 40, 41, 42, 43, 44, 45, 46, 47, 48, 49, 50, 51, 52, 53, 54] (by decide +kernel) (by decide +kernel)
set_option maxRecDepth 20000 in
theorem gX12_triesLineups_X12_isAct : GoodIn wsX12_triesLineups (wsV RX12 103 RX12 yX12_isAct wsX12_isAct) := goodIn_app (goodIn_of _ (by decide +kernel)) ggX12_triesLineups_X12_isAct
set_option maxRecDepth 20000 in
theorem ggX12_triesLineups_X12_areClashing : GoodIn wsX12_triesLineups wsX12_areClashing := goodIn_r _ [19, 20, 21, 22, 6, 23, 11, 12, 13, 14, 15, 24, 25, 26, 27, 39, 40, 41, 42, 43, 44, 45, 46, 47, 48, 49, 50, 51, 52, 53, 54] (by decide +kernel) (by decide +kernel)
set_option maxRecDepth 20000 in
theorem gX12_triesLineups_X12_areClashing : GoodIn wsX12_triesLineups (wsV RX12 130 RX12 yX12_areClashing wsX12_areClashing) := goodIn_app (goodIn_of _ (by decide +kernel)) ggX12_triesLineups_X12_areClashing
set_option maxRecDepth 20000 in
theorem ggX12_triesLineups_X12_pleases : GoodIn wsX12_triesLineups wsX12_pleases := goodIn_r _ [31, 32, 33, 34, 6, 35, 15, 39, 40, 41, 42, 43, 44, 45, 46, 47, 48, 49, 50, 51, 52, 53, 54] (by decide +kernel) (by decide +kernel)
set_option maxRecDepth 20000 in
theorem gX12_triesLineups_X12_pleases : GoodIn wsX12_triesLineups (wsV RX12 106 RX12 yX12_pleases wsX12_pleases) := goodIn_app (goodIn_of _ (by decide +kernel)) ggX12_triesLineups_X12_pleases
set_option maxRecDepth 20000 in
theorem ggX12_triesLineups_X12_triesLineups : GoodIn wsX12_triesLineups wsX12_triesLineups := goodIn_r _ [0, 1, 2, 3, 4, 5, 6, 7, 8, 9, 10, 11, 12, 13, 14, 15, 16, 17, 18, 19, 20, 21, 22, 23, 24, 25, 26, 27, 28, 29, 30, 31, 32, 33, 34, 35, 36, 37, 38, 39, 40, 41, 42, 43, 44, 45, 46, 47, 48, 49, 50, 51, 52, 53, 54] (by decide +kernel) (by decide +kernel)
set_option maxRecDepth 20000 in
theorem gX12_triesLineups_X12_triesLineups : GoodIn wsX12_triesLineups (wsV RX12 133 RX12 yX12_triesLineups wsX12_triesLineups) := goodIn_app (goodIn_of _ (by decide +kernel)) ggX12_triesLineups_X12_triesLineups
theorem dX12_triesLineups_0 : decode cX12_triesLineups 0 = .ok (.iload_n 1, 1) := by decide +kernel
theorem dX12_triesLineups_1 : decode cX12_triesLineups 1 = .ok (.bipush 16, 2) := by decide +kernel
theorem dX12_triesLineups_3 : decode cX12_triesLineups 3 = .ok (.if_icmp .ne 23, 3) := by decide +kernel
theorem dX12_triesLineups_6 : decode cX12_triesLineups 6 = .ok (.iload_n 3, 1) := by decide +kernel
theorem dX12_triesLineups_7 : decode cX12_triesLineups 7 = .ok (.aload_n 0, 1) := by decide +kernel
theorem dX12_triesLineups_8 : decode cX12_triesLineups 8 = .ok (.getfield 124, 3) := by decide +kernel
theorem dX12_triesLineups_11 : decode cX12_triesLineups 11 = .ok (.if_icmp .gt 4, 3) := by decide +kernel
theorem dX12_triesLineups_14 : decode cX12_triesLineups 14 = .ok (.return_, 1) := by decide +kernel
theorem dX12_triesLineups_15 : decode cX12_triesLineups 15 = .ok (.aload_n 0, 1) := by decide +kernel
theorem dX12_triesLineups_16 : decode cX12_triesLineups 16 = .ok (.iload_n 3, 1) := by decide +kernel
theorem dX12_triesLineups_17 : decode cX12_triesLineups 17 = .ok (.putfield 124, 3) := by decide +kernel
theorem dX12_triesLineups_20 : decode cX12_triesLineups 20 = .ok (.aload_n 0, 1) := by decide +kernel
theorem dX12_triesLineups_21 : decode cX12_triesLineups 21 = .ok (.iload_n 2, 1) := by decide +kernel
theorem dX12_triesLineups_22 : decode cX12_triesLineups 22 = .ok (.putfield 127, 3) := by decide +kernel
theorem dX12_triesLineups_25 : decode cX12_triesLineups 25 = .ok (.return_, 1) := by decide +kernel
theorem dX12_triesLineups_26 : decode cX12_triesLineups 26 = .ok (.aload_n 0, 1) := by decide +kernel
theorem dX12_triesLineups_27 : decode cX12_triesLineups 27 = .ok (.iload_n 1, 1) := by decide +kernel
theorem dX12_triesLineups_28 : decode cX12_triesLineups 28 = .ok (.invokevirtual 103, 3) := by decide +kernel
theorem dX12_triesLineups_31 : decode cX12_triesLineups 31 = .ok (.istore 4, 2) := by decide +kernel
theorem dX12_triesLineups_33 : decode cX12_triesLineups 33 = .ok (.iconst 0, 1) := by decide +kernel
theorem dX12_triesLineups_34 : decode cX12_triesLineups 34 = .ok (.istore 5, 2) := by decide +kernel
theorem dX12_triesLineups_36 : decode cX12_triesLineups 36 = .ok (.iload 5, 2) := by decide +kernel
theorem dX12_triesLineups_38 : decode cX12_triesLineups 38 = .ok (.iload_n 1, 1) := by decide +kernel
theorem dX12_triesLineups_39 : decode cX12_triesLineups 39 = .ok (.if_icmp .ge 40, 3) := by decide +kernel
theorem dX12_triesLineups_42 : decode cX12_triesLineups 42 = .ok (.iload 4, 2) := by decide +kernel
theorem dX12_triesLineups_44 : decode cX12_triesLineups 44 = .ok (.ifCond .eq 35, 3) := by decide +kernel
theorem dX12_triesLineups_47 : decode cX12_triesLineups 47 = .ok (.iload_n 2, 1) := by decide +kernel
theorem dX12_triesLineups_48 : decode cX12_triesLineups 48 = .ok (.iload 5, 2) := by decide +kernel
theorem dX12_triesLineups_50 : decode cX12_triesLineups 50 = .ok (.ishr, 1) := by decide +kernel
theorem dX12_triesLineups_51 : decode cX12_triesLineups 51 = .ok (.iconst 1, 1) := by decide +kernel
theorem dX12_triesLineups_52 : decode cX12_triesLineups 52 = .ok (.iand, 1) := by decide +kernel
theorem dX12_triesLineups_53 : decode cX12_triesLineups 53 = .ok (.ifCond .eq 13, 3) := by decide +kernel
theorem dX12_triesLineups_56 : decode cX12_triesLineups 56 = .ok (.aload_n 0, 1) := by decide +kernel
theorem dX12_triesLineups_57 : decode cX12_triesLineups 57 = .ok (.iload 5, 2) := by decide +kernel
theorem dX12_triesLineups_59 : decode cX12_triesLineups 59 = .ok (.iload_n 1, 1) := by decide +kernel
theorem dX12_triesLineups_60 : decode cX12_triesLineups 60 = .ok (.invokevirtual 130, 3) := by decide +kernel
theorem dX12_triesLineups_63 : decode cX12_triesLineups 63 = .ok (.ifCond .ne 7, 3) := by decide +kernel
theorem dX12_triesLineups_66 : decode cX12_triesLineups 66 = .ok (.iconst 1, 1) := by decide +kernel
theorem dX12_triesLineups_67 : decode cX12_triesLineups 67 = .ok (.goto 4, 3) := by decide +kernel
theorem dX12_triesLineups_70 : decode cX12_triesLineups 70 = .ok (.iconst 0, 1) := by decide +kernel
theorem dX12_triesLineups_71 : decode cX12_triesLineups 71 = .ok (.istore 4, 2) := by decide +kernel
theorem dX12_triesLineups_73 : decode cX12_triesLineups 73 = .ok (.iinc 5 1, 3) := by decide +kernel
theorem dX12_triesLineups_76 : decode cX12_triesLineups 76 = .ok (.goto (-40), 3) := by decide +kernel
theorem dX12_triesLineups_79 : decode cX12_triesLineups 79 = .ok (.iload 4, 2) := by decide +kernel
theorem dX12_triesLineups_81 : decode cX12_triesLineups 81 = .ok (.ifCond .eq 22, 3) := by decide +kernel
theorem dX12_triesLineups_84 : decode cX12_triesLineups 84 = .ok (.aload_n 0, 1) := by decide +kernel
theorem dX12_triesLineups_85 : decode cX12_triesLineups 85 = .ok (.iload_n 1, 1) := by decide +kernel
theorem dX12_triesLineups_86 : decode cX12_triesLineups 86 = .ok (.iconst 1, 1) := by decide +kernel
theorem dX12_triesLineups_87 : decode cX12_triesLineups 87 = .ok (.iadd, 1) := by decide +kernel
theorem dX12_triesLineups_88 : decode cX12_triesLineups 88 = .ok (.iload_n 2, 1) := by decide +kernel
theorem dX12_triesLineups_89 : decode cX12_triesLineups 89 = .ok (.iconst 1, 1) := by decide +kernel
theorem dX12_triesLineups_90 : decode cX12_triesLineups 90 = .ok (.iload_n 1, 1) := by decide +kernel
theorem dX12_triesLineups_91 : decode cX12_triesLineups 91 = .ok (.ishl, 1) := by decide +kernel
theorem dX12_triesLineups_92 : decode cX12_triesLineups 92 = .ok (.ior, 1) := by decide +kernel
theorem dX12_triesLineups_93 : decode cX12_triesLineups 93 = .ok (.iload_n 3, 1) := by decide +kernel
theorem dX12_triesLineups_94 : decode cX12_triesLineups 94 = .ok (.aload_n 0, 1) := by decide +kernel
theorem dX12_triesLineups_95 : decode cX12_triesLineups 95 = .ok (.iload_n 1, 1) := by decide +kernel
theorem dX12_triesLineups_96 : decode cX12_triesLineups 96 = .ok (.invokevirtual 106, 3) := by decide +kernel
theorem dX12_triesLineups_99 : decode cX12_triesLineups 99 = .ok (.iadd, 1) := by decide +kernel
theorem dX12_triesLineups_100 : decode cX12_triesLineups 100 = .ok (.invokevirtual 133, 3) := by decide +kernel
theorem dX12_triesLineups_103 : decode cX12_triesLineups 103 = .ok (.aload_n 0, 1) := by decide +kernel
theorem dX12_triesLineups_104 : decode cX12_triesLineups 104 = .ok (.iload_n 1, 1) := by decide +kernel
theorem dX12_triesLineups_105 : decode cX12_triesLineups 105 = .ok (.iconst 1, 1) := by decide +kernel
theorem dX12_triesLineups_106 : decode cX12_triesLineups 106 = .ok (.iadd, 1) := by decide +kernel
theorem dX12_triesLineups_107 : decode cX12_triesLineups 107 = .ok (.iload_n 2, 1) := by decide +kernel
theorem dX12_triesLineups_108 : decode cX12_triesLineups 108 = .ok (.iload_n 3, 1) := by decide +kernel
theorem dX12_triesLineups_109 : decode cX12_triesLineups 109 = .ok (.invokevirtual 133, 3) := by decide +kernel
theorem dX12_triesLineups_112 : decode cX12_triesLineups 112 = .ok (.return_, 1) := by decide +kernel
set_option maxRecDepth 20000 in
theorem ggX12_lineup_X12_triesLineups : GoodIn wsX12_lineup wsX12_triesLineups := goodIn_r _ [7, 1, 2, 8, 9, 10, 6, 11, 12, 13, 14, 15, 16, 17, 18, 19, 20, 21, 22, 23, 24, 25, 26, 27, 28, 29, 30, 31, 32, 33, 34, 35, 36, 37, 38, 39, 3, 4, 5, 40, 41, 42, 43, 44, 45, 46, 47, 48, 49, 50, 51, 52, 53, 54, 55] (by decide +kernel) (by decide +kernel)
set_option maxRecDepth 20000 in
theorem gX12_lineup_X12_triesLineups : GoodIn wsX12_lineup (wsV RX12 133 RX12 yX12_triesLineups wsX12_triesLineups) := goodIn_app (goodIn_of _ (by decide +kernel)) ggX12_lineup_X12_triesLineups
theorem dX12_lineup_0 : decode cX12_lineup 0 = .ok (.aload_n 0, 1) := by decide +kernel
theorem dX12_lineup_1 : decode cX12_lineup 1 = .ok (.iconst (-1), 1) := by decide +kernel
theorem dX12_lineup_2 : decode cX12_lineup 2 = .ok (.putfield 124, 3) := by decide +kernel
theorem dX12_lineup_5 : decode cX12_lineup 5 = .ok (.aload_n 0, 1) := by decide +kernel
theorem dX12_lineup_6 : decode cX12_lineup 6 = .ok (.iconst 0, 1) := by decide +kernel
theorem dX12_lineup_7 : decode cX12_lineup 7 = .ok (.iconst 0, 1) := by decide +kernel
theorem dX12_lineup_8 : decode cX12_lineup 8 = .ok (.iconst 0, 1) := by decide +kernel
theorem dX12_lineup_9 : decode cX12_lineup 9 = .ok (.invokevirtual 133, 3) := by decide +kernel
theorem dX12_lineup_12 : decode cX12_lineup 12 = .ok (.aload_n 0, 1) := by decide +kernel
theorem dX12_lineup_13 : decode cX12_lineup 13 = .ok (.getfield 127, 3) := by decide +kernel
theorem dX12_lineup_16 : decode cX12_lineup 16 = .ok (.ireturn, 1) := by decide +kernel
set_option maxRecDepth 20000 in
theorem ggX12_mostOnStage_X12_mostOnStage : GoodIn wsX12_mostOnStage wsX12_mostOnStage := goodIn_r _ [0, 1, 2, 3, 4, 5, 6, 7, 8, 9, 10, 11, 12, 13, 14, 15, 16, 17, 18, 19, 20, 21, 22, 23, 24, 25, 26, 27, 28, 29, 30, 31, 32, 33, 34, 35, 36, 37, 38, 39, 40, 41, 42, 43, 44, 45, 46, 47, 48, 49, 50, 51, 52] (by decide +kernel) (by decide +kernel)
set_option maxRecDepth 20000 in
theorem gX12_mostOnStage_X12_mostOnStage : GoodIn wsX12_mostOnStage (wsV RX12 137 RX12 yX12_mostOnStage wsX12_mostOnStage) := goodIn_app (goodIn_of _ (by decide +kernel)) ggX12_mostOnStage_X12_mostOnStage
set_option maxRecDepth 20000 in
theorem ggX12_mostOnStage_X12_isAct : GoodIn wsX12_mostOnStage wsX12_isAct := goodIn_r _ [12, 13, 14, 8, 15, 16, 17, 18, 19, 20, 37, 38, 39, 40, 41, 42, 43, 44, 45, 46, 47, 48, 49, 50, 51, 52] (by decide +kernel) (by decide +kernel)
set_option maxRecDepth 20000 in
theorem gX12_mostOnStage_X12_isAct : GoodIn wsX12_mostOnStage (wsV RX12 103 RX12 yX12_isAct wsX12_isAct) := goodIn_app (goodIn_of _ (by decide +kernel)) ggX12_mostOnStage_X12_isAct
set_option maxRecDepth 20000 in
theorem ggX12_mostOnStage_X12_its : GoodIn wsX12_mostOnStage wsX12_its := goodIn_r _ [19, 20, 37, 38, 39, 40, 41, 42, 43, 44, 45, 46, 47, 48, 49, 50, 51, 52] (by decide +kernel) (by decide +kernel)
set_option maxRecDepth 20000 in
theorem gX12_mostOnStage_X12_its : GoodIn wsX12_mostOnStage (wsV RX12 51 RX12 yX12_its wsX12_its) := goodIn_app (goodIn_of _ (by decide +kernel)) ggX12_mostOnStage_X12_its
set_option maxRecDepth 20000 in
theorem ggX12_mostOnStage_X12_piecesMeet : GoodIn wsX12_mostOnStage wsX12_piecesMeet := goodIn_r _ [24, 16, 17, 18, 8, 19, 20, 25, 26, 27, 28, 37, 38, 39, 40, 41, 42, 43, 44, 45, 46, 47, 48, 49, 50, 51, 52] (by decide +kernel) (by decide +kernel)
set_option maxRecDepth 20000 in
theorem gX12_mostOnStage_X12_piecesMeet : GoodIn wsX12_mostOnStage (wsV RX12 120 RX12 yX12_piecesMeet wsX12_piecesMeet) := goodIn_app (goodIn_of _ (by decide +kernel)) ggX12_mostOnStage_X12_piecesMeet
set_option maxRecDepth 20000 in
theorem ggX12_mostOnStage_X12_pleases : GoodIn wsX12_mostOnStage wsX12_pleases := goodIn_r _ [32, 33, 34, 35, 8, 36, 20, 37, 38, 39, 40, 41, 42, 43, 44, 45, 46, 47, 48, 49, 50, 51, 52] (by decide +kernel) (by decide +kernel)
set_option maxRecDepth 20000 in
theorem gX12_mostOnStage_X12_pleases : GoodIn wsX12_mostOnStage (wsV RX12 106 RX12 yX12_pleases wsX12_pleases) := goodIn_app (goodIn_of _ (by decide +kernel)) ggX12_mostOnStage_X12_pleases
theorem dX12_mostOnStage_0 : decode cX12_mostOnStage 0 = .ok (.iload_n 2, 1) := by decide +kernel
theorem dX12_mostOnStage_1 : decode cX12_mostOnStage 1 = .ok (.bipush 16, 2) := by decide +kernel
theorem dX12_mostOnStage_3 : decode cX12_mostOnStage 3 = .ok (.if_icmp .ne 5, 3) := by decide +kernel
theorem dX12_mostOnStage_6 : decode cX12_mostOnStage 6 = .ok (.iconst 0, 1) := by decide +kernel
theorem dX12_mostOnStage_7 : decode cX12_mostOnStage 7 = .ok (.ireturn, 1) := by decide +kernel
theorem dX12_mostOnStage_8 : decode cX12_mostOnStage 8 = .ok (.aload_n 0, 1) := by decide +kernel
theorem dX12_mostOnStage_9 : decode cX12_mostOnStage 9 = .ok (.iload_n 1, 1) := by decide +kernel
theorem dX12_mostOnStage_10 : decode cX12_mostOnStage 10 = .ok (.iload_n 2, 1) := by decide +kernel
theorem dX12_mostOnStage_11 : decode cX12_mostOnStage 11 = .ok (.iconst 1, 1) := by decide +kernel
theorem dX12_mostOnStage_12 : decode cX12_mostOnStage 12 = .ok (.iadd, 1) := by decide +kernel
theorem dX12_mostOnStage_13 : decode cX12_mostOnStage 13 = .ok (.iload_n 3, 1) := by decide +kernel
theorem dX12_mostOnStage_14 : decode cX12_mostOnStage 14 = .ok (.invokevirtual 137, 3) := by decide +kernel
theorem dX12_mostOnStage_17 : decode cX12_mostOnStage 17 = .ok (.istore 4, 2) := by decide +kernel
theorem dX12_mostOnStage_19 : decode cX12_mostOnStage 19 = .ok (.aload_n 0, 1) := by decide +kernel
theorem dX12_mostOnStage_20 : decode cX12_mostOnStage 20 = .ok (.iload_n 2, 1) := by decide +kernel
theorem dX12_mostOnStage_21 : decode cX12_mostOnStage 21 = .ok (.invokevirtual 103, 3) := by decide +kernel
theorem dX12_mostOnStage_24 : decode cX12_mostOnStage 24 = .ok (.ifCond .eq 17, 3) := by decide +kernel
theorem dX12_mostOnStage_27 : decode cX12_mostOnStage 27 = .ok (.aload_n 0, 1) := by decide +kernel
theorem dX12_mostOnStage_28 : decode cX12_mostOnStage 28 = .ok (.iload_n 2, 1) := by decide +kernel
theorem dX12_mostOnStage_29 : decode cX12_mostOnStage 29 = .ok (.iconst 1, 1) := by decide +kernel
theorem dX12_mostOnStage_30 : decode cX12_mostOnStage 30 = .ok (.invokevirtual 51, 3) := by decide +kernel
theorem dX12_mostOnStage_33 : decode cX12_mostOnStage 33 = .ok (.iload_n 1, 1) := by decide +kernel
theorem dX12_mostOnStage_34 : decode cX12_mostOnStage 34 = .ok (.if_icmp .ne 7, 3) := by decide +kernel
theorem dX12_mostOnStage_37 : decode cX12_mostOnStage 37 = .ok (.iconst 1, 1) := by decide +kernel
theorem dX12_mostOnStage_38 : decode cX12_mostOnStage 38 = .ok (.goto 4, 3) := by decide +kernel
theorem dX12_mostOnStage_41 : decode cX12_mostOnStage 41 = .ok (.iconst 0, 1) := by decide +kernel
theorem dX12_mostOnStage_42 : decode cX12_mostOnStage 42 = .ok (.istore 5, 2) := by decide +kernel
theorem dX12_mostOnStage_44 : decode cX12_mostOnStage 44 = .ok (.iconst 0, 1) := by decide +kernel
theorem dX12_mostOnStage_45 : decode cX12_mostOnStage 45 = .ok (.istore 6, 2) := by decide +kernel
theorem dX12_mostOnStage_47 : decode cX12_mostOnStage 47 = .ok (.iload 6, 2) := by decide +kernel
theorem dX12_mostOnStage_49 : decode cX12_mostOnStage 49 = .ok (.iload_n 2, 1) := by decide +kernel
theorem dX12_mostOnStage_50 : decode cX12_mostOnStage 50 = .ok (.if_icmp .ge 40, 3) := by decide +kernel
theorem dX12_mostOnStage_53 : decode cX12_mostOnStage 53 = .ok (.iload 5, 2) := by decide +kernel
theorem dX12_mostOnStage_55 : decode cX12_mostOnStage 55 = .ok (.ifCond .eq 35, 3) := by decide +kernel
theorem dX12_mostOnStage_58 : decode cX12_mostOnStage 58 = .ok (.iload_n 3, 1) := by decide +kernel
theorem dX12_mostOnStage_59 : decode cX12_mostOnStage 59 = .ok (.iload 6, 2) := by decide +kernel
theorem dX12_mostOnStage_61 : decode cX12_mostOnStage 61 = .ok (.ishr, 1) := by decide +kernel
theorem dX12_mostOnStage_62 : decode cX12_mostOnStage 62 = .ok (.iconst 1, 1) := by decide +kernel
theorem dX12_mostOnStage_63 : decode cX12_mostOnStage 63 = .ok (.iand, 1) := by decide +kernel
theorem dX12_mostOnStage_64 : decode cX12_mostOnStage 64 = .ok (.ifCond .eq 13, 3) := by decide +kernel
theorem dX12_mostOnStage_67 : decode cX12_mostOnStage 67 = .ok (.aload_n 0, 1) := by decide +kernel
theorem dX12_mostOnStage_68 : decode cX12_mostOnStage 68 = .ok (.iload 6, 2) := by decide +kernel
theorem dX12_mostOnStage_70 : decode cX12_mostOnStage 70 = .ok (.iload_n 2, 1) := by decide +kernel
theorem dX12_mostOnStage_71 : decode cX12_mostOnStage 71 = .ok (.invokevirtual 120, 3) := by decide +kernel
theorem dX12_mostOnStage_74 : decode cX12_mostOnStage 74 = .ok (.ifCond .ne 7, 3) := by decide +kernel
theorem dX12_mostOnStage_77 : decode cX12_mostOnStage 77 = .ok (.iconst 1, 1) := by decide +kernel
theorem dX12_mostOnStage_78 : decode cX12_mostOnStage 78 = .ok (.goto 4, 3) := by decide +kernel
theorem dX12_mostOnStage_81 : decode cX12_mostOnStage 81 = .ok (.iconst 0, 1) := by decide +kernel
theorem dX12_mostOnStage_82 : decode cX12_mostOnStage 82 = .ok (.istore 5, 2) := by decide +kernel
theorem dX12_mostOnStage_84 : decode cX12_mostOnStage 84 = .ok (.iinc 6 1, 3) := by decide +kernel
theorem dX12_mostOnStage_87 : decode cX12_mostOnStage 87 = .ok (.goto (-40), 3) := by decide +kernel
theorem dX12_mostOnStage_90 : decode cX12_mostOnStage 90 = .ok (.iload 5, 2) := by decide +kernel
theorem dX12_mostOnStage_92 : decode cX12_mostOnStage 92 = .ok (.ifCond .eq 30, 3) := by decide +kernel
theorem dX12_mostOnStage_95 : decode cX12_mostOnStage 95 = .ok (.iload 4, 2) := by decide +kernel
theorem dX12_mostOnStage_97 : decode cX12_mostOnStage 97 = .ok (.aload_n 0, 1) := by decide +kernel
theorem dX12_mostOnStage_98 : decode cX12_mostOnStage 98 = .ok (.iload_n 2, 1) := by decide +kernel
theorem dX12_mostOnStage_99 : decode cX12_mostOnStage 99 = .ok (.invokevirtual 106, 3) := by decide +kernel
theorem dX12_mostOnStage_102 : decode cX12_mostOnStage 102 = .ok (.aload_n 0, 1) := by decide +kernel
theorem dX12_mostOnStage_103 : decode cX12_mostOnStage 103 = .ok (.iload_n 1, 1) := by decide +kernel
theorem dX12_mostOnStage_104 : decode cX12_mostOnStage 104 = .ok (.iload_n 2, 1) := by decide +kernel
theorem dX12_mostOnStage_105 : decode cX12_mostOnStage 105 = .ok (.iconst 1, 1) := by decide +kernel
theorem dX12_mostOnStage_106 : decode cX12_mostOnStage 106 = .ok (.iadd, 1) := by decide +kernel
theorem dX12_mostOnStage_107 : decode cX12_mostOnStage 107 = .ok (.iload_n 3, 1) := by decide +kernel
theorem dX12_mostOnStage_108 : decode cX12_mostOnStage 108 = .ok (.iconst 1, 1) := by decide +kernel
theorem dX12_mostOnStage_109 : decode cX12_mostOnStage 109 = .ok (.iload_n 2, 1) := by decide +kernel
theorem dX12_mostOnStage_110 : decode cX12_mostOnStage 110 = .ok (.ishl, 1) := by decide +kernel
theorem dX12_mostOnStage_111 : decode cX12_mostOnStage 111 = .ok (.ior, 1) := by decide +kernel
theorem dX12_mostOnStage_112 : decode cX12_mostOnStage 112 = .ok (.invokevirtual 137, 3) := by decide +kernel
theorem dX12_mostOnStage_115 : decode cX12_mostOnStage 115 = .ok (.iadd, 1) := by decide +kernel
theorem dX12_mostOnStage_116 : decode cX12_mostOnStage 116 = .ok (.invokestatic 140, 3) := by decide +kernel
theorem dX12_mostOnStage_119 : decode cX12_mostOnStage 119 = .ok (.goto 5, 3) := by decide +kernel
theorem dX12_mostOnStage_122 : decode cX12_mostOnStage 122 = .ok (.iload 4, 2) := by decide +kernel
theorem dX12_mostOnStage_124 : decode cX12_mostOnStage 124 = .ok (.ireturn, 1) := by decide +kernel
set_option maxRecDepth 20000 in
theorem ggX12_bound_X12_mostOnStage : GoodIn wsX12_bound wsX12_mostOnStage := goodIn_r _ [5, 6, 7, 8, 9, 1, 2, 3, 4, 10, 11, 12, 13, 14, 15, 16, 17, 18, 19, 20, 21, 22, 23, 24, 25, 26, 27, 28, 29, 30, 31, 32, 33, 34, 35, 36, 37, 38, 39, 40, 41, 42, 43, 44, 45, 46, 47, 48, 49, 50, 51, 52, 53] (by decide +kernel) (by decide +kernel)
set_option maxRecDepth 20000 in
theorem gX12_bound_X12_mostOnStage : GoodIn wsX12_bound (wsV RX12 137 RX12 yX12_mostOnStage wsX12_mostOnStage) := goodIn_app (goodIn_of _ (by decide +kernel)) ggX12_bound_X12_mostOnStage
theorem dX12_bound_0 : decode cX12_bound 0 = .ok (.iconst 0, 1) := by decide +kernel
theorem dX12_bound_1 : decode cX12_bound 1 = .ok (.istore_n 1, 1) := by decide +kernel
theorem dX12_bound_2 : decode cX12_bound 2 = .ok (.iconst 0, 1) := by decide +kernel
theorem dX12_bound_3 : decode cX12_bound 3 = .ok (.istore_n 2, 1) := by decide +kernel
theorem dX12_bound_4 : decode cX12_bound 4 = .ok (.iload_n 2, 1) := by decide +kernel
theorem dX12_bound_5 : decode cX12_bound 5 = .ok (.iconst 4, 1) := by decide +kernel
theorem dX12_bound_6 : decode cX12_bound 6 = .ok (.if_icmp .ge 19, 3) := by decide +kernel
theorem dX12_bound_9 : decode cX12_bound 9 = .ok (.iload_n 1, 1) := by decide +kernel
theorem dX12_bound_10 : decode cX12_bound 10 = .ok (.aload_n 0, 1) := by decide +kernel
theorem dX12_bound_11 : decode cX12_bound 11 = .ok (.iload_n 2, 1) := by decide +kernel
theorem dX12_bound_12 : decode cX12_bound 12 = .ok (.iconst 0, 1) := by decide +kernel
theorem dX12_bound_13 : decode cX12_bound 13 = .ok (.iconst 0, 1) := by decide +kernel
theorem dX12_bound_14 : decode cX12_bound 14 = .ok (.invokevirtual 137, 3) := by decide +kernel
theorem dX12_bound_17 : decode cX12_bound 17 = .ok (.iadd, 1) := by decide +kernel
theorem dX12_bound_18 : decode cX12_bound 18 = .ok (.istore_n 1, 1) := by decide +kernel
theorem dX12_bound_19 : decode cX12_bound 19 = .ok (.iinc 2 1, 3) := by decide +kernel
theorem dX12_bound_22 : decode cX12_bound 22 = .ok (.goto (-18), 3) := by decide +kernel
theorem dX12_bound_25 : decode cX12_bound 25 = .ok (.iload_n 1, 1) := by decide +kernel
theorem dX12_bound_26 : decode cX12_bound 26 = .ok (.ireturn, 1) := by decide +kernel
set_option maxRecDepth 20000 in
theorem ggX12_pleased_X12_bound : GoodIn wsX12_pleased wsX12_bound := goodIn_r _ [7, 8, 9, 10, 6, 11, 12, 13, 14, 15, 16, 17, 18, 19, 20, 21, 22, 23, 24, 25, 26, 27, 28, 29, 30, 31, 32, 33, 34, 35, 36, 37, 38, 39, 40, 41, 42, 43, 57, 58, 59, 60, 61, 62, 63, 64, 65, 66, 67, 68, 69, 70, 71, 72] (by decide +kernel) (by decide +kernel)
set_option maxRecDepth 20000 in
theorem gX12_pleased_X12_bound : GoodIn wsX12_pleased (wsV RX12 143 RX12 yX12_bound wsX12_bound) := goodIn_app (goodIn_of _ (by decide +kernel)) ggX12_pleased_X12_bound
set_option maxRecDepth 20000 in
theorem ggX12_pleased_X12_lineup : GoodIn wsX12_pleased wsX12_lineup := goodIn_r _ [47, 2, 48, 49, 50, 51, 6, 52, 16, 17, 18, 19, 20, 21, 22, 23, 24, 25, 26, 27, 53, 54, 55, 56, 28, 29, 30, 31, 32, 33, 34, 35, 36, 37, 38, 39, 40, 41, 42, 43, 57, 58, 59, 60, 61, 62, 63, 64, 65, 66, 67, 68, 69, 70, 71, 72] (by decide +kernel) (by decide +kernel)
set_option maxRecDepth 20000 in
theorem gX12_pleased_X12_lineup : GoodIn wsX12_pleased (wsV RX12 147 RX12 yX12_lineup wsX12_lineup) := goodIn_app (goodIn_of _ (by decide +kernel)) ggX12_pleased_X12_lineup
theorem dX12_pleased_0 : decode cX12_pleased 0 = .ok (.aload_n 0, 1) := by decide +kernel
theorem dX12_pleased_1 : decode cX12_pleased 1 = .ok (.iconst 0, 1) := by decide +kernel
theorem dX12_pleased_2 : decode cX12_pleased 2 = .ok (.putfield 39, 3) := by decide +kernel
theorem dX12_pleased_5 : decode cX12_pleased 5 = .ok (.iload_n 1, 1) := by decide +kernel
theorem dX12_pleased_6 : decode cX12_pleased 6 = .ok (.ifCond .eq 8, 3) := by decide +kernel
theorem dX12_pleased_9 : decode cX12_pleased 9 = .ok (.aload_n 0, 1) := by decide +kernel
theorem dX12_pleased_10 : decode cX12_pleased 10 = .ok (.invokevirtual 143, 3) := by decide +kernel
theorem dX12_pleased_13 : decode cX12_pleased 13 = .ok (.ireturn, 1) := by decide +kernel
theorem dX12_pleased_14 : decode cX12_pleased 14 = .ok (.aload_n 0, 1) := by decide +kernel
theorem dX12_pleased_15 : decode cX12_pleased 15 = .ok (.invokevirtual 147, 3) := by decide +kernel
theorem dX12_pleased_18 : decode cX12_pleased 18 = .ok (.istore_n 2, 1) := by decide +kernel
theorem dX12_pleased_19 : decode cX12_pleased 19 = .ok (.iload_n 2, 1) := by decide +kernel
theorem dX12_pleased_20 : decode cX12_pleased 20 = .ok (.ifCond .lt 10, 3) := by decide +kernel
theorem dX12_pleased_23 : decode cX12_pleased 23 = .ok (.aload_n 0, 1) := by decide +kernel
theorem dX12_pleased_24 : decode cX12_pleased 24 = .ok (.getfield 124, 3) := by decide +kernel
theorem dX12_pleased_27 : decode cX12_pleased 27 = .ok (.goto 4, 3) := by decide +kernel
theorem dX12_pleased_30 : decode cX12_pleased 30 = .ok (.iconst 0, 1) := by decide +kernel
theorem dX12_pleased_31 : decode cX12_pleased 31 = .ok (.ireturn, 1) := by decide +kernel
set_option maxRecDepth 20000 in
theorem ggX12_actAt_X12_isAct : GoodIn wsX12_actAt wsX12_isAct := goodIn_r _ [5, 6, 7, 4, 8, 9, 10, 11, 12, 13, 53, 54, 55, 56, 57, 58, 59, 60, 61, 62, 63, 64, 65, 66, 67, 68] (by decide +kernel) (by decide +kernel)
set_option maxRecDepth 20000 in
theorem gX12_actAt_X12_isAct : GoodIn wsX12_actAt (wsV RX12 103 RX12 yX12_isAct wsX12_isAct) := goodIn_app (goodIn_of _ (by decide +kernel)) ggX12_actAt_X12_isAct
set_option maxRecDepth 20000 in
theorem ggX12_actAt_X12_lacks : GoodIn wsX12_actAt wsX12_lacks := goodIn_r _ [17, 18, 19, 20, 21, 4, 22, 53, 54, 55, 56, 57, 58, 59, 60, 61, 62, 63, 64, 65, 66, 67, 68] (by decide +kernel) (by decide +kernel)
set_option maxRecDepth 20000 in
theorem gX12_actAt_X12_lacks : GoodIn wsX12_actAt (wsV RX12 78 RX12 yX12_lacks wsX12_lacks) := goodIn_app (goodIn_of _ (by decide +kernel)) ggX12_actAt_X12_lacks
set_option maxRecDepth 20000 in
theorem ggX12_actAt_X12_in : GoodIn wsX12_actAt wsX12_in := goodIn_r _ [8] (by decide +kernel) (by decide +kernel)
set_option maxRecDepth 20000 in
theorem gX12_actAt_X12_in : GoodIn wsX12_actAt (va_wsS RX12 47 yX12_in wsX12_in) := goodIn_app (goodIn_of _ (by decide +kernel)) ggX12_actAt_X12_in
set_option maxRecDepth 20000 in
theorem ggX12_actAt_X12_no : GoodIn wsX12_actAt wsX12_no := goodIn_r _ [22, 18, 53, 54, 55, 56, 57, 58, 59, 60, 61, 62, 63, 64, 65, 66, 67, 68] (by decide +kernel) (by decide +kernel)
set_option maxRecDepth 20000 in
theorem gX12_actAt_X12_no : GoodIn wsX12_actAt (wsV RX12 43 RX12 yX12_no wsX12_no) := goodIn_app (goodIn_of _ (by decide +kernel)) ggX12_actAt_X12_no
set_option maxRecDepth 20000 in
theorem ggX12_actAt_X12_its : GoodIn wsX12_actAt wsX12_its := goodIn_r _ [12, 13, 53, 54, 55, 56, 57, 58, 59, 60, 61, 62, 63, 64, 65, 66, 67, 68] (by decide +kernel) (by decide +kernel)
set_option maxRecDepth 20000 in
theorem gX12_actAt_X12_its : GoodIn wsX12_actAt (wsV RX12 51 RX12 yX12_its wsX12_its) := goodIn_app (goodIn_of _ (by decide +kernel)) ggX12_actAt_X12_its
set_option maxRecDepth 20000 in
theorem ggX12_actAt_X12_pleases : GoodIn wsX12_actAt wsX12_pleases := goodIn_r _ [26, 27, 28, 29, 4, 30, 13, 53, 54, 55, 56, 57, 58, 59, 60, 61, 62, 63, 64, 65, 66, 67, 68] (by decide +kernel) (by decide +kernel)
set_option maxRecDepth 20000 in
theorem gX12_actAt_X12_pleases : GoodIn wsX12_actAt (wsV RX12 106 RX12 yX12_pleases wsX12_pleases) := goodIn_app (goodIn_of _ (by decide +kernel)) ggX12_actAt_X12_pleases
set_option maxRecDepth 20000 in
theorem ggX12_actAt_X12_lineup : GoodIn wsX12_actAt wsX12_lineup := goodIn_r _ [34, 35, 36, 37, 38, 39, 4, 40, 1, 2, 3, 5, 6, 7, 8, 9, 10, 11, 12, 13, 41, 42, 43, 44, 45, 46, 47, 48, 49, 50, 51, 52, 23, 24, 25, 26, 27, 28, 29, 30, 53, 54, 55, 56, 57, 58, 59, 60, 61, 62, 63, 64, 65, 66, 67, 68] (by decide +kernel) (by decide +kernel)
set_option maxRecDepth 20000 in
theorem gX12_actAt_X12_lineup : GoodIn wsX12_actAt (wsV RX12 147 RX12 yX12_lineup wsX12_lineup) := goodIn_app (goodIn_of _ (by decide +kernel)) ggX12_actAt_X12_lineup
theorem dX12_actAt_0 : decode cX12_actAt 0 = .ok (.aload_n 0, 1) := by decide +kernel
theorem dX12_actAt_1 : decode cX12_actAt 1 = .ok (.aload_n 0, 1) := by decide +kernel
theorem dX12_actAt_2 : decode cX12_actAt 2 = .ok (.iload_n 1, 1) := by decide +kernel
theorem dX12_actAt_3 : decode cX12_actAt 3 = .ok (.invokevirtual 103, 3) := by decide +kernel
theorem dX12_actAt_6 : decode cX12_actAt 6 = .ok (.invokevirtual 78, 3) := by decide +kernel
theorem dX12_actAt_9 : decode cX12_actAt 9 = .ok (.ifCond .ne 18, 3) := by decide +kernel
theorem dX12_actAt_12 : decode cX12_actAt 12 = .ok (.aload_n 0, 1) := by decide +kernel
theorem dX12_actAt_13 : decode cX12_actAt 13 = .ok (.iload_n 2, 1) := by decide +kernel
theorem dX12_actAt_14 : decode cX12_actAt 14 = .ok (.iconst 0, 1) := by decide +kernel
theorem dX12_actAt_15 : decode cX12_actAt 15 = .ok (.bipush 6, 2) := by decide +kernel
theorem dX12_actAt_17 : decode cX12_actAt 17 = .ok (.invokestatic 47, 3) := by decide +kernel
theorem dX12_actAt_20 : decode cX12_actAt 20 = .ok (.iconst 2, 1) := by decide +kernel
theorem dX12_actAt_21 : decode cX12_actAt 21 = .ok (.invokevirtual 43, 3) := by decide +kernel
theorem dX12_actAt_24 : decode cX12_actAt 24 = .ok (.ifCond .eq 5, 3) := by decide +kernel
theorem dX12_actAt_27 : decode cX12_actAt 27 = .ok (.iconst 0, 1) := by decide +kernel
theorem dX12_actAt_28 : decode cX12_actAt 28 = .ok (.ireturn, 1) := by decide +kernel
theorem dX12_actAt_29 : decode cX12_actAt 29 = .ok (.iload_n 2, 1) := by decide +kernel
theorem dX12_actAt_30 : decode cX12_actAt 30 = .ok (.iconst 5, 1) := by decide +kernel
theorem dX12_actAt_31 : decode cX12_actAt 31 = .ok (.if_icmp .ge 14, 3) := by decide +kernel
theorem dX12_actAt_34 : decode cX12_actAt 34 = .ok (.aload_n 0, 1) := by decide +kernel
theorem dX12_actAt_35 : decode cX12_actAt 35 = .ok (.iload_n 1, 1) := by decide +kernel
theorem dX12_actAt_36 : decode cX12_actAt 36 = .ok (.iconst 1, 1) := by decide +kernel
theorem dX12_actAt_37 : decode cX12_actAt 37 = .ok (.iload_n 2, 1) := by decide +kernel
theorem dX12_actAt_38 : decode cX12_actAt 38 = .ok (.iadd, 1) := by decide +kernel
theorem dX12_actAt_39 : decode cX12_actAt 39 = .ok (.invokevirtual 51, 3) := by decide +kernel
theorem dX12_actAt_42 : decode cX12_actAt 42 = .ok (.goto 24, 3) := by decide +kernel
theorem dX12_actAt_45 : decode cX12_actAt 45 = .ok (.iload_n 2, 1) := by decide +kernel
theorem dX12_actAt_46 : decode cX12_actAt 46 = .ok (.iconst 5, 1) := by decide +kernel
theorem dX12_actAt_47 : decode cX12_actAt 47 = .ok (.if_icmp .ne 11, 3) := by decide +kernel
theorem dX12_actAt_50 : decode cX12_actAt 50 = .ok (.aload_n 0, 1) := by decide +kernel
theorem dX12_actAt_51 : decode cX12_actAt 51 = .ok (.iload_n 1, 1) := by decide +kernel
theorem dX12_actAt_52 : decode cX12_actAt 52 = .ok (.invokevirtual 106, 3) := by decide +kernel
theorem dX12_actAt_55 : decode cX12_actAt 55 = .ok (.goto 11, 3) := by decide +kernel
theorem dX12_actAt_58 : decode cX12_actAt 58 = .ok (.aload_n 0, 1) := by decide +kernel
theorem dX12_actAt_59 : decode cX12_actAt 59 = .ok (.invokevirtual 147, 3) := by decide +kernel
theorem dX12_actAt_62 : decode cX12_actAt 62 = .ok (.iload_n 1, 1) := by decide +kernel
theorem dX12_actAt_63 : decode cX12_actAt 63 = .ok (.ishr, 1) := by decide +kernel
theorem dX12_actAt_64 : decode cX12_actAt 64 = .ok (.iconst 1, 1) := by decide +kernel
theorem dX12_actAt_65 : decode cX12_actAt 65 = .ok (.iand, 1) := by decide +kernel
theorem dX12_actAt_66 : decode cX12_actAt 66 = .ok (.ireturn, 1) := by decide +kernel
set_option maxRecDepth 20000 in
theorem ggX12_actsNow_X12_its : GoodIn wsX12_actsNow wsX12_its := goodIn_r _ [5, 6, 7, 8, 9, 10, 11, 12, 13, 14, 15, 16, 17, 18, 19, 20, 21, 22] (by decide +kernel) (by decide +kernel)
set_option maxRecDepth 20000 in
theorem gX12_actsNow_X12_its : GoodIn wsX12_actsNow (wsV RX12 51 RX12 yX12_its wsX12_its) := goodIn_app (goodIn_of _ (by decide +kernel)) ggX12_actsNow_X12_its
theorem dX12_actsNow_0 : decode cX12_actsNow 0 = .ok (.iconst 0, 1) := by decide +kernel
theorem dX12_actsNow_1 : decode cX12_actsNow 1 = .ok (.istore_n 1, 1) := by decide +kernel
theorem dX12_actsNow_2 : decode cX12_actsNow 2 = .ok (.iconst 0, 1) := by decide +kernel
theorem dX12_actsNow_3 : decode cX12_actsNow 3 = .ok (.istore_n 2, 1) := by decide +kernel
theorem dX12_actsNow_4 : decode cX12_actsNow 4 = .ok (.iload_n 2, 1) := by decide +kernel
theorem dX12_actsNow_5 : decode cX12_actsNow 5 = .ok (.bipush 16, 2) := by decide +kernel
theorem dX12_actsNow_7 : decode cX12_actsNow 7 = .ok (.if_icmp .ge 18, 3) := by decide +kernel
theorem dX12_actsNow_10 : decode cX12_actsNow 10 = .ok (.iload_n 1, 1) := by decide +kernel
theorem dX12_actsNow_11 : decode cX12_actsNow 11 = .ok (.aload_n 0, 1) := by decide +kernel
theorem dX12_actsNow_12 : decode cX12_actsNow 12 = .ok (.iload_n 2, 1) := by decide +kernel
theorem dX12_actsNow_13 : decode cX12_actsNow 13 = .ok (.iconst 0, 1) := by decide +kernel
theorem dX12_actsNow_14 : decode cX12_actsNow 14 = .ok (.invokevirtual 51, 3) := by decide +kernel
theorem dX12_actsNow_17 : decode cX12_actsNow 17 = .ok (.iadd, 1) := by decide +kernel
theorem dX12_actsNow_18 : decode cX12_actsNow 18 = .ok (.istore_n 1, 1) := by decide +kernel
theorem dX12_actsNow_19 : decode cX12_actsNow 19 = .ok (.iinc 2 1, 3) := by decide +kernel
theorem dX12_actsNow_22 : decode cX12_actsNow 22 = .ok (.goto (-18), 3) := by decide +kernel
theorem dX12_actsNow_25 : decode cX12_actsNow 25 = .ok (.iload_n 1, 1) := by decide +kernel
theorem dX12_actsNow_26 : decode cX12_actsNow 26 = .ok (.ireturn, 1) := by decide +kernel
set_option maxRecDepth 20000 in
theorem ggX12_acts_X12_actsNow : GoodIn wsX12_acts wsX12_actsNow := goodIn_r _ [6, 7, 8, 9, 5, 10, 11, 12, 13, 14, 15, 16, 17, 18, 19, 20, 21, 22, 23, 24, 25, 26, 27] (by decide +kernel) (by decide +kernel)
set_option maxRecDepth 20000 in
theorem gX12_acts_X12_actsNow : GoodIn wsX12_acts (wsV RX12 150 RX12 yX12_actsNow wsX12_actsNow) := goodIn_app (goodIn_of _ (by decide +kernel)) ggX12_acts_X12_actsNow
theorem dX12_acts_0 : decode cX12_acts 0 = .ok (.aload_n 0, 1) := by decide +kernel
theorem dX12_acts_1 : decode cX12_acts 1 = .ok (.iconst 0, 1) := by decide +kernel
theorem dX12_acts_2 : decode cX12_acts 2 = .ok (.putfield 39, 3) := by decide +kernel
theorem dX12_acts_5 : decode cX12_acts 5 = .ok (.aload_n 0, 1) := by decide +kernel
theorem dX12_acts_6 : decode cX12_acts 6 = .ok (.invokevirtual 150, 3) := by decide +kernel
theorem dX12_acts_9 : decode cX12_acts 9 = .ok (.ireturn, 1) := by decide +kernel
set_option maxRecDepth 20000 in
theorem ggX12_firstIn_X12_isStage : GoodIn wsX12_firstIn wsX12_isStage := goodIn_r _ [4, 5, 6, 3, 7] (by decide +kernel) (by decide +kernel)
set_option maxRecDepth 20000 in
theorem gX12_firstIn_X12_isStage : GoodIn wsX12_firstIn (va_wsS RX12 86 yX12_isStage wsX12_isStage) := goodIn_app (goodIn_of _ (by decide +kernel)) ggX12_firstIn_X12_isStage
set_option maxRecDepth 20000 in
theorem ggX12_firstIn_X12_lacks : GoodIn wsX12_firstIn wsX12_lacks := goodIn_r _ [11, 12, 13, 14, 15, 3, 16, 26, 27, 28, 29, 30, 31, 32, 33, 34, 35, 36, 37, 38, 39, 40, 41] (by decide +kernel) (by decide +kernel)
set_option maxRecDepth 20000 in
theorem gX12_firstIn_X12_lacks : GoodIn wsX12_firstIn (wsV RX12 78 RX12 yX12_lacks wsX12_lacks) := goodIn_app (goodIn_of _ (by decide +kernel)) ggX12_firstIn_X12_lacks
set_option maxRecDepth 20000 in
theorem ggX12_firstIn_X12_no : GoodIn wsX12_firstIn wsX12_no := goodIn_r _ [16, 12, 26, 27, 28, 29, 30, 31, 32, 33, 34, 35, 36, 37, 38, 39, 40, 41] (by decide +kernel) (by decide +kernel)
set_option maxRecDepth 20000 in
theorem gX12_firstIn_X12_no : GoodIn wsX12_firstIn (wsV RX12 43 RX12 yX12_no wsX12_no) := goodIn_app (goodIn_of _ (by decide +kernel)) ggX12_firstIn_X12_no
set_option maxRecDepth 20000 in
theorem ggX12_firstIn_X12_isAct : GoodIn wsX12_firstIn wsX12_isAct := goodIn_r _ [20, 5, 6, 3, 7, 21, 22, 23, 24, 25, 26, 27, 28, 29, 30, 31, 32, 33, 34, 35, 36, 37, 38, 39, 40, 41] (by decide +kernel) (by decide +kernel)
set_option maxRecDepth 20000 in
theorem gX12_firstIn_X12_isAct : GoodIn wsX12_firstIn (wsV RX12 103 RX12 yX12_isAct wsX12_isAct) := goodIn_app (goodIn_of _ (by decide +kernel)) ggX12_firstIn_X12_isAct
set_option maxRecDepth 20000 in
theorem ggX12_firstIn_X12_its : GoodIn wsX12_firstIn wsX12_its := goodIn_r _ [24, 25, 26, 27, 28, 29, 30, 31, 32, 33, 34, 35, 36, 37, 38, 39, 40, 41] (by decide +kernel) (by decide +kernel)
set_option maxRecDepth 20000 in
theorem gX12_firstIn_X12_its : GoodIn wsX12_firstIn (wsV RX12 51 RX12 yX12_its wsX12_its) := goodIn_app (goodIn_of _ (by decide +kernel)) ggX12_firstIn_X12_its
theorem dX12_firstIn_0 : decode cX12_firstIn 0 = .ok (.aload_n 0, 1) := by decide +kernel
theorem dX12_firstIn_1 : decode cX12_firstIn 1 = .ok (.iload_n 1, 1) := by decide +kernel
theorem dX12_firstIn_2 : decode cX12_firstIn 2 = .ok (.invokestatic 86, 3) := by decide +kernel
theorem dX12_firstIn_5 : decode cX12_firstIn 5 = .ok (.invokevirtual 78, 3) := by decide +kernel
theorem dX12_firstIn_8 : decode cX12_firstIn 8 = .ok (.ifCond .ne 21, 3) := by decide +kernel
theorem dX12_firstIn_11 : decode cX12_firstIn 11 = .ok (.aload_n 0, 1) := by decide +kernel
theorem dX12_firstIn_12 : decode cX12_firstIn 12 = .ok (.iload_n 2, 1) := by decide +kernel
theorem dX12_firstIn_13 : decode cX12_firstIn 13 = .ok (.iload_n 3, 1) := by decide +kernel
theorem dX12_firstIn_14 : decode cX12_firstIn 14 = .ok (.if_icmp .gt 7, 3) := by decide +kernel
theorem dX12_firstIn_17 : decode cX12_firstIn 17 = .ok (.iconst 1, 1) := by decide +kernel
theorem dX12_firstIn_18 : decode cX12_firstIn 18 = .ok (.goto 4, 3) := by decide +kernel
theorem dX12_firstIn_21 : decode cX12_firstIn 21 = .ok (.iconst 0, 1) := by decide +kernel
theorem dX12_firstIn_22 : decode cX12_firstIn 22 = .ok (.iconst 2, 1) := by decide +kernel
theorem dX12_firstIn_23 : decode cX12_firstIn 23 = .ok (.invokevirtual 43, 3) := by decide +kernel
theorem dX12_firstIn_26 : decode cX12_firstIn 26 = .ok (.ifCond .eq 5, 3) := by decide +kernel
theorem dX12_firstIn_29 : decode cX12_firstIn 29 = .ok (.iconst 0, 1) := by decide +kernel
theorem dX12_firstIn_30 : decode cX12_firstIn 30 = .ok (.ireturn, 1) := by decide +kernel
theorem dX12_firstIn_31 : decode cX12_firstIn 31 = .ok (.iconst (-1), 1) := by decide +kernel
theorem dX12_firstIn_32 : decode cX12_firstIn 32 = .ok (.istore 4, 2) := by decide +kernel
theorem dX12_firstIn_34 : decode cX12_firstIn 34 = .ok (.iconst 0, 1) := by decide +kernel
theorem dX12_firstIn_35 : decode cX12_firstIn 35 = .ok (.istore 5, 2) := by decide +kernel
theorem dX12_firstIn_37 : decode cX12_firstIn 37 = .ok (.iload 5, 2) := by decide +kernel
theorem dX12_firstIn_39 : decode cX12_firstIn 39 = .ok (.bipush 16, 2) := by decide +kernel
theorem dX12_firstIn_41 : decode cX12_firstIn 41 = .ok (.if_icmp .ge 81, 3) := by decide +kernel
theorem dX12_firstIn_44 : decode cX12_firstIn 44 = .ok (.aload_n 0, 1) := by decide +kernel
theorem dX12_firstIn_45 : decode cX12_firstIn 45 = .ok (.iload 5, 2) := by decide +kernel
theorem dX12_firstIn_47 : decode cX12_firstIn 47 = .ok (.invokevirtual 103, 3) := by decide +kernel
theorem dX12_firstIn_50 : decode cX12_firstIn 50 = .ok (.ifCond .eq 66, 3) := by decide +kernel
theorem dX12_firstIn_53 : decode cX12_firstIn 53 = .ok (.aload_n 0, 1) := by decide +kernel
theorem dX12_firstIn_54 : decode cX12_firstIn 54 = .ok (.iload 5, 2) := by decide +kernel
theorem dX12_firstIn_56 : decode cX12_firstIn 56 = .ok (.iconst 1, 1) := by decide +kernel
theorem dX12_firstIn_57 : decode cX12_firstIn 57 = .ok (.invokevirtual 51, 3) := by decide +kernel
theorem dX12_firstIn_60 : decode cX12_firstIn 60 = .ok (.iload_n 1, 1) := by decide +kernel
theorem dX12_firstIn_61 : decode cX12_firstIn 61 = .ok (.if_icmp .ne 55, 3) := by decide +kernel
theorem dX12_firstIn_64 : decode cX12_firstIn 64 = .ok (.aload_n 0, 1) := by decide +kernel
theorem dX12_firstIn_65 : decode cX12_firstIn 65 = .ok (.iload 5, 2) := by decide +kernel
theorem dX12_firstIn_67 : decode cX12_firstIn 67 = .ok (.iconst 2, 1) := by decide +kernel
theorem dX12_firstIn_68 : decode cX12_firstIn 68 = .ok (.invokevirtual 51, 3) := by decide +kernel
theorem dX12_firstIn_71 : decode cX12_firstIn 71 = .ok (.iload_n 2, 1) := by decide +kernel
theorem dX12_firstIn_72 : decode cX12_firstIn 72 = .ok (.if_icmp .lt 44, 3) := by decide +kernel
theorem dX12_firstIn_75 : decode cX12_firstIn 75 = .ok (.aload_n 0, 1) := by decide +kernel
theorem dX12_firstIn_76 : decode cX12_firstIn 76 = .ok (.iload 5, 2) := by decide +kernel
theorem dX12_firstIn_78 : decode cX12_firstIn 78 = .ok (.iconst 2, 1) := by decide +kernel
theorem dX12_firstIn_79 : decode cX12_firstIn 79 = .ok (.invokevirtual 51, 3) := by decide +kernel
theorem dX12_firstIn_82 : decode cX12_firstIn 82 = .ok (.iload_n 3, 1) := by decide +kernel
theorem dX12_firstIn_83 : decode cX12_firstIn 83 = .ok (.if_icmp .lt 6, 3) := by decide +kernel
theorem dX12_firstIn_86 : decode cX12_firstIn 86 = .ok (.goto 30, 3) := by decide +kernel
theorem dX12_firstIn_89 : decode cX12_firstIn 89 = .ok (.iload 4, 2) := by decide +kernel
theorem dX12_firstIn_91 : decode cX12_firstIn 91 = .ok (.iconst (-1), 1) := by decide +kernel
theorem dX12_firstIn_92 : decode cX12_firstIn 92 = .ok (.if_icmp .eq 20, 3) := by decide +kernel
theorem dX12_firstIn_95 : decode cX12_firstIn 95 = .ok (.aload_n 0, 1) := by decide +kernel
theorem dX12_firstIn_96 : decode cX12_firstIn 96 = .ok (.iload 5, 2) := by decide +kernel
theorem dX12_firstIn_98 : decode cX12_firstIn 98 = .ok (.iconst 2, 1) := by decide +kernel
theorem dX12_firstIn_99 : decode cX12_firstIn 99 = .ok (.invokevirtual 51, 3) := by decide +kernel
theorem dX12_firstIn_102 : decode cX12_firstIn 102 = .ok (.aload_n 0, 1) := by decide +kernel
theorem dX12_firstIn_103 : decode cX12_firstIn 103 = .ok (.iload 4, 2) := by decide +kernel
theorem dX12_firstIn_105 : decode cX12_firstIn 105 = .ok (.iconst 2, 1) := by decide +kernel
theorem dX12_firstIn_106 : decode cX12_firstIn 106 = .ok (.invokevirtual 51, 3) := by decide +kernel
theorem dX12_firstIn_109 : decode cX12_firstIn 109 = .ok (.if_icmp .ge 7, 3) := by decide +kernel
theorem dX12_firstIn_112 : decode cX12_firstIn 112 = .ok (.iload 5, 2) := by decide +kernel
theorem dX12_firstIn_114 : decode cX12_firstIn 114 = .ok (.istore 4, 2) := by decide +kernel
theorem dX12_firstIn_116 : decode cX12_firstIn 116 = .ok (.iinc 5 1, 3) := by decide +kernel
theorem dX12_firstIn_119 : decode cX12_firstIn 119 = .ok (.goto (-82), 3) := by decide +kernel
theorem dX12_firstIn_122 : decode cX12_firstIn 122 = .ok (.iload 4, 2) := by decide +kernel
theorem dX12_firstIn_124 : decode cX12_firstIn 124 = .ok (.ireturn, 1) := by decide +kernel
set_option maxRecDepth 20000 in
theorem ggX12_clash_X12_isAct : GoodIn wsX12_clash wsX12_isAct := goodIn_r _ [5, 6, 7, 4, 8, 9, 10, 11, 12, 13, 35, 36, 37, 38, 39, 40, 41, 42, 43, 44, 45, 46, 47, 48, 49, 50] (by decide +kernel) (by decide +kernel)
set_option maxRecDepth 20000 in
theorem gX12_clash_X12_isAct : GoodIn wsX12_clash (wsV RX12 103 RX12 yX12_isAct wsX12_isAct) := goodIn_app (goodIn_of _ (by decide +kernel)) ggX12_clash_X12_isAct
set_option maxRecDepth 20000 in
theorem ggX12_clash_X12_lacks : GoodIn wsX12_clash wsX12_lacks := goodIn_r _ [17, 18, 19, 20, 21, 4, 22, 35, 36, 37, 38, 39, 40, 41, 42, 43, 44, 45, 46, 47, 48, 49, 50] (by decide +kernel) (by decide +kernel)
set_option maxRecDepth 20000 in
theorem gX12_clash_X12_lacks : GoodIn wsX12_clash (wsV RX12 78 RX12 yX12_lacks wsX12_lacks) := goodIn_app (goodIn_of _ (by decide +kernel)) ggX12_clash_X12_lacks
set_option maxRecDepth 20000 in
theorem ggX12_clash_X12_no : GoodIn wsX12_clash wsX12_no := goodIn_r _ [22, 18, 35, 36, 37, 38, 39, 40, 41, 42, 43, 44, 45, 46, 47, 48, 49, 50] (by decide +kernel) (by decide +kernel)
set_option maxRecDepth 20000 in
theorem gX12_clash_X12_no : GoodIn wsX12_clash (wsV RX12 43 RX12 yX12_no wsX12_no) := goodIn_app (goodIn_of _ (by decide +kernel)) ggX12_clash_X12_no
set_option maxRecDepth 20000 in
theorem ggX12_clash_X12_areClashing : GoodIn wsX12_clash wsX12_areClashing := goodIn_r _ [26, 27, 28, 29, 4, 30, 9, 10, 11, 12, 13, 31, 32, 33, 34, 35, 36, 37, 38, 39, 40, 41, 42, 43, 44, 45, 46, 47, 48, 49, 50] (by decide +kernel) (by decide +kernel)
set_option maxRecDepth 20000 in
theorem gX12_clash_X12_areClashing : GoodIn wsX12_clash (wsV RX12 130 RX12 yX12_areClashing wsX12_areClashing) := goodIn_app (goodIn_of _ (by decide +kernel)) ggX12_clash_X12_areClashing
theorem dX12_clash_0 : decode cX12_clash 0 = .ok (.aload_n 0, 1) := by decide +kernel
theorem dX12_clash_1 : decode cX12_clash 1 = .ok (.aload_n 0, 1) := by decide +kernel
theorem dX12_clash_2 : decode cX12_clash 2 = .ok (.iload_n 1, 1) := by decide +kernel
theorem dX12_clash_3 : decode cX12_clash 3 = .ok (.invokevirtual 103, 3) := by decide +kernel
theorem dX12_clash_6 : decode cX12_clash 6 = .ok (.ifCond .eq 15, 3) := by decide +kernel
theorem dX12_clash_9 : decode cX12_clash 9 = .ok (.aload_n 0, 1) := by decide +kernel
theorem dX12_clash_10 : decode cX12_clash 10 = .ok (.iload_n 2, 1) := by decide +kernel
theorem dX12_clash_11 : decode cX12_clash 11 = .ok (.invokevirtual 103, 3) := by decide +kernel
theorem dX12_clash_14 : decode cX12_clash 14 = .ok (.ifCond .eq 7, 3) := by decide +kernel
theorem dX12_clash_17 : decode cX12_clash 17 = .ok (.iconst 1, 1) := by decide +kernel
theorem dX12_clash_18 : decode cX12_clash 18 = .ok (.goto 4, 3) := by decide +kernel
theorem dX12_clash_21 : decode cX12_clash 21 = .ok (.iconst 0, 1) := by decide +kernel
theorem dX12_clash_22 : decode cX12_clash 22 = .ok (.invokevirtual 78, 3) := by decide +kernel
theorem dX12_clash_25 : decode cX12_clash 25 = .ok (.ifCond .ne 34, 3) := by decide +kernel
theorem dX12_clash_28 : decode cX12_clash 28 = .ok (.aload_n 0, 1) := by decide +kernel
theorem dX12_clash_29 : decode cX12_clash 29 = .ok (.iload_n 1, 1) := by decide +kernel
theorem dX12_clash_30 : decode cX12_clash 30 = .ok (.iload_n 2, 1) := by decide +kernel
theorem dX12_clash_31 : decode cX12_clash 31 = .ok (.if_icmp .eq 7, 3) := by decide +kernel
theorem dX12_clash_34 : decode cX12_clash 34 = .ok (.iconst 1, 1) := by decide +kernel
theorem dX12_clash_35 : decode cX12_clash 35 = .ok (.goto 4, 3) := by decide +kernel
theorem dX12_clash_38 : decode cX12_clash 38 = .ok (.iconst 0, 1) := by decide +kernel
theorem dX12_clash_39 : decode cX12_clash 39 = .ok (.iconst 2, 1) := by decide +kernel
theorem dX12_clash_40 : decode cX12_clash 40 = .ok (.invokevirtual 43, 3) := by decide +kernel
theorem dX12_clash_43 : decode cX12_clash 43 = .ok (.ifCond .ne 16, 3) := by decide +kernel
theorem dX12_clash_46 : decode cX12_clash 46 = .ok (.aload_n 0, 1) := by decide +kernel
theorem dX12_clash_47 : decode cX12_clash 47 = .ok (.iload_n 1, 1) := by decide +kernel
theorem dX12_clash_48 : decode cX12_clash 48 = .ok (.iload_n 2, 1) := by decide +kernel
theorem dX12_clash_49 : decode cX12_clash 49 = .ok (.invokevirtual 130, 3) := by decide +kernel
theorem dX12_clash_52 : decode cX12_clash 52 = .ok (.ifCond .eq 7, 3) := by decide +kernel
theorem dX12_clash_55 : decode cX12_clash 55 = .ok (.iconst 1, 1) := by decide +kernel
theorem dX12_clash_56 : decode cX12_clash 56 = .ok (.goto 4, 3) := by decide +kernel
theorem dX12_clash_59 : decode cX12_clash 59 = .ok (.iconst 0, 1) := by decide +kernel
theorem dX12_clash_60 : decode cX12_clash 60 = .ok (.ireturn, 1) := by decide +kernel
set_option maxRecDepth 20000 in
theorem ggX12_clashes_X12_isAct : GoodIn wsX12_clashes wsX12_isAct := goodIn_r _ [6, 7, 8, 5, 9, 10, 11, 12, 13, 14, 27, 28, 29, 30, 31, 32, 33, 34, 35, 36, 37, 38, 39, 40, 41, 42] (by decide +kernel) (by decide +kernel)
set_option maxRecDepth 20000 in
theorem gX12_clashes_X12_isAct : GoodIn wsX12_clashes (wsV RX12 103 RX12 yX12_isAct wsX12_isAct) := goodIn_app (goodIn_of _ (by decide +kernel)) ggX12_clashes_X12_isAct
set_option maxRecDepth 20000 in
theorem ggX12_clashes_X12_areClashing : GoodIn wsX12_clashes wsX12_areClashing := goodIn_r _ [18, 19, 20, 21, 5, 22, 10, 11, 12, 13, 14, 23, 24, 25, 26, 27, 28, 29, 30, 31, 32, 33, 34, 35, 36, 37, 38, 39, 40, 41, 42] (by decide +kernel) (by decide +kernel)
set_option maxRecDepth 20000 in
theorem gX12_clashes_X12_areClashing : GoodIn wsX12_clashes (wsV RX12 130 RX12 yX12_areClashing wsX12_areClashing) := goodIn_app (goodIn_of _ (by decide +kernel)) ggX12_clashes_X12_areClashing
theorem dX12_clashes_0 : decode cX12_clashes 0 = .ok (.aload_n 0, 1) := by decide +kernel
theorem dX12_clashes_1 : decode cX12_clashes 1 = .ok (.iconst 0, 1) := by decide +kernel
theorem dX12_clashes_2 : decode cX12_clashes 2 = .ok (.putfield 39, 3) := by decide +kernel
theorem dX12_clashes_5 : decode cX12_clashes 5 = .ok (.iconst 0, 1) := by decide +kernel
theorem dX12_clashes_6 : decode cX12_clashes 6 = .ok (.istore_n 1, 1) := by decide +kernel
theorem dX12_clashes_7 : decode cX12_clashes 7 = .ok (.iconst 0, 1) := by decide +kernel
theorem dX12_clashes_8 : decode cX12_clashes 8 = .ok (.istore_n 2, 1) := by decide +kernel
theorem dX12_clashes_9 : decode cX12_clashes 9 = .ok (.iload_n 2, 1) := by decide +kernel
theorem dX12_clashes_10 : decode cX12_clashes 10 = .ok (.bipush 16, 2) := by decide +kernel
theorem dX12_clashes_12 : decode cX12_clashes 12 = .ok (.if_icmp .ge 55, 3) := by decide +kernel
theorem dX12_clashes_15 : decode cX12_clashes 15 = .ok (.iconst 0, 1) := by decide +kernel
theorem dX12_clashes_16 : decode cX12_clashes 16 = .ok (.istore_n 3, 1) := by decide +kernel
theorem dX12_clashes_17 : decode cX12_clashes 17 = .ok (.iload_n 3, 1) := by decide +kernel
theorem dX12_clashes_18 : decode cX12_clashes 18 = .ok (.iload_n 2, 1) := by decide +kernel
theorem dX12_clashes_19 : decode cX12_clashes 19 = .ok (.if_icmp .ge 42, 3) := by decide +kernel
theorem dX12_clashes_22 : decode cX12_clashes 22 = .ok (.iload_n 1, 1) := by decide +kernel
theorem dX12_clashes_23 : decode cX12_clashes 23 = .ok (.aload_n 0, 1) := by decide +kernel
theorem dX12_clashes_24 : decode cX12_clashes 24 = .ok (.iload_n 2, 1) := by decide +kernel
theorem dX12_clashes_25 : decode cX12_clashes 25 = .ok (.invokevirtual 103, 3) := by decide +kernel
theorem dX12_clashes_28 : decode cX12_clashes 28 = .ok (.ifCond .eq 24, 3) := by decide +kernel
theorem dX12_clashes_31 : decode cX12_clashes 31 = .ok (.aload_n 0, 1) := by decide +kernel
theorem dX12_clashes_32 : decode cX12_clashes 32 = .ok (.iload_n 3, 1) := by decide +kernel
theorem dX12_clashes_33 : decode cX12_clashes 33 = .ok (.invokevirtual 103, 3) := by decide +kernel
theorem dX12_clashes_36 : decode cX12_clashes 36 = .ok (.ifCond .eq 16, 3) := by decide +kernel
theorem dX12_clashes_39 : decode cX12_clashes 39 = .ok (.aload_n 0, 1) := by decide +kernel
theorem dX12_clashes_40 : decode cX12_clashes 40 = .ok (.iload_n 2, 1) := by decide +kernel
theorem dX12_clashes_41 : decode cX12_clashes 41 = .ok (.iload_n 3, 1) := by decide +kernel
theorem dX12_clashes_42 : decode cX12_clashes 42 = .ok (.invokevirtual 130, 3) := by decide +kernel
theorem dX12_clashes_45 : decode cX12_clashes 45 = .ok (.ifCond .eq 7, 3) := by decide +kernel
theorem dX12_clashes_48 : decode cX12_clashes 48 = .ok (.iconst 1, 1) := by decide +kernel
theorem dX12_clashes_49 : decode cX12_clashes 49 = .ok (.goto 4, 3) := by decide +kernel
theorem dX12_clashes_52 : decode cX12_clashes 52 = .ok (.iconst 0, 1) := by decide +kernel
theorem dX12_clashes_53 : decode cX12_clashes 53 = .ok (.iadd, 1) := by decide +kernel
theorem dX12_clashes_54 : decode cX12_clashes 54 = .ok (.istore_n 1, 1) := by decide +kernel
theorem dX12_clashes_55 : decode cX12_clashes 55 = .ok (.iinc 3 1, 3) := by decide +kernel
theorem dX12_clashes_58 : decode cX12_clashes 58 = .ok (.goto (-41), 3) := by decide +kernel
theorem dX12_clashes_61 : decode cX12_clashes 61 = .ok (.iinc 2 1, 3) := by decide +kernel
theorem dX12_clashes_64 : decode cX12_clashes 64 = .ok (.goto (-55), 3) := by decide +kernel
theorem dX12_clashes_67 : decode cX12_clashes 67 = .ok (.iload_n 1, 1) := by decide +kernel
theorem dX12_clashes_68 : decode cX12_clashes 68 = .ok (.ireturn, 1) := by decide +kernel
set_option maxRecDepth 20000 in
theorem ggX12_isReached_X12_its : GoodIn wsX12_isReached wsX12_its := goodIn_r _ [5, 6, 19, 20, 21, 22, 23, 24, 25, 26, 27, 28, 29, 30, 31, 32, 33, 34] (by decide +kernel) (by decide +kernel)
set_option maxRecDepth 20000 in
theorem gX12_isReached_X12_its : GoodIn wsX12_isReached (wsV RX12 51 RX12 yX12_its wsX12_its) := goodIn_app (goodIn_of _ (by decide +kernel)) ggX12_isReached_X12_its
set_option maxRecDepth 20000 in
theorem ggX12_isReached_X12_endOf : GoodIn wsX12_isReached wsX12_endOf := goodIn_r _ [10, 1, 2, 3, 4, 5, 6, 19, 20, 21, 22, 23, 24, 25, 26, 27, 28, 29, 30, 31, 32, 33, 34] (by decide +kernel) (by decide +kernel)
set_option maxRecDepth 20000 in
theorem gX12_isReached_X12_endOf : GoodIn wsX12_isReached (wsV RX12 117 RX12 yX12_endOf wsX12_endOf) := goodIn_app (goodIn_of _ (by decide +kernel)) ggX12_isReached_X12_endOf
set_option maxRecDepth 20000 in
theorem ggX12_isReached_X12_walkOf : GoodIn wsX12_isReached wsX12_walkOf := goodIn_r _ [14, 6, 15, 16, 17, 18, 19, 20, 21, 22, 23, 24, 25, 26, 27, 28, 29, 30, 31, 32, 33, 34] (by decide +kernel) (by decide +kernel)
set_option maxRecDepth 20000 in
theorem gX12_isReached_X12_walkOf : GoodIn wsX12_isReached (wsV RX12 97 RX12 yX12_walkOf wsX12_walkOf) := goodIn_app (goodIn_of _ (by decide +kernel)) ggX12_isReached_X12_walkOf
theorem dX12_isReached_0 : decode cX12_isReached 0 = .ok (.aload_n 0, 1) := by decide +kernel
theorem dX12_isReached_1 : decode cX12_isReached 1 = .ok (.iload_n 1, 1) := by decide +kernel
theorem dX12_isReached_2 : decode cX12_isReached 2 = .ok (.iconst 2, 1) := by decide +kernel
theorem dX12_isReached_3 : decode cX12_isReached 3 = .ok (.invokevirtual 51, 3) := by decide +kernel
theorem dX12_isReached_6 : decode cX12_isReached 6 = .ok (.aload_n 0, 1) := by decide +kernel
theorem dX12_isReached_7 : decode cX12_isReached 7 = .ok (.iload_n 2, 1) := by decide +kernel
theorem dX12_isReached_8 : decode cX12_isReached 8 = .ok (.invokevirtual 117, 3) := by decide +kernel
theorem dX12_isReached_11 : decode cX12_isReached 11 = .ok (.aload_n 0, 1) := by decide +kernel
theorem dX12_isReached_12 : decode cX12_isReached 12 = .ok (.aload_n 0, 1) := by decide +kernel
theorem dX12_isReached_13 : decode cX12_isReached 13 = .ok (.iload_n 2, 1) := by decide +kernel
theorem dX12_isReached_14 : decode cX12_isReached 14 = .ok (.iconst 1, 1) := by decide +kernel
theorem dX12_isReached_15 : decode cX12_isReached 15 = .ok (.invokevirtual 51, 3) := by decide +kernel
theorem dX12_isReached_18 : decode cX12_isReached 18 = .ok (.aload_n 0, 1) := by decide +kernel
theorem dX12_isReached_19 : decode cX12_isReached 19 = .ok (.iload_n 1, 1) := by decide +kernel
theorem dX12_isReached_20 : decode cX12_isReached 20 = .ok (.iconst 1, 1) := by decide +kernel
theorem dX12_isReached_21 : decode cX12_isReached 21 = .ok (.invokevirtual 51, 3) := by decide +kernel
theorem dX12_isReached_24 : decode cX12_isReached 24 = .ok (.invokevirtual 97, 3) := by decide +kernel
theorem dX12_isReached_27 : decode cX12_isReached 27 = .ok (.iadd, 1) := by decide +kernel
theorem dX12_isReached_28 : decode cX12_isReached 28 = .ok (.if_icmp .lt 7, 3) := by decide +kernel
theorem dX12_isReached_31 : decode cX12_isReached 31 = .ok (.iconst 1, 1) := by decide +kernel
theorem dX12_isReached_32 : decode cX12_isReached 32 = .ok (.goto 4, 3) := by decide +kernel
theorem dX12_isReached_35 : decode cX12_isReached 35 = .ok (.iconst 0, 1) := by decide +kernel
theorem dX12_isReached_36 : decode cX12_isReached 36 = .ok (.ireturn, 1) := by decide +kernel
set_option maxRecDepth 20000 in
theorem ggX12_isWished_X12_isAct : GoodIn wsX12_isWished wsX12_isAct := goodIn_r _ [5, 6, 7, 4, 8, 9, 10, 11, 12, 13, 18, 19, 20, 21, 22, 23, 24, 25, 26, 27, 28, 29, 30, 31, 32, 33] (by decide +kernel) (by decide +kernel)
set_option maxRecDepth 20000 in
theorem gX12_isWished_X12_isAct : GoodIn wsX12_isWished (wsV RX12 103 RX12 yX12_isAct wsX12_isAct) := goodIn_app (goodIn_of _ (by decide +kernel)) ggX12_isWished_X12_isAct
set_option maxRecDepth 20000 in
theorem ggX12_isWished_X12_its : GoodIn wsX12_isWished wsX12_its := goodIn_r _ [12, 13, 18, 19, 20, 21, 22, 23, 24, 25, 26, 27, 28, 29, 30, 31, 32, 33] (by decide +kernel) (by decide +kernel)
set_option maxRecDepth 20000 in
theorem gX12_isWished_X12_its : GoodIn wsX12_isWished (wsV RX12 51 RX12 yX12_its wsX12_its) := goodIn_app (goodIn_of _ (by decide +kernel)) ggX12_isWished_X12_its
set_option maxRecDepth 20000 in
theorem ggX12_isWished_X12_wishOf : GoodIn wsX12_isWished wsX12_wishOf := goodIn_r _ [17, 13, 18, 19, 20, 21, 22, 23, 24, 25, 26, 27, 28, 29, 30, 31, 32, 33] (by decide +kernel) (by decide +kernel)
set_option maxRecDepth 20000 in
theorem gX12_isWished_X12_wishOf : GoodIn wsX12_isWished (wsV RX12 100 RX12 yX12_wishOf wsX12_wishOf) := goodIn_app (goodIn_of _ (by decide +kernel)) ggX12_isWished_X12_wishOf
theorem dX12_isWished_0 : decode cX12_isWished 0 = .ok (.aload_n 0, 1) := by decide +kernel
theorem dX12_isWished_1 : decode cX12_isWished 1 = .ok (.iload_n 3, 1) := by decide +kernel
theorem dX12_isWished_2 : decode cX12_isWished 2 = .ok (.invokevirtual 103, 3) := by decide +kernel
theorem dX12_isWished_5 : decode cX12_isWished 5 = .ok (.ifCond .eq 30, 3) := by decide +kernel
theorem dX12_isWished_8 : decode cX12_isWished 8 = .ok (.aload_n 0, 1) := by decide +kernel
theorem dX12_isWished_9 : decode cX12_isWished 9 = .ok (.iload_n 3, 1) := by decide +kernel
theorem dX12_isWished_10 : decode cX12_isWished 10 = .ok (.iconst 2, 1) := by decide +kernel
theorem dX12_isWished_11 : decode cX12_isWished 11 = .ok (.invokevirtual 51, 3) := by decide +kernel
theorem dX12_isWished_14 : decode cX12_isWished 14 = .ok (.sipush 1440, 3) := by decide +kernel
theorem dX12_isWished_17 : decode cX12_isWished 17 = .ok (.idiv, 1) := by decide +kernel
theorem dX12_isWished_18 : decode cX12_isWished 18 = .ok (.iload_n 2, 1) := by decide +kernel
theorem dX12_isWished_19 : decode cX12_isWished 19 = .ok (.if_icmp .ne 16, 3) := by decide +kernel
theorem dX12_isWished_22 : decode cX12_isWished 22 = .ok (.aload_n 0, 1) := by decide +kernel
theorem dX12_isWished_23 : decode cX12_isWished 23 = .ok (.iload_n 1, 1) := by decide +kernel
theorem dX12_isWished_24 : decode cX12_isWished 24 = .ok (.iload_n 3, 1) := by decide +kernel
theorem dX12_isWished_25 : decode cX12_isWished 25 = .ok (.invokevirtual 100, 3) := by decide +kernel
theorem dX12_isWished_28 : decode cX12_isWished 28 = .ok (.ifCond .le 7, 3) := by decide +kernel
theorem dX12_isWished_31 : decode cX12_isWished 31 = .ok (.iconst 1, 1) := by decide +kernel
theorem dX12_isWished_32 : decode cX12_isWished 32 = .ok (.goto 4, 3) := by decide +kernel
theorem dX12_isWished_35 : decode cX12_isWished 35 = .ok (.iconst 0, 1) := by decide +kernel
theorem dX12_isWished_36 : decode cX12_isWished 36 = .ok (.ireturn, 1) := by decide +kernel
set_option maxRecDepth 20000 in
theorem ggX12_findsPrices_X12_isWished : GoodIn wsX12_findsPrices wsX12_isWished := goodIn_r _ [10, 11, 12, 13, 9, 14, 15, 16, 17, 18, 19, 20, 21, 22, 23, 24, 25, 26, 42, 43, 44, 45, 46, 47, 48, 49, 50, 51, 52, 53, 54, 55, 56, 57] (by decide +kernel) (by decide +kernel)
set_option maxRecDepth 20000 in
theorem gX12_findsPrices_X12_isWished : GoodIn wsX12_findsPrices (wsV RX12 153 RX12 yX12_isWished wsX12_isWished) := goodIn_app (goodIn_of _ (by decide +kernel)) ggX12_findsPrices_X12_isWished
set_option maxRecDepth 20000 in
theorem ggX12_findsPrices_X12_wishOf : GoodIn wsX12_findsPrices wsX12_wishOf := goodIn_r _ [26, 22, 42, 43, 44, 45, 46, 47, 48, 49, 50, 51, 52, 53, 54, 55, 56, 57] (by decide +kernel) (by decide +kernel)
set_option maxRecDepth 20000 in
theorem gX12_findsPrices_X12_wishOf : GoodIn wsX12_findsPrices (wsV RX12 100 RX12 yX12_wishOf wsX12_wishOf) := goodIn_app (goodIn_of _ (by decide +kernel)) ggX12_findsPrices_X12_wishOf
set_option maxRecDepth 20000 in
theorem ggX12_findsPrices_X12_isReached : GoodIn wsX12_findsPrices wsX12_isReached := goodIn_r _ [30, 18, 19, 20, 9, 21, 22, 31, 32, 33, 34, 35, 36, 37, 38, 39, 40, 4, 41, 42, 43, 44, 45, 46, 47, 48, 49, 50, 51, 52, 53, 54, 55, 56, 57] (by decide +kernel) (by decide +kernel)
set_option maxRecDepth 20000 in
theorem gX12_findsPrices_X12_isReached : GoodIn wsX12_findsPrices (wsV RX12 156 RX12 yX12_isReached wsX12_isReached) := goodIn_app (goodIn_of _ (by decide +kernel)) ggX12_findsPrices_X12_isReached
theorem dX12_findsPrices_0 : decode cX12_findsPrices 0 = .ok (.iconst 0, 1) := by decide +kernel
theorem dX12_findsPrices_1 : decode cX12_findsPrices 1 = .ok (.istore_n 3, 1) := by decide +kernel
theorem dX12_findsPrices_2 : decode cX12_findsPrices 2 = .ok (.iload_n 3, 1) := by decide +kernel
theorem dX12_findsPrices_3 : decode cX12_findsPrices 3 = .ok (.bipush 16, 2) := by decide +kernel
theorem dX12_findsPrices_5 : decode cX12_findsPrices 5 = .ok (.if_icmp .ge 35, 3) := by decide +kernel
theorem dX12_findsPrices_8 : decode cX12_findsPrices 8 = .ok (.aload_n 0, 1) := by decide +kernel
theorem dX12_findsPrices_9 : decode cX12_findsPrices 9 = .ok (.getfield 18, 3) := by decide +kernel
theorem dX12_findsPrices_12 : decode cX12_findsPrices 12 = .ok (.iload_n 3, 1) := by decide +kernel
theorem dX12_findsPrices_13 : decode cX12_findsPrices 13 = .ok (.aload_n 0, 1) := by decide +kernel
theorem dX12_findsPrices_14 : decode cX12_findsPrices 14 = .ok (.iload_n 1, 1) := by decide +kernel
theorem dX12_findsPrices_15 : decode cX12_findsPrices 15 = .ok (.iload_n 2, 1) := by decide +kernel
theorem dX12_findsPrices_16 : decode cX12_findsPrices 16 = .ok (.iload_n 3, 1) := by decide +kernel
theorem dX12_findsPrices_17 : decode cX12_findsPrices 17 = .ok (.invokevirtual 153, 3) := by decide +kernel
theorem dX12_findsPrices_20 : decode cX12_findsPrices 20 = .ok (.ifCond .eq 12, 3) := by decide +kernel
theorem dX12_findsPrices_23 : decode cX12_findsPrices 23 = .ok (.aload_n 0, 1) := by decide +kernel
theorem dX12_findsPrices_24 : decode cX12_findsPrices 24 = .ok (.iload_n 1, 1) := by decide +kernel
theorem dX12_findsPrices_25 : decode cX12_findsPrices 25 = .ok (.iload_n 3, 1) := by decide +kernel
theorem dX12_findsPrices_26 : decode cX12_findsPrices 26 = .ok (.invokevirtual 100, 3) := by decide +kernel
theorem dX12_findsPrices_29 : decode cX12_findsPrices 29 = .ok (.goto 4, 3) := by decide +kernel
theorem dX12_findsPrices_32 : decode cX12_findsPrices 32 = .ok (.iconst 0, 1) := by decide +kernel
theorem dX12_findsPrices_33 : decode cX12_findsPrices 33 = .ok (.iastore, 1) := by decide +kernel
theorem dX12_findsPrices_34 : decode cX12_findsPrices 34 = .ok (.iinc 3 1, 3) := by decide +kernel
theorem dX12_findsPrices_37 : decode cX12_findsPrices 37 = .ok (.goto (-35), 3) := by decide +kernel
theorem dX12_findsPrices_40 : decode cX12_findsPrices 40 = .ok (.iconst 0, 1) := by decide +kernel
theorem dX12_findsPrices_41 : decode cX12_findsPrices 41 = .ok (.istore_n 3, 1) := by decide +kernel
theorem dX12_findsPrices_42 : decode cX12_findsPrices 42 = .ok (.iload_n 3, 1) := by decide +kernel
theorem dX12_findsPrices_43 : decode cX12_findsPrices 43 = .ok (.bipush 16, 2) := by decide +kernel
theorem dX12_findsPrices_45 : decode cX12_findsPrices 45 = .ok (.if_icmp .ge 104, 3) := by decide +kernel
theorem dX12_findsPrices_48 : decode cX12_findsPrices 48 = .ok (.iconst 0, 1) := by decide +kernel
theorem dX12_findsPrices_49 : decode cX12_findsPrices 49 = .ok (.istore 4, 2) := by decide +kernel
theorem dX12_findsPrices_51 : decode cX12_findsPrices 51 = .ok (.iload 4, 2) := by decide +kernel
theorem dX12_findsPrices_53 : decode cX12_findsPrices 53 = .ok (.bipush 16, 2) := by decide +kernel
theorem dX12_findsPrices_55 : decode cX12_findsPrices 55 = .ok (.if_icmp .ge 88, 3) := by decide +kernel
theorem dX12_findsPrices_58 : decode cX12_findsPrices 58 = .ok (.iconst 0, 1) := by decide +kernel
theorem dX12_findsPrices_59 : decode cX12_findsPrices 59 = .ok (.istore 5, 2) := by decide +kernel
theorem dX12_findsPrices_61 : decode cX12_findsPrices 61 = .ok (.iload 5, 2) := by decide +kernel
theorem dX12_findsPrices_63 : decode cX12_findsPrices 63 = .ok (.bipush 16, 2) := by decide +kernel
theorem dX12_findsPrices_65 : decode cX12_findsPrices 65 = .ok (.if_icmp .ge 72, 3) := by decide +kernel
theorem dX12_findsPrices_68 : decode cX12_findsPrices 68 = .ok (.aload_n 0, 1) := by decide +kernel
theorem dX12_findsPrices_69 : decode cX12_findsPrices 69 = .ok (.getfield 18, 3) := by decide +kernel
theorem dX12_findsPrices_72 : decode cX12_findsPrices 72 = .ok (.iload 4, 2) := by decide +kernel
theorem dX12_findsPrices_74 : decode cX12_findsPrices 74 = .ok (.iaload, 1) := by decide +kernel
theorem dX12_findsPrices_75 : decode cX12_findsPrices 75 = .ok (.ifCond .le 56, 3) := by decide +kernel
theorem dX12_findsPrices_78 : decode cX12_findsPrices 78 = .ok (.aload_n 0, 1) := by decide +kernel
theorem dX12_findsPrices_79 : decode cX12_findsPrices 79 = .ok (.getfield 18, 3) := by decide +kernel
theorem dX12_findsPrices_82 : decode cX12_findsPrices 82 = .ok (.iload 5, 2) := by decide +kernel
theorem dX12_findsPrices_84 : decode cX12_findsPrices 84 = .ok (.iaload, 1) := by decide +kernel
theorem dX12_findsPrices_85 : decode cX12_findsPrices 85 = .ok (.ifCond .le 46, 3) := by decide +kernel
theorem dX12_findsPrices_88 : decode cX12_findsPrices 88 = .ok (.aload_n 0, 1) := by decide +kernel
theorem dX12_findsPrices_89 : decode cX12_findsPrices 89 = .ok (.iload 5, 2) := by decide +kernel
theorem dX12_findsPrices_91 : decode cX12_findsPrices 91 = .ok (.iload 4, 2) := by decide +kernel
theorem dX12_findsPrices_93 : decode cX12_findsPrices 93 = .ok (.invokevirtual 156, 3) := by decide +kernel
theorem dX12_findsPrices_96 : decode cX12_findsPrices 96 = .ok (.ifCond .eq 35, 3) := by decide +kernel
theorem dX12_findsPrices_99 : decode cX12_findsPrices 99 = .ok (.aload_n 0, 1) := by decide +kernel
theorem dX12_findsPrices_100 : decode cX12_findsPrices 100 = .ok (.getfield 18, 3) := by decide +kernel
theorem dX12_findsPrices_103 : decode cX12_findsPrices 103 = .ok (.iload 4, 2) := by decide +kernel
theorem dX12_findsPrices_105 : decode cX12_findsPrices 105 = .ok (.aload_n 0, 1) := by decide +kernel
theorem dX12_findsPrices_106 : decode cX12_findsPrices 106 = .ok (.getfield 18, 3) := by decide +kernel
theorem dX12_findsPrices_109 : decode cX12_findsPrices 109 = .ok (.iload 4, 2) := by decide +kernel
theorem dX12_findsPrices_111 : decode cX12_findsPrices 111 = .ok (.iaload, 1) := by decide +kernel
theorem dX12_findsPrices_112 : decode cX12_findsPrices 112 = .ok (.aload_n 0, 1) := by decide +kernel
theorem dX12_findsPrices_113 : decode cX12_findsPrices 113 = .ok (.iload_n 1, 1) := by decide +kernel
theorem dX12_findsPrices_114 : decode cX12_findsPrices 114 = .ok (.iload 4, 2) := by decide +kernel
theorem dX12_findsPrices_116 : decode cX12_findsPrices 116 = .ok (.invokevirtual 100, 3) := by decide +kernel
theorem dX12_findsPrices_119 : decode cX12_findsPrices 119 = .ok (.aload_n 0, 1) := by decide +kernel
theorem dX12_findsPrices_120 : decode cX12_findsPrices 120 = .ok (.getfield 18, 3) := by decide +kernel
theorem dX12_findsPrices_123 : decode cX12_findsPrices 123 = .ok (.iload 5, 2) := by decide +kernel
theorem dX12_findsPrices_125 : decode cX12_findsPrices 125 = .ok (.iaload, 1) := by decide +kernel
theorem dX12_findsPrices_126 : decode cX12_findsPrices 126 = .ok (.iadd, 1) := by decide +kernel
theorem dX12_findsPrices_127 : decode cX12_findsPrices 127 = .ok (.invokestatic 140, 3) := by decide +kernel
theorem dX12_findsPrices_130 : decode cX12_findsPrices 130 = .ok (.iastore, 1) := by decide +kernel
theorem dX12_findsPrices_131 : decode cX12_findsPrices 131 = .ok (.iinc 5 1, 3) := by decide +kernel
theorem dX12_findsPrices_134 : decode cX12_findsPrices 134 = .ok (.goto (-73), 3) := by decide +kernel
theorem dX12_findsPrices_137 : decode cX12_findsPrices 137 = .ok (.iinc 4 1, 3) := by decide +kernel
theorem dX12_findsPrices_140 : decode cX12_findsPrices 140 = .ok (.goto (-89), 3) := by decide +kernel
theorem dX12_findsPrices_143 : decode cX12_findsPrices 143 = .ok (.iinc 3 1, 3) := by decide +kernel
theorem dX12_findsPrices_146 : decode cX12_findsPrices 146 = .ok (.goto (-104), 3) := by decide +kernel
theorem dX12_findsPrices_149 : decode cX12_findsPrices 149 = .ok (.return_, 1) := by decide +kernel
set_option maxRecDepth 20000 in
theorem ggX12_findsEvening_X12_findsPrices : GoodIn wsX12_findsEvening wsX12_findsPrices := goodIn_r _ [12, 1, 2, 3, 4, 5, 13, 14, 15, 11, 16, 17, 18, 19, 20, 21, 22, 23, 24, 25, 26, 27, 28, 29, 30, 31, 32, 33, 34, 35, 36, 37, 38, 39, 40, 41, 42, 43, 44, 45, 46, 47, 48, 49, 50, 51, 52, 53, 54, 55, 56, 57, 58, 59, 60, 61, 62, 63] (by decide +kernel) (by decide +kernel)
set_option maxRecDepth 20000 in
theorem gX12_findsEvening_X12_findsPrices : GoodIn wsX12_findsEvening (wsV RX12 159 RX12 yX12_findsPrices wsX12_findsPrices) := goodIn_app (goodIn_of _ (by decide +kernel)) ggX12_findsEvening_X12_findsPrices
set_option maxRecDepth 20000 in
theorem ggX12_findsEvening_X12_isReached : GoodIn wsX12_findsEvening wsX12_isReached := goodIn_r _ [36, 24, 25, 26, 11, 27, 28, 37, 38, 39, 40, 41, 42, 43, 44, 45, 46, 4, 47, 48, 49, 50, 51, 52, 53, 54, 55, 56, 57, 58, 59, 60, 61, 62, 63] (by decide +kernel) (by decide +kernel)
set_option maxRecDepth 20000 in
theorem gX12_findsEvening_X12_isReached : GoodIn wsX12_findsEvening (wsV RX12 156 RX12 yX12_isReached wsX12_isReached) := goodIn_app (goodIn_of _ (by decide +kernel)) ggX12_findsEvening_X12_isReached
set_option maxRecDepth 20000 in
theorem ggX12_findsEvening_X12_wishOf : GoodIn wsX12_findsEvening wsX12_wishOf := goodIn_r _ [32, 28, 48, 49, 50, 51, 52, 53, 54, 55, 56, 57, 58, 59, 60, 61, 62, 63] (by decide +kernel) (by decide +kernel)
set_option maxRecDepth 20000 in
theorem gX12_findsEvening_X12_wishOf : GoodIn wsX12_findsEvening (wsV RX12 100 RX12 yX12_wishOf wsX12_wishOf) := goodIn_app (goodIn_of _ (by decide +kernel)) ggX12_findsEvening_X12_wishOf
theorem dX12_findsEvening_0 : decode cX12_findsEvening 0 = .ok (.aload_n 0, 1) := by decide +kernel
theorem dX12_findsEvening_1 : decode cX12_findsEvening 1 = .ok (.iload_n 1, 1) := by decide +kernel
theorem dX12_findsEvening_2 : decode cX12_findsEvening 2 = .ok (.iload_n 2, 1) := by decide +kernel
theorem dX12_findsEvening_3 : decode cX12_findsEvening 3 = .ok (.invokevirtual 159, 3) := by decide +kernel
theorem dX12_findsEvening_6 : decode cX12_findsEvening 6 = .ok (.iconst 0, 1) := by decide +kernel
theorem dX12_findsEvening_7 : decode cX12_findsEvening 7 = .ok (.istore_n 3, 1) := by decide +kernel
theorem dX12_findsEvening_8 : decode cX12_findsEvening 8 = .ok (.iconst 0, 1) := by decide +kernel
theorem dX12_findsEvening_9 : decode cX12_findsEvening 9 = .ok (.istore 4, 2) := by decide +kernel
theorem dX12_findsEvening_11 : decode cX12_findsEvening 11 = .ok (.iload 4, 2) := by decide +kernel
theorem dX12_findsEvening_13 : decode cX12_findsEvening 13 = .ok (.bipush 16, 2) := by decide +kernel
theorem dX12_findsEvening_15 : decode cX12_findsEvening 15 = .ok (.if_icmp .ge 21, 3) := by decide +kernel
theorem dX12_findsEvening_18 : decode cX12_findsEvening 18 = .ok (.iload_n 3, 1) := by decide +kernel
theorem dX12_findsEvening_19 : decode cX12_findsEvening 19 = .ok (.aload_n 0, 1) := by decide +kernel
theorem dX12_findsEvening_20 : decode cX12_findsEvening 20 = .ok (.getfield 18, 3) := by decide +kernel
theorem dX12_findsEvening_23 : decode cX12_findsEvening 23 = .ok (.iload 4, 2) := by decide +kernel
theorem dX12_findsEvening_25 : decode cX12_findsEvening 25 = .ok (.iaload, 1) := by decide +kernel
theorem dX12_findsEvening_26 : decode cX12_findsEvening 26 = .ok (.invokestatic 140, 3) := by decide +kernel
theorem dX12_findsEvening_29 : decode cX12_findsEvening 29 = .ok (.istore_n 3, 1) := by decide +kernel
theorem dX12_findsEvening_30 : decode cX12_findsEvening 30 = .ok (.iinc 4 1, 3) := by decide +kernel
theorem dX12_findsEvening_33 : decode cX12_findsEvening 33 = .ok (.goto (-22), 3) := by decide +kernel
theorem dX12_findsEvening_36 : decode cX12_findsEvening 36 = .ok (.aload_n 0, 1) := by decide +kernel
theorem dX12_findsEvening_37 : decode cX12_findsEvening 37 = .ok (.iconst 0, 1) := by decide +kernel
theorem dX12_findsEvening_38 : decode cX12_findsEvening 38 = .ok (.putfield 163, 3) := by decide +kernel
theorem dX12_findsEvening_41 : decode cX12_findsEvening 41 = .ok (.iload_n 3, 1) := by decide +kernel
theorem dX12_findsEvening_42 : decode cX12_findsEvening 42 = .ok (.istore 4, 2) := by decide +kernel
theorem dX12_findsEvening_44 : decode cX12_findsEvening 44 = .ok (.iload 4, 2) := by decide +kernel
theorem dX12_findsEvening_46 : decode cX12_findsEvening 46 = .ok (.ifCond .le 87, 3) := by decide +kernel
theorem dX12_findsEvening_49 : decode cX12_findsEvening 49 = .ok (.iconst 0, 1) := by decide +kernel
theorem dX12_findsEvening_50 : decode cX12_findsEvening 50 = .ok (.istore 5, 2) := by decide +kernel
theorem dX12_findsEvening_52 : decode cX12_findsEvening 52 = .ok (.aload_n 0, 1) := by decide +kernel
theorem dX12_findsEvening_53 : decode cX12_findsEvening 53 = .ok (.getfield 18, 3) := by decide +kernel
theorem dX12_findsEvening_56 : decode cX12_findsEvening 56 = .ok (.iload 5, 2) := by decide +kernel
theorem dX12_findsEvening_58 : decode cX12_findsEvening 58 = .ok (.iaload, 1) := by decide +kernel
theorem dX12_findsEvening_59 : decode cX12_findsEvening 59 = .ok (.iload 4, 2) := by decide +kernel
theorem dX12_findsEvening_61 : decode cX12_findsEvening 61 = .ok (.if_icmp .ne 30, 3) := by decide +kernel
theorem dX12_findsEvening_64 : decode cX12_findsEvening 64 = .ok (.aload_n 0, 1) := by decide +kernel
theorem dX12_findsEvening_65 : decode cX12_findsEvening 65 = .ok (.getfield 163, 3) := by decide +kernel
theorem dX12_findsEvening_68 : decode cX12_findsEvening 68 = .ok (.ifCond .le 29, 3) := by decide +kernel
theorem dX12_findsEvening_71 : decode cX12_findsEvening 71 = .ok (.aload_n 0, 1) := by decide +kernel
theorem dX12_findsEvening_72 : decode cX12_findsEvening 72 = .ok (.iload 5, 2) := by decide +kernel
theorem dX12_findsEvening_74 : decode cX12_findsEvening 74 = .ok (.aload_n 0, 1) := by decide +kernel
theorem dX12_findsEvening_75 : decode cX12_findsEvening 75 = .ok (.getfield 21, 3) := by decide +kernel
theorem dX12_findsEvening_78 : decode cX12_findsEvening 78 = .ok (.aload_n 0, 1) := by decide +kernel
theorem dX12_findsEvening_79 : decode cX12_findsEvening 79 = .ok (.getfield 163, 3) := by decide +kernel
theorem dX12_findsEvening_82 : decode cX12_findsEvening 82 = .ok (.iconst 1, 1) := by decide +kernel
theorem dX12_findsEvening_83 : decode cX12_findsEvening 83 = .ok (.isub, 1) := by decide +kernel
theorem dX12_findsEvening_84 : decode cX12_findsEvening 84 = .ok (.iaload, 1) := by decide +kernel
theorem dX12_findsEvening_85 : decode cX12_findsEvening 85 = .ok (.invokevirtual 156, 3) := by decide +kernel
theorem dX12_findsEvening_88 : decode cX12_findsEvening 88 = .ok (.ifCond .ne 9, 3) := by decide +kernel
theorem dX12_findsEvening_91 : decode cX12_findsEvening 91 = .ok (.iinc 5 1, 3) := by decide +kernel
theorem dX12_findsEvening_94 : decode cX12_findsEvening 94 = .ok (.goto (-42), 3) := by decide +kernel
theorem dX12_findsEvening_97 : decode cX12_findsEvening 97 = .ok (.aload_n 0, 1) := by decide +kernel
theorem dX12_findsEvening_98 : decode cX12_findsEvening 98 = .ok (.getfield 21, 3) := by decide +kernel
theorem dX12_findsEvening_101 : decode cX12_findsEvening 101 = .ok (.aload_n 0, 1) := by decide +kernel
theorem dX12_findsEvening_102 : decode cX12_findsEvening 102 = .ok (.getfield 163, 3) := by decide +kernel
theorem dX12_findsEvening_105 : decode cX12_findsEvening 105 = .ok (.iload 5, 2) := by decide +kernel
theorem dX12_findsEvening_107 : decode cX12_findsEvening 107 = .ok (.iastore, 1) := by decide +kernel
theorem dX12_findsEvening_108 : decode cX12_findsEvening 108 = .ok (.aload_n 0, 1) := by decide +kernel
theorem dX12_findsEvening_109 : decode cX12_findsEvening 109 = .ok (.dup, 1) := by decide +kernel
theorem dX12_findsEvening_110 : decode cX12_findsEvening 110 = .ok (.getfield 163, 3) := by decide +kernel
theorem dX12_findsEvening_113 : decode cX12_findsEvening 113 = .ok (.iconst 1, 1) := by decide +kernel
theorem dX12_findsEvening_114 : decode cX12_findsEvening 114 = .ok (.iadd, 1) := by decide +kernel
theorem dX12_findsEvening_115 : decode cX12_findsEvening 115 = .ok (.putfield 163, 3) := by decide +kernel
theorem dX12_findsEvening_118 : decode cX12_findsEvening 118 = .ok (.iload 4, 2) := by decide +kernel
theorem dX12_findsEvening_120 : decode cX12_findsEvening 120 = .ok (.aload_n 0, 1) := by decide +kernel
theorem dX12_findsEvening_121 : decode cX12_findsEvening 121 = .ok (.iload_n 1, 1) := by decide +kernel
theorem dX12_findsEvening_122 : decode cX12_findsEvening 122 = .ok (.iload 5, 2) := by decide +kernel
theorem dX12_findsEvening_124 : decode cX12_findsEvening 124 = .ok (.invokevirtual 100, 3) := by decide +kernel
theorem dX12_findsEvening_127 : decode cX12_findsEvening 127 = .ok (.isub, 1) := by decide +kernel
theorem dX12_findsEvening_128 : decode cX12_findsEvening 128 = .ok (.istore 4, 2) := by decide +kernel
theorem dX12_findsEvening_130 : decode cX12_findsEvening 130 = .ok (.goto (-86), 3) := by decide +kernel
theorem dX12_findsEvening_133 : decode cX12_findsEvening 133 = .ok (.iload_n 3, 1) := by decide +kernel
theorem dX12_findsEvening_134 : decode cX12_findsEvening 134 = .ok (.ireturn, 1) := by decide +kernel
set_option maxRecDepth 20000 in
theorem ggX12_evening_X12_isVisitor : GoodIn wsX12_evening wsX12_isVisitor := goodIn_r _ [4, 5, 6, 3, 7] (by decide +kernel) (by decide +kernel)
set_option maxRecDepth 20000 in
theorem gX12_evening_X12_isVisitor : GoodIn wsX12_evening (va_wsS RX12 114 yX12_isVisitor wsX12_isVisitor) := goodIn_app (goodIn_of _ (by decide +kernel)) ggX12_evening_X12_isVisitor
set_option maxRecDepth 20000 in
theorem ggX12_evening_X12_isDay : GoodIn wsX12_evening wsX12_isDay := goodIn_r _ [10, 5, 6, 3, 7] (by decide +kernel) (by decide +kernel)
set_option maxRecDepth 20000 in
theorem gX12_evening_X12_isDay : GoodIn wsX12_evening (va_wsS RX12 166 yX12_isDay wsX12_isDay) := goodIn_app (goodIn_of _ (by decide +kernel)) ggX12_evening_X12_isDay
set_option maxRecDepth 20000 in
theorem ggX12_evening_X12_lacks : GoodIn wsX12_evening wsX12_lacks := goodIn_r _ [14, 15, 16, 17, 18, 3, 19, 67, 68, 69, 70, 71, 72, 73, 74, 75, 76, 77, 78, 79, 80, 81, 82] (by decide +kernel) (by decide +kernel)
set_option maxRecDepth 20000 in
theorem gX12_evening_X12_lacks : GoodIn wsX12_evening (wsV RX12 78 RX12 yX12_lacks wsX12_lacks) := goodIn_app (goodIn_of _ (by decide +kernel)) ggX12_evening_X12_lacks
set_option maxRecDepth 20000 in
theorem ggX12_evening_X12_findsEvening : GoodIn wsX12_evening wsX12_findsEvening := goodIn_r _ [23, 24, 25, 26, 27, 28, 29, 30, 31, 32, 33, 3, 34, 35, 36, 37, 38, 39, 40, 41, 42, 5, 6, 7, 43, 44, 45, 46, 47, 48, 49, 50, 51, 52, 53, 54, 55, 56, 57, 58, 59, 60, 61, 62, 63, 64, 65, 66, 67, 68, 69, 70, 71, 72, 73, 74, 75, 76, 77, 78, 79, 80, 81, 82] (by decide +kernel) (by decide +kernel)
set_option maxRecDepth 20000 in
theorem gX12_evening_X12_findsEvening : GoodIn wsX12_evening (wsV RX12 169 RX12 yX12_findsEvening wsX12_findsEvening) := goodIn_app (goodIn_of _ (by decide +kernel)) ggX12_evening_X12_findsEvening
theorem dX12_evening_0 : decode cX12_evening 0 = .ok (.aload_n 0, 1) := by decide +kernel
theorem dX12_evening_1 : decode cX12_evening 1 = .ok (.iload_n 1, 1) := by decide +kernel
theorem dX12_evening_2 : decode cX12_evening 2 = .ok (.invokestatic 114, 3) := by decide +kernel
theorem dX12_evening_5 : decode cX12_evening 5 = .ok (.ifCond .eq 14, 3) := by decide +kernel
theorem dX12_evening_8 : decode cX12_evening 8 = .ok (.iload_n 2, 1) := by decide +kernel
theorem dX12_evening_9 : decode cX12_evening 9 = .ok (.invokestatic 166, 3) := by decide +kernel
theorem dX12_evening_12 : decode cX12_evening 12 = .ok (.ifCond .eq 7, 3) := by decide +kernel
theorem dX12_evening_15 : decode cX12_evening 15 = .ok (.iconst 1, 1) := by decide +kernel
theorem dX12_evening_16 : decode cX12_evening 16 = .ok (.goto 4, 3) := by decide +kernel
theorem dX12_evening_19 : decode cX12_evening 19 = .ok (.iconst 0, 1) := by decide +kernel
theorem dX12_evening_20 : decode cX12_evening 20 = .ok (.invokevirtual 78, 3) := by decide +kernel
theorem dX12_evening_23 : decode cX12_evening 23 = .ok (.ifCond .eq 7, 3) := by decide +kernel
theorem dX12_evening_26 : decode cX12_evening 26 = .ok (.iconst 0, 1) := by decide +kernel
theorem dX12_evening_27 : decode cX12_evening 27 = .ok (.goto 9, 3) := by decide +kernel
theorem dX12_evening_30 : decode cX12_evening 30 = .ok (.aload_n 0, 1) := by decide +kernel
theorem dX12_evening_31 : decode cX12_evening 31 = .ok (.iload_n 1, 1) := by decide +kernel
theorem dX12_evening_32 : decode cX12_evening 32 = .ok (.iload_n 2, 1) := by decide +kernel
theorem dX12_evening_33 : decode cX12_evening 33 = .ok (.invokevirtual 169, 3) := by decide +kernel
theorem dX12_evening_36 : decode cX12_evening 36 = .ok (.ireturn, 1) := by decide +kernel
set_option maxRecDepth 20000 in
theorem ggX12_eveningAct_X12_isVisitor : GoodIn wsX12_eveningAct wsX12_isVisitor := goodIn_r _ [6, 7, 8, 5, 9] (by decide +kernel) (by decide +kernel)
set_option maxRecDepth 20000 in
theorem gX12_eveningAct_X12_isVisitor : GoodIn wsX12_eveningAct (va_wsS RX12 114 yX12_isVisitor wsX12_isVisitor) := goodIn_app (goodIn_of _ (by decide +kernel)) ggX12_eveningAct_X12_isVisitor
set_option maxRecDepth 20000 in
theorem ggX12_eveningAct_X12_isDay : GoodIn wsX12_eveningAct wsX12_isDay := goodIn_r _ [12, 7, 8, 5, 9] (by decide +kernel) (by decide +kernel)
set_option maxRecDepth 20000 in
theorem gX12_eveningAct_X12_isDay : GoodIn wsX12_eveningAct (va_wsS RX12 166 yX12_isDay wsX12_isDay) := goodIn_app (goodIn_of _ (by decide +kernel)) ggX12_eveningAct_X12_isDay
set_option maxRecDepth 20000 in
theorem ggX12_eveningAct_X12_lacks : GoodIn wsX12_eveningAct wsX12_lacks := goodIn_r _ [16, 17, 18, 19, 20, 5, 21, 67, 68, 69, 70, 71, 72, 73, 74, 75, 76, 77, 78, 79, 80, 81, 82] (by decide +kernel) (by decide +kernel)
set_option maxRecDepth 20000 in
theorem gX12_eveningAct_X12_lacks : GoodIn wsX12_eveningAct (wsV RX12 78 RX12 yX12_lacks wsX12_lacks) := goodIn_app (goodIn_of _ (by decide +kernel)) ggX12_eveningAct_X12_lacks
set_option maxRecDepth 20000 in
theorem ggX12_eveningAct_X12_findsEvening : GoodIn wsX12_eveningAct wsX12_findsEvening := goodIn_r _ [25, 26, 27, 28, 29, 30, 1, 2, 31, 32, 33, 5, 34, 35, 36, 37, 38, 39, 40, 41, 42, 7, 8, 9, 43, 44, 45, 46, 47, 48, 49, 50, 51, 52, 53, 54, 55, 56, 57, 58, 59, 60, 61, 62, 63, 64, 65, 66, 67, 68, 69, 70, 71, 72, 73, 74, 75, 76, 77, 78, 79, 80, 81, 82] (by decide +kernel) (by decide +kernel)
set_option maxRecDepth 20000 in
theorem gX12_eveningAct_X12_findsEvening : GoodIn wsX12_eveningAct (wsV RX12 169 RX12 yX12_findsEvening wsX12_findsEvening) := goodIn_app (goodIn_of _ (by decide +kernel)) ggX12_eveningAct_X12_findsEvening
set_option maxRecDepth 20000 in
theorem ggX12_eveningAct_X12_in : GoodIn wsX12_eveningAct wsX12_in := goodIn_r _ [9] (by decide +kernel) (by decide +kernel)
set_option maxRecDepth 20000 in
theorem gX12_eveningAct_X12_in : GoodIn wsX12_eveningAct (va_wsS RX12 47 yX12_in wsX12_in) := goodIn_app (goodIn_of _ (by decide +kernel)) ggX12_eveningAct_X12_in
set_option maxRecDepth 20000 in
theorem ggX12_eveningAct_X12_no : GoodIn wsX12_eveningAct wsX12_no := goodIn_r _ [21, 17, 67, 68, 69, 70, 71, 72, 73, 74, 75, 76, 77, 78, 79, 80, 81, 82] (by decide +kernel) (by decide +kernel)
set_option maxRecDepth 20000 in
theorem gX12_eveningAct_X12_no : GoodIn wsX12_eveningAct (wsV RX12 43 RX12 yX12_no wsX12_no) := goodIn_app (goodIn_of _ (by decide +kernel)) ggX12_eveningAct_X12_no
theorem dX12_eveningAct_0 : decode cX12_eveningAct 0 = .ok (.aload_n 0, 1) := by decide +kernel
theorem dX12_eveningAct_1 : decode cX12_eveningAct 1 = .ok (.iload_n 1, 1) := by decide +kernel
theorem dX12_eveningAct_2 : decode cX12_eveningAct 2 = .ok (.invokestatic 114, 3) := by decide +kernel
theorem dX12_eveningAct_5 : decode cX12_eveningAct 5 = .ok (.ifCond .eq 14, 3) := by decide +kernel
theorem dX12_eveningAct_8 : decode cX12_eveningAct 8 = .ok (.iload_n 2, 1) := by decide +kernel
theorem dX12_eveningAct_9 : decode cX12_eveningAct 9 = .ok (.invokestatic 166, 3) := by decide +kernel
theorem dX12_eveningAct_12 : decode cX12_eveningAct 12 = .ok (.ifCond .eq 7, 3) := by decide +kernel
theorem dX12_eveningAct_15 : decode cX12_eveningAct 15 = .ok (.iconst 1, 1) := by decide +kernel
theorem dX12_eveningAct_16 : decode cX12_eveningAct 16 = .ok (.goto 4, 3) := by decide +kernel
theorem dX12_eveningAct_19 : decode cX12_eveningAct 19 = .ok (.iconst 0, 1) := by decide +kernel
theorem dX12_eveningAct_20 : decode cX12_eveningAct 20 = .ok (.invokevirtual 78, 3) := by decide +kernel
theorem dX12_eveningAct_23 : decode cX12_eveningAct 23 = .ok (.ifCond .eq 5, 3) := by decide +kernel
theorem dX12_eveningAct_26 : decode cX12_eveningAct 26 = .ok (.iconst 0, 1) := by decide +kernel
theorem dX12_eveningAct_27 : decode cX12_eveningAct 27 = .ok (.ireturn, 1) := by decide +kernel
theorem dX12_eveningAct_28 : decode cX12_eveningAct 28 = .ok (.aload_n 0, 1) := by decide +kernel
theorem dX12_eveningAct_29 : decode cX12_eveningAct 29 = .ok (.iload_n 1, 1) := by decide +kernel
theorem dX12_eveningAct_30 : decode cX12_eveningAct 30 = .ok (.iload_n 2, 1) := by decide +kernel
theorem dX12_eveningAct_31 : decode cX12_eveningAct 31 = .ok (.invokevirtual 169, 3) := by decide +kernel
theorem dX12_eveningAct_34 : decode cX12_eveningAct 34 = .ok (.istore 4, 2) := by decide +kernel
theorem dX12_eveningAct_36 : decode cX12_eveningAct 36 = .ok (.aload_n 0, 1) := by decide +kernel
theorem dX12_eveningAct_37 : decode cX12_eveningAct 37 = .ok (.iload 4, 2) := by decide +kernel
theorem dX12_eveningAct_39 : decode cX12_eveningAct 39 = .ok (.ifCond .le 21, 3) := by decide +kernel
theorem dX12_eveningAct_42 : decode cX12_eveningAct 42 = .ok (.iload_n 3, 1) := by decide +kernel
theorem dX12_eveningAct_43 : decode cX12_eveningAct 43 = .ok (.iconst 0, 1) := by decide +kernel
theorem dX12_eveningAct_44 : decode cX12_eveningAct 44 = .ok (.aload_n 0, 1) := by decide +kernel
theorem dX12_eveningAct_45 : decode cX12_eveningAct 45 = .ok (.getfield 163, 3) := by decide +kernel
theorem dX12_eveningAct_48 : decode cX12_eveningAct 48 = .ok (.iconst 1, 1) := by decide +kernel
theorem dX12_eveningAct_49 : decode cX12_eveningAct 49 = .ok (.isub, 1) := by decide +kernel
theorem dX12_eveningAct_50 : decode cX12_eveningAct 50 = .ok (.invokestatic 47, 3) := by decide +kernel
theorem dX12_eveningAct_53 : decode cX12_eveningAct 53 = .ok (.ifCond .eq 7, 3) := by decide +kernel
theorem dX12_eveningAct_56 : decode cX12_eveningAct 56 = .ok (.iconst 1, 1) := by decide +kernel
theorem dX12_eveningAct_57 : decode cX12_eveningAct 57 = .ok (.goto 4, 3) := by decide +kernel
theorem dX12_eveningAct_60 : decode cX12_eveningAct 60 = .ok (.iconst 0, 1) := by decide +kernel
theorem dX12_eveningAct_61 : decode cX12_eveningAct 61 = .ok (.iconst 2, 1) := by decide +kernel
theorem dX12_eveningAct_62 : decode cX12_eveningAct 62 = .ok (.invokevirtual 43, 3) := by decide +kernel
theorem dX12_eveningAct_65 : decode cX12_eveningAct 65 = .ok (.ifCond .eq 7, 3) := by decide +kernel
theorem dX12_eveningAct_68 : decode cX12_eveningAct 68 = .ok (.iconst 0, 1) := by decide +kernel
theorem dX12_eveningAct_69 : decode cX12_eveningAct 69 = .ok (.goto 9, 3) := by decide +kernel
theorem dX12_eveningAct_72 : decode cX12_eveningAct 72 = .ok (.aload_n 0, 1) := by decide +kernel
theorem dX12_eveningAct_73 : decode cX12_eveningAct 73 = .ok (.getfield 21, 3) := by decide +kernel
theorem dX12_eveningAct_76 : decode cX12_eveningAct 76 = .ok (.iload_n 3, 1) := by decide +kernel
theorem dX12_eveningAct_77 : decode cX12_eveningAct 77 = .ok (.iaload, 1) := by decide +kernel
theorem dX12_eveningAct_78 : decode cX12_eveningAct 78 = .ok (.ireturn, 1) := by decide +kernel
set_option maxRecDepth 20000 in
theorem ggX12_price_X12_isVisitor : GoodIn wsX12_price wsX12_isVisitor := goodIn_r _ [5, 6, 7, 4, 8] (by decide +kernel) (by decide +kernel)
set_option maxRecDepth 20000 in
theorem gX12_price_X12_isVisitor : GoodIn wsX12_price (va_wsS RX12 114 yX12_isVisitor wsX12_isVisitor) := goodIn_app (goodIn_of _ (by decide +kernel)) ggX12_price_X12_isVisitor
set_option maxRecDepth 20000 in
theorem ggX12_price_X12_isAct : GoodIn wsX12_price wsX12_isAct := goodIn_r _ [12, 6, 7, 4, 8, 13, 14, 15, 16, 17, 58, 59, 60, 61, 62, 63, 64, 65, 66, 67, 68, 69, 70, 71, 72, 73] (by decide +kernel) (by decide +kernel)
set_option maxRecDepth 20000 in
theorem gX12_price_X12_isAct : GoodIn wsX12_price (wsV RX12 103 RX12 yX12_isAct wsX12_isAct) := goodIn_app (goodIn_of _ (by decide +kernel)) ggX12_price_X12_isAct
set_option maxRecDepth 20000 in
theorem ggX12_price_X12_lacks : GoodIn wsX12_price wsX12_lacks := goodIn_r _ [21, 22, 23, 24, 25, 4, 26, 58, 59, 60, 61, 62, 63, 64, 65, 66, 67, 68, 69, 70, 71, 72, 73] (by decide +kernel) (by decide +kernel)
set_option maxRecDepth 20000 in
theorem gX12_price_X12_lacks : GoodIn wsX12_price (wsV RX12 78 RX12 yX12_lacks wsX12_lacks) := goodIn_app (goodIn_of _ (by decide +kernel)) ggX12_price_X12_lacks
set_option maxRecDepth 20000 in
theorem ggX12_price_X12_its : GoodIn wsX12_price wsX12_its := goodIn_r _ [16, 17, 58, 59, 60, 61, 62, 63, 64, 65, 66, 67, 68, 69, 70, 71, 72, 73] (by decide +kernel) (by decide +kernel)
set_option maxRecDepth 20000 in
theorem gX12_price_X12_its : GoodIn wsX12_price (wsV RX12 51 RX12 yX12_its wsX12_its) := goodIn_app (goodIn_of _ (by decide +kernel)) ggX12_price_X12_its
set_option maxRecDepth 20000 in
theorem ggX12_price_X12_findsPrices : GoodIn wsX12_price wsX12_findsPrices := goodIn_r _ [30, 1, 31, 32, 33, 34, 35, 36, 37, 4, 38, 9, 10, 11, 12, 6, 7, 8, 13, 14, 15, 16, 17, 39, 40, 41, 42, 43, 44, 45, 46, 47, 48, 49, 50, 51, 52, 53, 54, 55, 56, 57, 58, 59, 60, 61, 62, 63, 64, 65, 66, 67, 68, 69, 70, 71, 72, 73] (by decide +kernel) (by decide +kernel)
set_option maxRecDepth 20000 in
theorem gX12_price_X12_findsPrices : GoodIn wsX12_price (wsV RX12 159 RX12 yX12_findsPrices wsX12_findsPrices) := goodIn_app (goodIn_of _ (by decide +kernel)) ggX12_price_X12_findsPrices
theorem dX12_price_0 : decode cX12_price 0 = .ok (.aload_n 0, 1) := by decide +kernel
theorem dX12_price_1 : decode cX12_price 1 = .ok (.iload_n 1, 1) := by decide +kernel
theorem dX12_price_2 : decode cX12_price 2 = .ok (.invokestatic 114, 3) := by decide +kernel
theorem dX12_price_5 : decode cX12_price 5 = .ok (.ifCond .eq 15, 3) := by decide +kernel
theorem dX12_price_8 : decode cX12_price 8 = .ok (.aload_n 0, 1) := by decide +kernel
theorem dX12_price_9 : decode cX12_price 9 = .ok (.iload_n 2, 1) := by decide +kernel
theorem dX12_price_10 : decode cX12_price 10 = .ok (.invokevirtual 103, 3) := by decide +kernel
theorem dX12_price_13 : decode cX12_price 13 = .ok (.ifCond .eq 7, 3) := by decide +kernel
theorem dX12_price_16 : decode cX12_price 16 = .ok (.iconst 1, 1) := by decide +kernel
theorem dX12_price_17 : decode cX12_price 17 = .ok (.goto 4, 3) := by decide +kernel
theorem dX12_price_20 : decode cX12_price 20 = .ok (.iconst 0, 1) := by decide +kernel
theorem dX12_price_21 : decode cX12_price 21 = .ok (.invokevirtual 78, 3) := by decide +kernel
theorem dX12_price_24 : decode cX12_price 24 = .ok (.ifCond .eq 5, 3) := by decide +kernel
theorem dX12_price_27 : decode cX12_price 27 = .ok (.iconst 0, 1) := by decide +kernel
theorem dX12_price_28 : decode cX12_price 28 = .ok (.ireturn, 1) := by decide +kernel
theorem dX12_price_29 : decode cX12_price 29 = .ok (.aload_n 0, 1) := by decide +kernel
theorem dX12_price_30 : decode cX12_price 30 = .ok (.iload_n 1, 1) := by decide +kernel
theorem dX12_price_31 : decode cX12_price 31 = .ok (.aload_n 0, 1) := by decide +kernel
theorem dX12_price_32 : decode cX12_price 32 = .ok (.iload_n 2, 1) := by decide +kernel
theorem dX12_price_33 : decode cX12_price 33 = .ok (.iconst 2, 1) := by decide +kernel
theorem dX12_price_34 : decode cX12_price 34 = .ok (.invokevirtual 51, 3) := by decide +kernel
theorem dX12_price_37 : decode cX12_price 37 = .ok (.sipush 1440, 3) := by decide +kernel
theorem dX12_price_40 : decode cX12_price 40 = .ok (.idiv, 1) := by decide +kernel
theorem dX12_price_41 : decode cX12_price 41 = .ok (.invokevirtual 159, 3) := by decide +kernel
theorem dX12_price_44 : decode cX12_price 44 = .ok (.aload_n 0, 1) := by decide +kernel
theorem dX12_price_45 : decode cX12_price 45 = .ok (.getfield 18, 3) := by decide +kernel
theorem dX12_price_48 : decode cX12_price 48 = .ok (.iload_n 2, 1) := by decide +kernel
theorem dX12_price_49 : decode cX12_price 49 = .ok (.iaload, 1) := by decide +kernel
theorem dX12_price_50 : decode cX12_price 50 = .ok (.ireturn, 1) := by decide +kernel
set_option maxRecDepth 20000 in
theorem ggX12_isListening_X12_findsEvening : GoodIn wsX12_isListening wsX12_findsEvening := goodIn_r _ [7, 8, 9, 10, 11, 12, 1, 2, 13, 14, 15, 6, 16, 17, 18, 19, 20, 21, 22, 23, 24, 25, 26, 27, 28, 29, 30, 31, 32, 33, 34, 35, 36, 37, 38, 39, 40, 41, 42, 43, 44, 45, 46, 47, 48, 49, 50, 51, 52, 53, 54, 55, 56, 57, 58, 59, 60, 61, 62, 63, 64, 65, 66, 67] (by decide +kernel) (by decide +kernel)
set_option maxRecDepth 20000 in
theorem gX12_isListening_X12_findsEvening : GoodIn wsX12_isListening (wsV RX12 169 RX12 yX12_findsEvening wsX12_findsEvening) := goodIn_app (goodIn_of _ (by decide +kernel)) ggX12_isListening_X12_findsEvening
set_option maxRecDepth 20000 in
theorem ggX12_isListening_X12_its : GoodIn wsX12_isListening wsX12_its := goodIn_r _ [31, 32, 52, 53, 54, 55, 56, 57, 58, 59, 60, 61, 62, 63, 64, 65, 66, 67] (by decide +kernel) (by decide +kernel)
set_option maxRecDepth 20000 in
theorem gX12_isListening_X12_its : GoodIn wsX12_isListening (wsV RX12 51 RX12 yX12_its wsX12_its) := goodIn_app (goodIn_of _ (by decide +kernel)) ggX12_isListening_X12_its
set_option maxRecDepth 20000 in
theorem ggX12_isListening_X12_endOf : GoodIn wsX12_isListening wsX12_endOf := goodIn_r _ [44, 28, 29, 30, 6, 31, 32, 52, 53, 54, 55, 56, 57, 58, 59, 60, 61, 62, 63, 64, 65, 66, 67] (by decide +kernel) (by decide +kernel)
set_option maxRecDepth 20000 in
theorem gX12_isListening_X12_endOf : GoodIn wsX12_isListening (wsV RX12 117 RX12 yX12_endOf wsX12_endOf) := goodIn_app (goodIn_of _ (by decide +kernel)) ggX12_isListening_X12_endOf
theorem dX12_isListening_0 : decode cX12_isListening 0 = .ok (.iconst 0, 1) := by decide +kernel
theorem dX12_isListening_1 : decode cX12_isListening 1 = .ok (.istore 4, 2) := by decide +kernel
theorem dX12_isListening_3 : decode cX12_isListening 3 = .ok (.iconst 0, 1) := by decide +kernel
theorem dX12_isListening_4 : decode cX12_isListening 4 = .ok (.istore 5, 2) := by decide +kernel
theorem dX12_isListening_6 : decode cX12_isListening 6 = .ok (.iload 5, 2) := by decide +kernel
theorem dX12_isListening_8 : decode cX12_isListening 8 = .ok (.iconst 4, 1) := by decide +kernel
theorem dX12_isListening_9 : decode cX12_isListening 9 = .ok (.if_icmp .ge 100, 3) := by decide +kernel
theorem dX12_isListening_12 : decode cX12_isListening 12 = .ok (.aload_n 0, 1) := by decide +kernel
theorem dX12_isListening_13 : decode cX12_isListening 13 = .ok (.iload_n 1, 1) := by decide +kernel
theorem dX12_isListening_14 : decode cX12_isListening 14 = .ok (.iload 5, 2) := by decide +kernel
theorem dX12_isListening_16 : decode cX12_isListening 16 = .ok (.invokevirtual 169, 3) := by decide +kernel
theorem dX12_isListening_19 : decode cX12_isListening 19 = .ok (.istore 6, 2) := by decide +kernel
theorem dX12_isListening_21 : decode cX12_isListening 21 = .ok (.iconst 0, 1) := by decide +kernel
theorem dX12_isListening_22 : decode cX12_isListening 22 = .ok (.istore 7, 2) := by decide +kernel
theorem dX12_isListening_24 : decode cX12_isListening 24 = .ok (.iload 7, 2) := by decide +kernel
theorem dX12_isListening_26 : decode cX12_isListening 26 = .ok (.aload_n 0, 1) := by decide +kernel
theorem dX12_isListening_27 : decode cX12_isListening 27 = .ok (.getfield 163, 3) := by decide +kernel
theorem dX12_isListening_30 : decode cX12_isListening 30 = .ok (.if_icmp .ge 73, 3) := by decide +kernel
theorem dX12_isListening_33 : decode cX12_isListening 33 = .ok (.iload 6, 2) := by decide +kernel
theorem dX12_isListening_35 : decode cX12_isListening 35 = .ok (.ifCond .le 68, 3) := by decide +kernel
theorem dX12_isListening_38 : decode cX12_isListening 38 = .ok (.iload 4, 2) := by decide +kernel
theorem dX12_isListening_40 : decode cX12_isListening 40 = .ok (.ifCond .ne 50, 3) := by decide +kernel
theorem dX12_isListening_43 : decode cX12_isListening 43 = .ok (.aload_n 0, 1) := by decide +kernel
theorem dX12_isListening_44 : decode cX12_isListening 44 = .ok (.aload_n 0, 1) := by decide +kernel
theorem dX12_isListening_45 : decode cX12_isListening 45 = .ok (.getfield 21, 3) := by decide +kernel
theorem dX12_isListening_48 : decode cX12_isListening 48 = .ok (.iload 7, 2) := by decide +kernel
theorem dX12_isListening_50 : decode cX12_isListening 50 = .ok (.iaload, 1) := by decide +kernel
theorem dX12_isListening_51 : decode cX12_isListening 51 = .ok (.iconst 1, 1) := by decide +kernel
theorem dX12_isListening_52 : decode cX12_isListening 52 = .ok (.invokevirtual 51, 3) := by decide +kernel
theorem dX12_isListening_55 : decode cX12_isListening 55 = .ok (.iload_n 2, 1) := by decide +kernel
theorem dX12_isListening_56 : decode cX12_isListening 56 = .ok (.if_icmp .ne 38, 3) := by decide +kernel
theorem dX12_isListening_59 : decode cX12_isListening 59 = .ok (.iload_n 3, 1) := by decide +kernel
theorem dX12_isListening_60 : decode cX12_isListening 60 = .ok (.aload_n 0, 1) := by decide +kernel
theorem dX12_isListening_61 : decode cX12_isListening 61 = .ok (.aload_n 0, 1) := by decide +kernel
theorem dX12_isListening_62 : decode cX12_isListening 62 = .ok (.getfield 21, 3) := by decide +kernel
theorem dX12_isListening_65 : decode cX12_isListening 65 = .ok (.iload 7, 2) := by decide +kernel
theorem dX12_isListening_67 : decode cX12_isListening 67 = .ok (.iaload, 1) := by decide +kernel
theorem dX12_isListening_68 : decode cX12_isListening 68 = .ok (.iconst 2, 1) := by decide +kernel
theorem dX12_isListening_69 : decode cX12_isListening 69 = .ok (.invokevirtual 51, 3) := by decide +kernel
theorem dX12_isListening_72 : decode cX12_isListening 72 = .ok (.if_icmp .lt 22, 3) := by decide +kernel
theorem dX12_isListening_75 : decode cX12_isListening 75 = .ok (.iload_n 3, 1) := by decide +kernel
theorem dX12_isListening_76 : decode cX12_isListening 76 = .ok (.aload_n 0, 1) := by decide +kernel
theorem dX12_isListening_77 : decode cX12_isListening 77 = .ok (.aload_n 0, 1) := by decide +kernel
theorem dX12_isListening_78 : decode cX12_isListening 78 = .ok (.getfield 21, 3) := by decide +kernel
theorem dX12_isListening_81 : decode cX12_isListening 81 = .ok (.iload 7, 2) := by decide +kernel
theorem dX12_isListening_83 : decode cX12_isListening 83 = .ok (.iaload, 1) := by decide +kernel
theorem dX12_isListening_84 : decode cX12_isListening 84 = .ok (.invokevirtual 117, 3) := by decide +kernel
theorem dX12_isListening_87 : decode cX12_isListening 87 = .ok (.if_icmp .ge 7, 3) := by decide +kernel
theorem dX12_isListening_90 : decode cX12_isListening 90 = .ok (.iconst 1, 1) := by decide +kernel
theorem dX12_isListening_91 : decode cX12_isListening 91 = .ok (.goto 4, 3) := by decide +kernel
theorem dX12_isListening_94 : decode cX12_isListening 94 = .ok (.iconst 0, 1) := by decide +kernel
theorem dX12_isListening_95 : decode cX12_isListening 95 = .ok (.istore 4, 2) := by decide +kernel
theorem dX12_isListening_97 : decode cX12_isListening 97 = .ok (.iinc 7 1, 3) := by decide +kernel
theorem dX12_isListening_100 : decode cX12_isListening 100 = .ok (.goto (-76), 3) := by decide +kernel
theorem dX12_isListening_103 : decode cX12_isListening 103 = .ok (.iinc 5 1, 3) := by decide +kernel
theorem dX12_isListening_106 : decode cX12_isListening 106 = .ok (.goto (-100), 3) := by decide +kernel
theorem dX12_isListening_109 : decode cX12_isListening 109 = .ok (.iload 4, 2) := by decide +kernel
theorem dX12_isListening_111 : decode cX12_isListening 111 = .ok (.ireturn, 1) := by decide +kernel
set_option maxRecDepth 20000 in
theorem ggX12_listeners_X12_isStage : GoodIn wsX12_listeners wsX12_isStage := goodIn_r _ [4, 5, 6, 3, 7] (by decide +kernel) (by decide +kernel)
set_option maxRecDepth 20000 in
theorem gX12_listeners_X12_isStage : GoodIn wsX12_listeners (va_wsS RX12 86 yX12_isStage wsX12_isStage) := goodIn_app (goodIn_of _ (by decide +kernel)) ggX12_listeners_X12_isStage
set_option maxRecDepth 20000 in
theorem ggX12_listeners_X12_lacks : GoodIn wsX12_listeners wsX12_lacks := goodIn_r _ [11, 12, 13, 14, 15, 3, 16, 68, 69, 70, 71, 72, 73, 74, 75, 76, 77, 78, 79, 80, 81, 82, 83] (by decide +kernel) (by decide +kernel)
set_option maxRecDepth 20000 in
theorem gX12_listeners_X12_lacks : GoodIn wsX12_listeners (wsV RX12 78 RX12 yX12_lacks wsX12_lacks) := goodIn_app (goodIn_of _ (by decide +kernel)) ggX12_listeners_X12_lacks
set_option maxRecDepth 20000 in
theorem ggX12_listeners_X12_in : GoodIn wsX12_listeners wsX12_in := goodIn_r _ [7] (by decide +kernel) (by decide +kernel)
set_option maxRecDepth 20000 in
theorem gX12_listeners_X12_in : GoodIn wsX12_listeners (va_wsS RX12 47 yX12_in wsX12_in) := goodIn_app (goodIn_of _ (by decide +kernel)) ggX12_listeners_X12_in
set_option maxRecDepth 20000 in
theorem ggX12_listeners_X12_no : GoodIn wsX12_listeners wsX12_no := goodIn_r _ [16, 12, 68, 69, 70, 71, 72, 73, 74, 75, 76, 77, 78, 79, 80, 81, 82, 83] (by decide +kernel) (by decide +kernel)
set_option maxRecDepth 20000 in
theorem gX12_listeners_X12_no : GoodIn wsX12_listeners (wsV RX12 43 RX12 yX12_no wsX12_no) := goodIn_app (goodIn_of _ (by decide +kernel)) ggX12_listeners_X12_no
set_option maxRecDepth 20000 in
theorem ggX12_listeners_X12_isListening : GoodIn wsX12_listeners wsX12_isListening := goodIn_r _ [20, 21, 22, 23, 24, 25, 3, 26, 27, 28, 29, 30, 31, 32, 33, 34, 35, 36, 37, 38, 39, 40, 41, 42, 43, 5, 6, 7, 44, 45, 46, 47, 48, 49, 50, 51, 52, 53, 54, 55, 56, 57, 58, 59, 60, 61, 62, 63, 64, 65, 66, 67, 68, 69, 70, 71, 72, 73, 74, 75, 76, 77, 78, 79, 80, 81, 82, 83] (by decide +kernel) (by decide +kernel)
set_option maxRecDepth 20000 in
theorem gX12_listeners_X12_isListening : GoodIn wsX12_listeners (wsV RX12 172 RX12 yX12_isListening wsX12_isListening) := goodIn_app (goodIn_of _ (by decide +kernel)) ggX12_listeners_X12_isListening
theorem dX12_listeners_0 : decode cX12_listeners 0 = .ok (.aload_n 0, 1) := by decide +kernel
theorem dX12_listeners_1 : decode cX12_listeners 1 = .ok (.iload_n 1, 1) := by decide +kernel
theorem dX12_listeners_2 : decode cX12_listeners 2 = .ok (.invokestatic 86, 3) := by decide +kernel
theorem dX12_listeners_5 : decode cX12_listeners 5 = .ok (.invokevirtual 78, 3) := by decide +kernel
theorem dX12_listeners_8 : decode cX12_listeners 8 = .ok (.ifCond .ne 19, 3) := by decide +kernel
theorem dX12_listeners_11 : decode cX12_listeners 11 = .ok (.aload_n 0, 1) := by decide +kernel
theorem dX12_listeners_12 : decode cX12_listeners 12 = .ok (.iload_n 2, 1) := by decide +kernel
theorem dX12_listeners_13 : decode cX12_listeners 13 = .ok (.iconst 0, 1) := by decide +kernel
theorem dX12_listeners_14 : decode cX12_listeners 14 = .ok (.sipush 5759, 3) := by decide +kernel
theorem dX12_listeners_17 : decode cX12_listeners 17 = .ok (.invokestatic 47, 3) := by decide +kernel
theorem dX12_listeners_20 : decode cX12_listeners 20 = .ok (.iconst 2, 1) := by decide +kernel
theorem dX12_listeners_21 : decode cX12_listeners 21 = .ok (.invokevirtual 43, 3) := by decide +kernel
theorem dX12_listeners_24 : decode cX12_listeners 24 = .ok (.ifCond .eq 5, 3) := by decide +kernel
theorem dX12_listeners_27 : decode cX12_listeners 27 = .ok (.iconst 0, 1) := by decide +kernel
theorem dX12_listeners_28 : decode cX12_listeners 28 = .ok (.ireturn, 1) := by decide +kernel
theorem dX12_listeners_29 : decode cX12_listeners 29 = .ok (.iconst 0, 1) := by decide +kernel
theorem dX12_listeners_30 : decode cX12_listeners 30 = .ok (.istore_n 3, 1) := by decide +kernel
theorem dX12_listeners_31 : decode cX12_listeners 31 = .ok (.iconst 0, 1) := by decide +kernel
theorem dX12_listeners_32 : decode cX12_listeners 32 = .ok (.istore 4, 2) := by decide +kernel
theorem dX12_listeners_34 : decode cX12_listeners 34 = .ok (.iload 4, 2) := by decide +kernel
theorem dX12_listeners_36 : decode cX12_listeners 36 = .ok (.bipush 12, 2) := by decide +kernel
theorem dX12_listeners_38 : decode cX12_listeners 38 = .ok (.if_icmp .ge 28, 3) := by decide +kernel
theorem dX12_listeners_41 : decode cX12_listeners 41 = .ok (.iload_n 3, 1) := by decide +kernel
theorem dX12_listeners_42 : decode cX12_listeners 42 = .ok (.aload_n 0, 1) := by decide +kernel
theorem dX12_listeners_43 : decode cX12_listeners 43 = .ok (.iload 4, 2) := by decide +kernel
theorem dX12_listeners_45 : decode cX12_listeners 45 = .ok (.iload_n 1, 1) := by decide +kernel
theorem dX12_listeners_46 : decode cX12_listeners 46 = .ok (.iload_n 2, 1) := by decide +kernel
theorem dX12_listeners_47 : decode cX12_listeners 47 = .ok (.invokevirtual 172, 3) := by decide +kernel
theorem dX12_listeners_50 : decode cX12_listeners 50 = .ok (.ifCond .eq 7, 3) := by decide +kernel
theorem dX12_listeners_53 : decode cX12_listeners 53 = .ok (.iconst 1, 1) := by decide +kernel
theorem dX12_listeners_54 : decode cX12_listeners 54 = .ok (.goto 4, 3) := by decide +kernel
theorem dX12_listeners_57 : decode cX12_listeners 57 = .ok (.iconst 0, 1) := by decide +kernel
theorem dX12_listeners_58 : decode cX12_listeners 58 = .ok (.iadd, 1) := by decide +kernel
theorem dX12_listeners_59 : decode cX12_listeners 59 = .ok (.istore_n 3, 1) := by decide +kernel
theorem dX12_listeners_60 : decode cX12_listeners 60 = .ok (.iinc 4 1, 3) := by decide +kernel
theorem dX12_listeners_63 : decode cX12_listeners 63 = .ok (.goto (-29), 3) := by decide +kernel
theorem dX12_listeners_66 : decode cX12_listeners 66 = .ok (.iload_n 3, 1) := by decide +kernel
theorem dX12_listeners_67 : decode cX12_listeners 67 = .ok (.ireturn, 1) := by decide +kernel
set_option maxRecDepth 20000 in
theorem ggX12_setGate_X12_isGate : GoodIn wsX12_setGate wsX12_isGate := goodIn_r _ [4, 5, 6, 3, 7] (by decide +kernel) (by decide +kernel)
set_option maxRecDepth 20000 in
theorem gX12_setGate_X12_isGate : GoodIn wsX12_setGate (va_wsS RX12 175 yX12_isGate wsX12_isGate) := goodIn_app (goodIn_of _ (by decide +kernel)) ggX12_setGate_X12_isGate
set_option maxRecDepth 20000 in
theorem ggX12_setGate_X12_lacks : GoodIn wsX12_setGate wsX12_lacks := goodIn_r _ [11, 12, 13, 14, 15, 3, 16, 33, 34, 35, 36, 37, 38, 39, 40, 41, 42, 43, 44, 45, 46, 47, 48] (by decide +kernel) (by decide +kernel)
set_option maxRecDepth 20000 in
theorem gX12_setGate_X12_lacks : GoodIn wsX12_setGate (wsV RX12 78 RX12 yX12_lacks wsX12_lacks) := goodIn_app (goodIn_of _ (by decide +kernel)) ggX12_setGate_X12_lacks
set_option maxRecDepth 20000 in
theorem ggX12_setGate_X12_in : GoodIn wsX12_setGate wsX12_in := goodIn_r _ [7] (by decide +kernel) (by decide +kernel)
set_option maxRecDepth 20000 in
theorem gX12_setGate_X12_in : GoodIn wsX12_setGate (va_wsS RX12 47 yX12_in wsX12_in) := goodIn_app (goodIn_of _ (by decide +kernel)) ggX12_setGate_X12_in
set_option maxRecDepth 20000 in
theorem ggX12_setGate_X12_no : GoodIn wsX12_setGate wsX12_no := goodIn_r _ [16, 12, 33, 34, 35, 36, 37, 38, 39, 40, 41, 42, 43, 44, 45, 46, 47, 48] (by decide +kernel) (by decide +kernel)
set_option maxRecDepth 20000 in
theorem gX12_setGate_X12_no : GoodIn wsX12_setGate (wsV RX12 43 RX12 yX12_no wsX12_no) := goodIn_app (goodIn_of _ (by decide +kernel)) ggX12_setGate_X12_no
set_option maxRecDepth 20000 in
theorem ggX12_setGate_X12_sets : GoodIn wsX12_setGate wsX12_sets := goodIn_r _ [20, 21, 22, 23, 24, 3, 25, 26, 27, 28, 29, 30, 31, 32, 33, 34, 35, 36, 37, 38, 39, 40, 41, 42, 43, 44, 45, 46, 47, 48] (by decide +kernel) (by decide +kernel)
set_option maxRecDepth 20000 in
theorem gX12_setGate_X12_sets : GoodIn wsX12_setGate (wsV RX12 89 RX12 yX12_sets wsX12_sets) := goodIn_app (goodIn_of _ (by decide +kernel)) ggX12_setGate_X12_sets
theorem dX12_setGate_0 : decode cX12_setGate 0 = .ok (.aload_n 0, 1) := by decide +kernel
theorem dX12_setGate_1 : decode cX12_setGate 1 = .ok (.iload_n 1, 1) := by decide +kernel
theorem dX12_setGate_2 : decode cX12_setGate 2 = .ok (.invokestatic 175, 3) := by decide +kernel
theorem dX12_setGate_5 : decode cX12_setGate 5 = .ok (.invokevirtual 78, 3) := by decide +kernel
theorem dX12_setGate_8 : decode cX12_setGate 8 = .ok (.ifCond .ne 18, 3) := by decide +kernel
theorem dX12_setGate_11 : decode cX12_setGate 11 = .ok (.aload_n 0, 1) := by decide +kernel
theorem dX12_setGate_12 : decode cX12_setGate 12 = .ok (.iload_n 2, 1) := by decide +kernel
theorem dX12_setGate_13 : decode cX12_setGate 13 = .ok (.iconst 0, 1) := by decide +kernel
theorem dX12_setGate_14 : decode cX12_setGate 14 = .ok (.bipush 50, 2) := by decide +kernel
theorem dX12_setGate_16 : decode cX12_setGate 16 = .ok (.invokestatic 47, 3) := by decide +kernel
theorem dX12_setGate_19 : decode cX12_setGate 19 = .ok (.iconst 2, 1) := by decide +kernel
theorem dX12_setGate_20 : decode cX12_setGate 20 = .ok (.invokevirtual 43, 3) := by decide +kernel
theorem dX12_setGate_23 : decode cX12_setGate 23 = .ok (.ifCond .eq 7, 3) := by decide +kernel
theorem dX12_setGate_26 : decode cX12_setGate 26 = .ok (.iconst 0, 1) := by decide +kernel
theorem dX12_setGate_27 : decode cX12_setGate 27 = .ok (.goto 13, 3) := by decide +kernel
theorem dX12_setGate_30 : decode cX12_setGate 30 = .ok (.aload_n 0, 1) := by decide +kernel
theorem dX12_setGate_31 : decode cX12_setGate 31 = .ok (.sipush 311, 3) := by decide +kernel
theorem dX12_setGate_34 : decode cX12_setGate 34 = .ok (.iload_n 1, 1) := by decide +kernel
theorem dX12_setGate_35 : decode cX12_setGate 35 = .ok (.iadd, 1) := by decide +kernel
theorem dX12_setGate_36 : decode cX12_setGate 36 = .ok (.iload_n 2, 1) := by decide +kernel
theorem dX12_setGate_37 : decode cX12_setGate 37 = .ok (.invokevirtual 89, 3) := by decide +kernel
theorem dX12_setGate_40 : decode cX12_setGate 40 = .ok (.ireturn, 1) := by decide +kernel
set_option maxRecDepth 20000 in
theorem ggX12_setReach_X12_isGate : GoodIn wsX12_setReach wsX12_isGate := goodIn_r _ [4, 5, 6, 3, 7] (by decide +kernel) (by decide +kernel)
set_option maxRecDepth 20000 in
theorem gX12_setReach_X12_isGate : GoodIn wsX12_setReach (va_wsS RX12 175 yX12_isGate wsX12_isGate) := goodIn_app (goodIn_of _ (by decide +kernel)) ggX12_setReach_X12_isGate
set_option maxRecDepth 20000 in
theorem ggX12_setReach_X12_isStage : GoodIn wsX12_setReach wsX12_isStage := goodIn_r _ [10, 5, 6, 3, 7] (by decide +kernel) (by decide +kernel)
set_option maxRecDepth 20000 in
theorem gX12_setReach_X12_isStage : GoodIn wsX12_setReach (va_wsS RX12 86 yX12_isStage wsX12_isStage) := goodIn_app (goodIn_of _ (by decide +kernel)) ggX12_setReach_X12_isStage
set_option maxRecDepth 20000 in
theorem ggX12_setReach_X12_lacks : GoodIn wsX12_setReach wsX12_lacks := goodIn_r _ [14, 15, 16, 17, 18, 3, 19, 36, 37, 38, 39, 40, 41, 42, 43, 44, 45, 46, 47, 48, 49, 50, 51] (by decide +kernel) (by decide +kernel)
set_option maxRecDepth 20000 in
theorem gX12_setReach_X12_lacks : GoodIn wsX12_setReach (wsV RX12 78 RX12 yX12_lacks wsX12_lacks) := goodIn_app (goodIn_of _ (by decide +kernel)) ggX12_setReach_X12_lacks
set_option maxRecDepth 20000 in
theorem ggX12_setReach_X12_in : GoodIn wsX12_setReach wsX12_in := goodIn_r _ [7] (by decide +kernel) (by decide +kernel)
set_option maxRecDepth 20000 in
theorem gX12_setReach_X12_in : GoodIn wsX12_setReach (va_wsS RX12 47 yX12_in wsX12_in) := goodIn_app (goodIn_of _ (by decide +kernel)) ggX12_setReach_X12_in
set_option maxRecDepth 20000 in
theorem ggX12_setReach_X12_no : GoodIn wsX12_setReach wsX12_no := goodIn_r _ [19, 15, 36, 37, 38, 39, 40, 41, 42, 43, 44, 45, 46, 47, 48, 49, 50, 51] (by decide +kernel) (by decide +kernel)
set_option maxRecDepth 20000 in
theorem gX12_setReach_X12_no : GoodIn wsX12_setReach (wsV RX12 43 RX12 yX12_no wsX12_no) := goodIn_app (goodIn_of _ (by decide +kernel)) ggX12_setReach_X12_no
set_option maxRecDepth 20000 in
theorem ggX12_setReach_X12_sets : GoodIn wsX12_setReach wsX12_sets := goodIn_r _ [23, 24, 25, 26, 27, 3, 28, 29, 30, 31, 32, 33, 34, 35, 36, 37, 38, 39, 40, 41, 42, 43, 44, 45, 46, 47, 48, 49, 50, 51] (by decide +kernel) (by decide +kernel)
set_option maxRecDepth 20000 in
theorem gX12_setReach_X12_sets : GoodIn wsX12_setReach (wsV RX12 89 RX12 yX12_sets wsX12_sets) := goodIn_app (goodIn_of _ (by decide +kernel)) ggX12_setReach_X12_sets
theorem dX12_setReach_0 : decode cX12_setReach 0 = .ok (.aload_n 0, 1) := by decide +kernel
theorem dX12_setReach_1 : decode cX12_setReach 1 = .ok (.iload_n 1, 1) := by decide +kernel
theorem dX12_setReach_2 : decode cX12_setReach 2 = .ok (.invokestatic 175, 3) := by decide +kernel
theorem dX12_setReach_5 : decode cX12_setReach 5 = .ok (.ifCond .eq 14, 3) := by decide +kernel
theorem dX12_setReach_8 : decode cX12_setReach 8 = .ok (.iload_n 2, 1) := by decide +kernel
theorem dX12_setReach_9 : decode cX12_setReach 9 = .ok (.invokestatic 86, 3) := by decide +kernel
theorem dX12_setReach_12 : decode cX12_setReach 12 = .ok (.ifCond .eq 7, 3) := by decide +kernel
theorem dX12_setReach_15 : decode cX12_setReach 15 = .ok (.iconst 1, 1) := by decide +kernel
theorem dX12_setReach_16 : decode cX12_setReach 16 = .ok (.goto 4, 3) := by decide +kernel
theorem dX12_setReach_19 : decode cX12_setReach 19 = .ok (.iconst 0, 1) := by decide +kernel
theorem dX12_setReach_20 : decode cX12_setReach 20 = .ok (.invokevirtual 78, 3) := by decide +kernel
theorem dX12_setReach_23 : decode cX12_setReach 23 = .ok (.ifCond .ne 18, 3) := by decide +kernel
theorem dX12_setReach_26 : decode cX12_setReach 26 = .ok (.aload_n 0, 1) := by decide +kernel
theorem dX12_setReach_27 : decode cX12_setReach 27 = .ok (.iload_n 3, 1) := by decide +kernel
theorem dX12_setReach_28 : decode cX12_setReach 28 = .ok (.iconst 1, 1) := by decide +kernel
theorem dX12_setReach_29 : decode cX12_setReach 29 = .ok (.bipush 30, 2) := by decide +kernel
theorem dX12_setReach_31 : decode cX12_setReach 31 = .ok (.invokestatic 47, 3) := by decide +kernel
theorem dX12_setReach_34 : decode cX12_setReach 34 = .ok (.iconst 2, 1) := by decide +kernel
theorem dX12_setReach_35 : decode cX12_setReach 35 = .ok (.invokevirtual 43, 3) := by decide +kernel
theorem dX12_setReach_38 : decode cX12_setReach 38 = .ok (.ifCond .eq 7, 3) := by decide +kernel
theorem dX12_setReach_41 : decode cX12_setReach 41 = .ok (.iconst 0, 1) := by decide +kernel
theorem dX12_setReach_42 : decode cX12_setReach 42 = .ok (.goto 17, 3) := by decide +kernel
theorem dX12_setReach_45 : decode cX12_setReach 45 = .ok (.aload_n 0, 1) := by decide +kernel
theorem dX12_setReach_46 : decode cX12_setReach 46 = .ok (.sipush 314, 3) := by decide +kernel
theorem dX12_setReach_49 : decode cX12_setReach 49 = .ok (.iconst 4, 1) := by decide +kernel
theorem dX12_setReach_50 : decode cX12_setReach 50 = .ok (.iload_n 1, 1) := by decide +kernel
theorem dX12_setReach_51 : decode cX12_setReach 51 = .ok (.imul, 1) := by decide +kernel
theorem dX12_setReach_52 : decode cX12_setReach 52 = .ok (.iadd, 1) := by decide +kernel
theorem dX12_setReach_53 : decode cX12_setReach 53 = .ok (.iload_n 2, 1) := by decide +kernel
theorem dX12_setReach_54 : decode cX12_setReach 54 = .ok (.iadd, 1) := by decide +kernel
theorem dX12_setReach_55 : decode cX12_setReach 55 = .ok (.iload_n 3, 1) := by decide +kernel
theorem dX12_setReach_56 : decode cX12_setReach 56 = .ok (.invokevirtual 89, 3) := by decide +kernel
theorem dX12_setReach_59 : decode cX12_setReach 59 = .ok (.ireturn, 1) := by decide +kernel
set_option maxRecDepth 20000 in
theorem ggX12_setCrowd_X12_isStage : GoodIn wsX12_setCrowd wsX12_isStage := goodIn_r _ [4, 5, 6, 3, 7] (by decide +kernel) (by decide +kernel)
set_option maxRecDepth 20000 in
theorem gX12_setCrowd_X12_isStage : GoodIn wsX12_setCrowd (va_wsS RX12 86 yX12_isStage wsX12_isStage) := goodIn_app (goodIn_of _ (by decide +kernel)) ggX12_setCrowd_X12_isStage
set_option maxRecDepth 20000 in
theorem ggX12_setCrowd_X12_lacks : GoodIn wsX12_setCrowd wsX12_lacks := goodIn_r _ [11, 12, 13, 14, 15, 3, 16, 33, 34, 35, 36, 37, 38, 39, 40, 41, 42, 43, 44, 45, 46, 47, 48] (by decide +kernel) (by decide +kernel)
set_option maxRecDepth 20000 in
theorem gX12_setCrowd_X12_lacks : GoodIn wsX12_setCrowd (wsV RX12 78 RX12 yX12_lacks wsX12_lacks) := goodIn_app (goodIn_of _ (by decide +kernel)) ggX12_setCrowd_X12_lacks
set_option maxRecDepth 20000 in
theorem ggX12_setCrowd_X12_in : GoodIn wsX12_setCrowd wsX12_in := goodIn_r _ [7] (by decide +kernel) (by decide +kernel)
set_option maxRecDepth 20000 in
theorem gX12_setCrowd_X12_in : GoodIn wsX12_setCrowd (va_wsS RX12 47 yX12_in wsX12_in) := goodIn_app (goodIn_of _ (by decide +kernel)) ggX12_setCrowd_X12_in
set_option maxRecDepth 20000 in
theorem ggX12_setCrowd_X12_no : GoodIn wsX12_setCrowd wsX12_no := goodIn_r _ [16, 12, 33, 34, 35, 36, 37, 38, 39, 40, 41, 42, 43, 44, 45, 46, 47, 48] (by decide +kernel) (by decide +kernel)
set_option maxRecDepth 20000 in
theorem gX12_setCrowd_X12_no : GoodIn wsX12_setCrowd (wsV RX12 43 RX12 yX12_no wsX12_no) := goodIn_app (goodIn_of _ (by decide +kernel)) ggX12_setCrowd_X12_no
set_option maxRecDepth 20000 in
theorem ggX12_setCrowd_X12_sets : GoodIn wsX12_setCrowd wsX12_sets := goodIn_r _ [20, 21, 22, 23, 24, 3, 25, 26, 27, 28, 29, 30, 31, 32, 33, 34, 35, 36, 37, 38, 39, 40, 41, 42, 43, 44, 45, 46, 47, 48] (by decide +kernel) (by decide +kernel)
set_option maxRecDepth 20000 in
theorem gX12_setCrowd_X12_sets : GoodIn wsX12_setCrowd (wsV RX12 89 RX12 yX12_sets wsX12_sets) := goodIn_app (goodIn_of _ (by decide +kernel)) ggX12_setCrowd_X12_sets
theorem dX12_setCrowd_0 : decode cX12_setCrowd 0 = .ok (.aload_n 0, 1) := by decide +kernel
theorem dX12_setCrowd_1 : decode cX12_setCrowd 1 = .ok (.iload_n 1, 1) := by decide +kernel
theorem dX12_setCrowd_2 : decode cX12_setCrowd 2 = .ok (.invokestatic 86, 3) := by decide +kernel
theorem dX12_setCrowd_5 : decode cX12_setCrowd 5 = .ok (.invokevirtual 78, 3) := by decide +kernel
theorem dX12_setCrowd_8 : decode cX12_setCrowd 8 = .ok (.ifCond .ne 19, 3) := by decide +kernel
theorem dX12_setCrowd_11 : decode cX12_setCrowd 11 = .ok (.aload_n 0, 1) := by decide +kernel
theorem dX12_setCrowd_12 : decode cX12_setCrowd 12 = .ok (.iload_n 2, 1) := by decide +kernel
theorem dX12_setCrowd_13 : decode cX12_setCrowd 13 = .ok (.iconst 0, 1) := by decide +kernel
theorem dX12_setCrowd_14 : decode cX12_setCrowd 14 = .ok (.sipush 2000, 3) := by decide +kernel
theorem dX12_setCrowd_17 : decode cX12_setCrowd 17 = .ok (.invokestatic 47, 3) := by decide +kernel
theorem dX12_setCrowd_20 : decode cX12_setCrowd 20 = .ok (.iconst 2, 1) := by decide +kernel
theorem dX12_setCrowd_21 : decode cX12_setCrowd 21 = .ok (.invokevirtual 43, 3) := by decide +kernel
theorem dX12_setCrowd_24 : decode cX12_setCrowd 24 = .ok (.ifCond .eq 7, 3) := by decide +kernel
theorem dX12_setCrowd_27 : decode cX12_setCrowd 27 = .ok (.iconst 0, 1) := by decide +kernel
theorem dX12_setCrowd_28 : decode cX12_setCrowd 28 = .ok (.goto 13, 3) := by decide +kernel
theorem dX12_setCrowd_31 : decode cX12_setCrowd 31 = .ok (.aload_n 0, 1) := by decide +kernel
theorem dX12_setCrowd_32 : decode cX12_setCrowd 32 = .ok (.sipush 326, 3) := by decide +kernel
theorem dX12_setCrowd_35 : decode cX12_setCrowd 35 = .ok (.iload_n 1, 1) := by decide +kernel
theorem dX12_setCrowd_36 : decode cX12_setCrowd 36 = .ok (.iadd, 1) := by decide +kernel
theorem dX12_setCrowd_37 : decode cX12_setCrowd 37 = .ok (.iload_n 2, 1) := by decide +kernel
theorem dX12_setCrowd_38 : decode cX12_setCrowd 38 = .ok (.invokevirtual 89, 3) := by decide +kernel
theorem dX12_setCrowd_41 : decode cX12_setCrowd 41 = .ok (.ireturn, 1) := by decide +kernel
theorem dX12_hasTooMany_0 : decode cX12_hasTooMany 0 = .ok (.iconst 0, 1) := by decide +kernel
theorem dX12_hasTooMany_1 : decode cX12_hasTooMany 1 = .ok (.istore_n 3, 1) := by decide +kernel
theorem dX12_hasTooMany_2 : decode cX12_hasTooMany 2 = .ok (.iconst 0, 1) := by decide +kernel
theorem dX12_hasTooMany_3 : decode cX12_hasTooMany 3 = .ok (.istore 4, 2) := by decide +kernel
theorem dX12_hasTooMany_5 : decode cX12_hasTooMany 5 = .ok (.iconst 0, 1) := by decide +kernel
theorem dX12_hasTooMany_6 : decode cX12_hasTooMany 6 = .ok (.istore 5, 2) := by decide +kernel
theorem dX12_hasTooMany_8 : decode cX12_hasTooMany 8 = .ok (.iload 5, 2) := by decide +kernel
theorem dX12_hasTooMany_10 : decode cX12_hasTooMany 10 = .ok (.iconst 4, 1) := by decide +kernel
theorem dX12_hasTooMany_11 : decode cX12_hasTooMany 11 = .ok (.if_icmp .ge 37, 3) := by decide +kernel
theorem dX12_hasTooMany_14 : decode cX12_hasTooMany 14 = .ok (.iload_n 3, 1) := by decide +kernel
theorem dX12_hasTooMany_15 : decode cX12_hasTooMany 15 = .ok (.iload_n 1, 1) := by decide +kernel
theorem dX12_hasTooMany_16 : decode cX12_hasTooMany 16 = .ok (.iload 5, 2) := by decide +kernel
theorem dX12_hasTooMany_18 : decode cX12_hasTooMany 18 = .ok (.ishr, 1) := by decide +kernel
theorem dX12_hasTooMany_19 : decode cX12_hasTooMany 19 = .ok (.iconst 1, 1) := by decide +kernel
theorem dX12_hasTooMany_20 : decode cX12_hasTooMany 20 = .ok (.iand, 1) := by decide +kernel
theorem dX12_hasTooMany_21 : decode cX12_hasTooMany 21 = .ok (.iconst 1, 1) := by decide +kernel
theorem dX12_hasTooMany_22 : decode cX12_hasTooMany 22 = .ok (.if_icmp .ne 17, 3) := by decide +kernel
theorem dX12_hasTooMany_25 : decode cX12_hasTooMany 25 = .ok (.aload_n 0, 1) := by decide +kernel
theorem dX12_hasTooMany_26 : decode cX12_hasTooMany 26 = .ok (.getfield 9, 3) := by decide +kernel
theorem dX12_hasTooMany_29 : decode cX12_hasTooMany 29 = .ok (.sipush 326, 3) := by decide +kernel
theorem dX12_hasTooMany_32 : decode cX12_hasTooMany 32 = .ok (.iload 5, 2) := by decide +kernel
theorem dX12_hasTooMany_34 : decode cX12_hasTooMany 34 = .ok (.iadd, 1) := by decide +kernel
theorem dX12_hasTooMany_35 : decode cX12_hasTooMany 35 = .ok (.iaload, 1) := by decide +kernel
theorem dX12_hasTooMany_36 : decode cX12_hasTooMany 36 = .ok (.goto 4, 3) := by decide +kernel
theorem dX12_hasTooMany_39 : decode cX12_hasTooMany 39 = .ok (.iconst 0, 1) := by decide +kernel
theorem dX12_hasTooMany_40 : decode cX12_hasTooMany 40 = .ok (.iadd, 1) := by decide +kernel
theorem dX12_hasTooMany_41 : decode cX12_hasTooMany 41 = .ok (.istore_n 3, 1) := by decide +kernel
theorem dX12_hasTooMany_42 : decode cX12_hasTooMany 42 = .ok (.iinc 5 1, 3) := by decide +kernel
theorem dX12_hasTooMany_45 : decode cX12_hasTooMany 45 = .ok (.goto (-37), 3) := by decide +kernel
theorem dX12_hasTooMany_48 : decode cX12_hasTooMany 48 = .ok (.iconst 0, 1) := by decide +kernel
theorem dX12_hasTooMany_49 : decode cX12_hasTooMany 49 = .ok (.istore 5, 2) := by decide +kernel
theorem dX12_hasTooMany_51 : decode cX12_hasTooMany 51 = .ok (.iload 5, 2) := by decide +kernel
theorem dX12_hasTooMany_53 : decode cX12_hasTooMany 53 = .ok (.iconst 3, 1) := by decide +kernel
theorem dX12_hasTooMany_54 : decode cX12_hasTooMany 54 = .ok (.if_icmp .ge 81, 3) := by decide +kernel
theorem dX12_hasTooMany_57 : decode cX12_hasTooMany 57 = .ok (.iload_n 2, 1) := by decide +kernel
theorem dX12_hasTooMany_58 : decode cX12_hasTooMany 58 = .ok (.istore 6, 2) := by decide +kernel
theorem dX12_hasTooMany_60 : decode cX12_hasTooMany 60 = .ok (.iconst 0, 1) := by decide +kernel
theorem dX12_hasTooMany_61 : decode cX12_hasTooMany 61 = .ok (.istore 7, 2) := by decide +kernel
theorem dX12_hasTooMany_63 : decode cX12_hasTooMany 63 = .ok (.iload 7, 2) := by decide +kernel
theorem dX12_hasTooMany_65 : decode cX12_hasTooMany 65 = .ok (.iconst 4, 1) := by decide +kernel
theorem dX12_hasTooMany_66 : decode cX12_hasTooMany 66 = .ok (.if_icmp .ge 42, 3) := by decide +kernel
theorem dX12_hasTooMany_69 : decode cX12_hasTooMany 69 = .ok (.iload_n 1, 1) := by decide +kernel
theorem dX12_hasTooMany_70 : decode cX12_hasTooMany 70 = .ok (.iload 7, 2) := by decide +kernel
theorem dX12_hasTooMany_72 : decode cX12_hasTooMany 72 = .ok (.ishr, 1) := by decide +kernel
theorem dX12_hasTooMany_73 : decode cX12_hasTooMany 73 = .ok (.iconst 1, 1) := by decide +kernel
theorem dX12_hasTooMany_74 : decode cX12_hasTooMany 74 = .ok (.iand, 1) := by decide +kernel
theorem dX12_hasTooMany_75 : decode cX12_hasTooMany 75 = .ok (.iconst 1, 1) := by decide +kernel
theorem dX12_hasTooMany_76 : decode cX12_hasTooMany 76 = .ok (.if_icmp .ne 26, 3) := by decide +kernel
theorem dX12_hasTooMany_79 : decode cX12_hasTooMany 79 = .ok (.iload 6, 2) := by decide +kernel
theorem dX12_hasTooMany_81 : decode cX12_hasTooMany 81 = .ok (.aload_n 0, 1) := by decide +kernel
theorem dX12_hasTooMany_82 : decode cX12_hasTooMany 82 = .ok (.getfield 9, 3) := by decide +kernel
theorem dX12_hasTooMany_85 : decode cX12_hasTooMany 85 = .ok (.sipush 314, 3) := by decide +kernel
theorem dX12_hasTooMany_88 : decode cX12_hasTooMany 88 = .ok (.iconst 4, 1) := by decide +kernel
theorem dX12_hasTooMany_89 : decode cX12_hasTooMany 89 = .ok (.iload 5, 2) := by decide +kernel
theorem dX12_hasTooMany_91 : decode cX12_hasTooMany 91 = .ok (.imul, 1) := by decide +kernel
theorem dX12_hasTooMany_92 : decode cX12_hasTooMany 92 = .ok (.iadd, 1) := by decide +kernel
theorem dX12_hasTooMany_93 : decode cX12_hasTooMany 93 = .ok (.iload 7, 2) := by decide +kernel
theorem dX12_hasTooMany_95 : decode cX12_hasTooMany 95 = .ok (.iadd, 1) := by decide +kernel
theorem dX12_hasTooMany_96 : decode cX12_hasTooMany 96 = .ok (.iaload, 1) := by decide +kernel
theorem dX12_hasTooMany_97 : decode cX12_hasTooMany 97 = .ok (.invokestatic 92, 3) := by decide +kernel
theorem dX12_hasTooMany_100 : decode cX12_hasTooMany 100 = .ok (.istore 6, 2) := by decide +kernel
theorem dX12_hasTooMany_102 : decode cX12_hasTooMany 102 = .ok (.iinc 7 1, 3) := by decide +kernel
theorem dX12_hasTooMany_105 : decode cX12_hasTooMany 105 = .ok (.goto (-42), 3) := by decide +kernel
theorem dX12_hasTooMany_108 : decode cX12_hasTooMany 108 = .ok (.iload 4, 2) := by decide +kernel
theorem dX12_hasTooMany_110 : decode cX12_hasTooMany 110 = .ok (.aload_n 0, 1) := by decide +kernel
theorem dX12_hasTooMany_111 : decode cX12_hasTooMany 111 = .ok (.getfield 9, 3) := by decide +kernel
theorem dX12_hasTooMany_114 : decode cX12_hasTooMany 114 = .ok (.sipush 311, 3) := by decide +kernel
theorem dX12_hasTooMany_117 : decode cX12_hasTooMany 117 = .ok (.iload 5, 2) := by decide +kernel
theorem dX12_hasTooMany_119 : decode cX12_hasTooMany 119 = .ok (.iadd, 1) := by decide +kernel
theorem dX12_hasTooMany_120 : decode cX12_hasTooMany 120 = .ok (.iaload, 1) := by decide +kernel
theorem dX12_hasTooMany_121 : decode cX12_hasTooMany 121 = .ok (.iload_n 2, 1) := by decide +kernel
theorem dX12_hasTooMany_122 : decode cX12_hasTooMany 122 = .ok (.iload 6, 2) := by decide +kernel
theorem dX12_hasTooMany_124 : decode cX12_hasTooMany 124 = .ok (.isub, 1) := by decide +kernel
theorem dX12_hasTooMany_125 : decode cX12_hasTooMany 125 = .ok (.imul, 1) := by decide +kernel
theorem dX12_hasTooMany_126 : decode cX12_hasTooMany 126 = .ok (.iadd, 1) := by decide +kernel
theorem dX12_hasTooMany_127 : decode cX12_hasTooMany 127 = .ok (.istore 4, 2) := by decide +kernel
theorem dX12_hasTooMany_129 : decode cX12_hasTooMany 129 = .ok (.iinc 5 1, 3) := by decide +kernel
theorem dX12_hasTooMany_132 : decode cX12_hasTooMany 132 = .ok (.goto (-81), 3) := by decide +kernel
theorem dX12_hasTooMany_135 : decode cX12_hasTooMany 135 = .ok (.iload_n 3, 1) := by decide +kernel
theorem dX12_hasTooMany_136 : decode cX12_hasTooMany 136 = .ok (.iload 4, 2) := by decide +kernel
theorem dX12_hasTooMany_138 : decode cX12_hasTooMany 138 = .ok (.if_icmp .le 7, 3) := by decide +kernel
theorem dX12_hasTooMany_141 : decode cX12_hasTooMany 141 = .ok (.iconst 1, 1) := by decide +kernel
theorem dX12_hasTooMany_142 : decode cX12_hasTooMany 142 = .ok (.goto 4, 3) := by decide +kernel
theorem dX12_hasTooMany_145 : decode cX12_hasTooMany 145 = .ok (.iconst 0, 1) := by decide +kernel
theorem dX12_hasTooMany_146 : decode cX12_hasTooMany 146 = .ok (.ireturn, 1) := by decide +kernel
set_option maxRecDepth 20000 in
theorem ggX12_tooMany_X12_hasTooMany : GoodIn wsX12_tooMany wsX12_hasTooMany := goodIn_r _ [5, 6, 7, 8, 9, 10, 11, 12, 13, 14, 15, 16, 17, 18, 19, 20, 21, 22, 23, 24, 25, 26] (by decide +kernel) (by decide +kernel)
set_option maxRecDepth 20000 in
theorem gX12_tooMany_X12_hasTooMany : GoodIn wsX12_tooMany (wsV RX12 178 RX12 yX12_hasTooMany wsX12_hasTooMany) := goodIn_app (goodIn_of _ (by decide +kernel)) ggX12_tooMany_X12_hasTooMany
theorem dX12_tooMany_0 : decode cX12_tooMany 0 = .ok (.iconst 1, 1) := by decide +kernel
theorem dX12_tooMany_1 : decode cX12_tooMany 1 = .ok (.istore_n 2, 1) := by decide +kernel
theorem dX12_tooMany_2 : decode cX12_tooMany 2 = .ok (.iload_n 2, 1) := by decide +kernel
theorem dX12_tooMany_3 : decode cX12_tooMany 3 = .ok (.bipush 16, 2) := by decide +kernel
theorem dX12_tooMany_5 : decode cX12_tooMany 5 = .ok (.if_icmp .ge 20, 3) := by decide +kernel
theorem dX12_tooMany_8 : decode cX12_tooMany 8 = .ok (.aload_n 0, 1) := by decide +kernel
theorem dX12_tooMany_9 : decode cX12_tooMany 9 = .ok (.iload_n 2, 1) := by decide +kernel
theorem dX12_tooMany_10 : decode cX12_tooMany 10 = .ok (.iload_n 1, 1) := by decide +kernel
theorem dX12_tooMany_11 : decode cX12_tooMany 11 = .ok (.invokevirtual 178, 3) := by decide +kernel
theorem dX12_tooMany_14 : decode cX12_tooMany 14 = .ok (.ifCond .eq 5, 3) := by decide +kernel
theorem dX12_tooMany_17 : decode cX12_tooMany 17 = .ok (.iload_n 2, 1) := by decide +kernel
theorem dX12_tooMany_18 : decode cX12_tooMany 18 = .ok (.ireturn, 1) := by decide +kernel
theorem dX12_tooMany_19 : decode cX12_tooMany 19 = .ok (.iinc 2 1, 3) := by decide +kernel
theorem dX12_tooMany_22 : decode cX12_tooMany 22 = .ok (.goto (-20), 3) := by decide +kernel
theorem dX12_tooMany_25 : decode cX12_tooMany 25 = .ok (.iconst 0, 1) := by decide +kernel
theorem dX12_tooMany_26 : decode cX12_tooMany 26 = .ok (.ireturn, 1) := by decide +kernel
set_option maxRecDepth 20000 in
theorem ggX12_outByNow_X12_tooMany : GoodIn wsX12_outByNow wsX12_tooMany := goodIn_r _ [6, 7, 8, 9, 5, 10, 1, 11, 12, 13, 14, 15, 16, 17, 18, 19, 20, 21, 22, 23, 24, 25, 26, 27, 28, 29, 30] (by decide +kernel) (by decide +kernel)
set_option maxRecDepth 20000 in
theorem gX12_outByNow_X12_tooMany : GoodIn wsX12_outByNow (wsV RX12 181 RX12 yX12_tooMany wsX12_tooMany) := goodIn_app (goodIn_of _ (by decide +kernel)) ggX12_outByNow_X12_tooMany
theorem dX12_outByNow_0 : decode cX12_outByNow 0 = .ok (.iconst 0, 1) := by decide +kernel
theorem dX12_outByNow_1 : decode cX12_outByNow 1 = .ok (.istore_n 1, 1) := by decide +kernel
theorem dX12_outByNow_2 : decode cX12_outByNow 2 = .ok (.iconst 0, 1) := by decide +kernel
theorem dX12_outByNow_3 : decode cX12_outByNow 3 = .ok (.istore_n 2, 1) := by decide +kernel
theorem dX12_outByNow_4 : decode cX12_outByNow 4 = .ok (.iconst 0, 1) := by decide +kernel
theorem dX12_outByNow_5 : decode cX12_outByNow 5 = .ok (.istore_n 3, 1) := by decide +kernel
theorem dX12_outByNow_6 : decode cX12_outByNow 6 = .ok (.iload_n 3, 1) := by decide +kernel
theorem dX12_outByNow_7 : decode cX12_outByNow 7 = .ok (.iconst 4, 1) := by decide +kernel
theorem dX12_outByNow_8 : decode cX12_outByNow 8 = .ok (.if_icmp .ge 22, 3) := by decide +kernel
theorem dX12_outByNow_11 : decode cX12_outByNow 11 = .ok (.iload_n 1, 1) := by decide +kernel
theorem dX12_outByNow_12 : decode cX12_outByNow 12 = .ok (.aload_n 0, 1) := by decide +kernel
theorem dX12_outByNow_13 : decode cX12_outByNow 13 = .ok (.getfield 9, 3) := by decide +kernel
theorem dX12_outByNow_16 : decode cX12_outByNow 16 = .ok (.sipush 326, 3) := by decide +kernel
theorem dX12_outByNow_19 : decode cX12_outByNow 19 = .ok (.iload_n 3, 1) := by decide +kernel
theorem dX12_outByNow_20 : decode cX12_outByNow 20 = .ok (.iadd, 1) := by decide +kernel
theorem dX12_outByNow_21 : decode cX12_outByNow 21 = .ok (.iaload, 1) := by decide +kernel
theorem dX12_outByNow_22 : decode cX12_outByNow 22 = .ok (.iadd, 1) := by decide +kernel
theorem dX12_outByNow_23 : decode cX12_outByNow 23 = .ok (.istore_n 1, 1) := by decide +kernel
theorem dX12_outByNow_24 : decode cX12_outByNow 24 = .ok (.iinc 3 1, 3) := by decide +kernel
theorem dX12_outByNow_27 : decode cX12_outByNow 27 = .ok (.goto (-21), 3) := by decide +kernel
theorem dX12_outByNow_30 : decode cX12_outByNow 30 = .ok (.iconst 0, 1) := by decide +kernel
theorem dX12_outByNow_31 : decode cX12_outByNow 31 = .ok (.istore_n 3, 1) := by decide +kernel
theorem dX12_outByNow_32 : decode cX12_outByNow 32 = .ok (.iload_n 3, 1) := by decide +kernel
theorem dX12_outByNow_33 : decode cX12_outByNow 33 = .ok (.iconst 3, 1) := by decide +kernel
theorem dX12_outByNow_34 : decode cX12_outByNow 34 = .ok (.if_icmp .ge 22, 3) := by decide +kernel
theorem dX12_outByNow_37 : decode cX12_outByNow 37 = .ok (.iload_n 2, 1) := by decide +kernel
theorem dX12_outByNow_38 : decode cX12_outByNow 38 = .ok (.aload_n 0, 1) := by decide +kernel
theorem dX12_outByNow_39 : decode cX12_outByNow 39 = .ok (.getfield 9, 3) := by decide +kernel
theorem dX12_outByNow_42 : decode cX12_outByNow 42 = .ok (.sipush 311, 3) := by decide +kernel
theorem dX12_outByNow_45 : decode cX12_outByNow 45 = .ok (.iload_n 3, 1) := by decide +kernel
theorem dX12_outByNow_46 : decode cX12_outByNow 46 = .ok (.iadd, 1) := by decide +kernel
theorem dX12_outByNow_47 : decode cX12_outByNow 47 = .ok (.iaload, 1) := by decide +kernel
theorem dX12_outByNow_48 : decode cX12_outByNow 48 = .ok (.iadd, 1) := by decide +kernel
theorem dX12_outByNow_49 : decode cX12_outByNow 49 = .ok (.istore_n 2, 1) := by decide +kernel
theorem dX12_outByNow_50 : decode cX12_outByNow 50 = .ok (.iinc 3 1, 3) := by decide +kernel
theorem dX12_outByNow_53 : decode cX12_outByNow 53 = .ok (.goto (-21), 3) := by decide +kernel
theorem dX12_outByNow_56 : decode cX12_outByNow 56 = .ok (.iload_n 1, 1) := by decide +kernel
theorem dX12_outByNow_57 : decode cX12_outByNow 57 = .ok (.ifCond .le 9, 3) := by decide +kernel
theorem dX12_outByNow_60 : decode cX12_outByNow 60 = .ok (.iload_n 2, 1) := by decide +kernel
theorem dX12_outByNow_61 : decode cX12_outByNow 61 = .ok (.ifCond .ne 5, 3) := by decide +kernel
theorem dX12_outByNow_64 : decode cX12_outByNow 64 = .ok (.iconst (-1), 1) := by decide +kernel
theorem dX12_outByNow_65 : decode cX12_outByNow 65 = .ok (.ireturn, 1) := by decide +kernel
theorem dX12_outByNow_66 : decode cX12_outByNow 66 = .ok (.iconst 0, 1) := by decide +kernel
theorem dX12_outByNow_67 : decode cX12_outByNow 67 = .ok (.istore_n 3, 1) := by decide +kernel
theorem dX12_outByNow_68 : decode cX12_outByNow 68 = .ok (.aload_n 0, 1) := by decide +kernel
theorem dX12_outByNow_69 : decode cX12_outByNow 69 = .ok (.iload_n 3, 1) := by decide +kernel
theorem dX12_outByNow_70 : decode cX12_outByNow 70 = .ok (.invokevirtual 181, 3) := by decide +kernel
theorem dX12_outByNow_73 : decode cX12_outByNow 73 = .ok (.ifCond .le 9, 3) := by decide +kernel
theorem dX12_outByNow_76 : decode cX12_outByNow 76 = .ok (.iinc 3 1, 3) := by decide +kernel
theorem dX12_outByNow_79 : decode cX12_outByNow 79 = .ok (.goto (-11), 3) := by decide +kernel
theorem dX12_outByNow_82 : decode cX12_outByNow 82 = .ok (.iload_n 3, 1) := by decide +kernel
theorem dX12_outByNow_83 : decode cX12_outByNow 83 = .ok (.ireturn, 1) := by decide +kernel
set_option maxRecDepth 20000 in
theorem ggX12_outBy_X12_outByNow : GoodIn wsX12_outBy wsX12_outByNow := goodIn_r _ [6, 7, 8, 9, 10, 5, 11, 12, 13, 14, 15, 16, 17, 18, 19, 20, 21, 22, 23, 24, 25, 26, 27, 28, 29, 30, 31, 32, 33, 34, 35] (by decide +kernel) (by decide +kernel)
set_option maxRecDepth 20000 in
theorem gX12_outBy_X12_outByNow : GoodIn wsX12_outBy (wsV RX12 184 RX12 yX12_outByNow wsX12_outByNow) := goodIn_app (goodIn_of _ (by decide +kernel)) ggX12_outBy_X12_outByNow
theorem dX12_outBy_0 : decode cX12_outBy 0 = .ok (.aload_n 0, 1) := by decide +kernel
theorem dX12_outBy_1 : decode cX12_outBy 1 = .ok (.iconst 0, 1) := by decide +kernel
theorem dX12_outBy_2 : decode cX12_outBy 2 = .ok (.putfield 39, 3) := by decide +kernel
theorem dX12_outBy_5 : decode cX12_outBy 5 = .ok (.aload_n 0, 1) := by decide +kernel
theorem dX12_outBy_6 : decode cX12_outBy 6 = .ok (.invokevirtual 184, 3) := by decide +kernel
theorem dX12_outBy_9 : decode cX12_outBy 9 = .ok (.ireturn, 1) := by decide +kernel
set_option maxRecDepth 20000 in
theorem ggX12_cut_X12_outByNow : GoodIn wsX12_cut wsX12_outByNow := goodIn_r _ [6, 7, 8, 9, 10, 5, 11, 12, 13, 14, 15, 16, 17, 18, 19, 20, 21, 22, 23, 24, 25, 26, 27, 28, 29, 30, 31, 32, 33, 34, 35] (by decide +kernel) (by decide +kernel)
set_option maxRecDepth 20000 in
theorem gX12_cut_X12_outByNow : GoodIn wsX12_cut (wsV RX12 184 RX12 yX12_outByNow wsX12_outByNow) := goodIn_app (goodIn_of _ (by decide +kernel)) ggX12_cut_X12_outByNow
set_option maxRecDepth 20000 in
theorem ggX12_cut_X12_tooMany : GoodIn wsX12_cut wsX12_tooMany := goodIn_r _ [11, 12, 13, 14, 5, 15, 7, 16, 17, 18, 19, 20, 21, 22, 23, 24, 25, 26, 27, 28, 29, 30, 31, 32, 33, 34, 35] (by decide +kernel) (by decide +kernel)
set_option maxRecDepth 20000 in
theorem gX12_cut_X12_tooMany : GoodIn wsX12_cut (wsV RX12 181 RX12 yX12_tooMany wsX12_tooMany) := goodIn_app (goodIn_of _ (by decide +kernel)) ggX12_cut_X12_tooMany
theorem dX12_cut_0 : decode cX12_cut 0 = .ok (.aload_n 0, 1) := by decide +kernel
theorem dX12_cut_1 : decode cX12_cut 1 = .ok (.iconst 0, 1) := by decide +kernel
theorem dX12_cut_2 : decode cX12_cut 2 = .ok (.putfield 39, 3) := by decide +kernel
theorem dX12_cut_5 : decode cX12_cut 5 = .ok (.aload_n 0, 1) := by decide +kernel
theorem dX12_cut_6 : decode cX12_cut 6 = .ok (.invokevirtual 184, 3) := by decide +kernel
theorem dX12_cut_9 : decode cX12_cut 9 = .ok (.istore_n 1, 1) := by decide +kernel
theorem dX12_cut_10 : decode cX12_cut 10 = .ok (.iload_n 1, 1) := by decide +kernel
theorem dX12_cut_11 : decode cX12_cut 11 = .ok (.ifCond .le 13, 3) := by decide +kernel
theorem dX12_cut_14 : decode cX12_cut 14 = .ok (.aload_n 0, 1) := by decide +kernel
theorem dX12_cut_15 : decode cX12_cut 15 = .ok (.iload_n 1, 1) := by decide +kernel
theorem dX12_cut_16 : decode cX12_cut 16 = .ok (.iconst 1, 1) := by decide +kernel
theorem dX12_cut_17 : decode cX12_cut 17 = .ok (.isub, 1) := by decide +kernel
theorem dX12_cut_18 : decode cX12_cut 18 = .ok (.invokevirtual 181, 3) := by decide +kernel
theorem dX12_cut_21 : decode cX12_cut 21 = .ok (.goto 4, 3) := by decide +kernel
theorem dX12_cut_24 : decode cX12_cut 24 = .ok (.iconst 0, 1) := by decide +kernel
theorem dX12_cut_25 : decode cX12_cut 25 = .ok (.ireturn, 1) := by decide +kernel
set_option maxRecDepth 20000 in
theorem ggX12_setServing_X12_in : GoodIn wsX12_setServing wsX12_in := goodIn_r _ [4] (by decide +kernel) (by decide +kernel)
set_option maxRecDepth 20000 in
theorem gX12_setServing_X12_in : GoodIn wsX12_setServing (va_wsS RX12 47 yX12_in wsX12_in) := goodIn_app (goodIn_of _ (by decide +kernel)) ggX12_setServing_X12_in
set_option maxRecDepth 20000 in
theorem ggX12_setServing_X12_lacks : GoodIn wsX12_setServing wsX12_lacks := goodIn_r _ [8, 9, 10, 11, 12, 3, 13, 30, 31, 32, 33, 34, 35, 36, 37, 38, 39, 40, 41, 42, 43, 44, 45] (by decide +kernel) (by decide +kernel)
set_option maxRecDepth 20000 in
theorem gX12_setServing_X12_lacks : GoodIn wsX12_setServing (wsV RX12 78 RX12 yX12_lacks wsX12_lacks) := goodIn_app (goodIn_of _ (by decide +kernel)) ggX12_setServing_X12_lacks
set_option maxRecDepth 20000 in
theorem ggX12_setServing_X12_sets : GoodIn wsX12_setServing wsX12_sets := goodIn_r _ [17, 18, 19, 20, 21, 3, 22, 23, 24, 25, 26, 27, 28, 29, 30, 31, 32, 33, 34, 35, 36, 37, 38, 39, 40, 41, 42, 43, 44, 45] (by decide +kernel) (by decide +kernel)
set_option maxRecDepth 20000 in
theorem gX12_setServing_X12_sets : GoodIn wsX12_setServing (wsV RX12 89 RX12 yX12_sets wsX12_sets) := goodIn_app (goodIn_of _ (by decide +kernel)) ggX12_setServing_X12_sets
theorem dX12_setServing_0 : decode cX12_setServing 0 = .ok (.aload_n 0, 1) := by decide +kernel
theorem dX12_setServing_1 : decode cX12_setServing 1 = .ok (.iload_n 1, 1) := by decide +kernel
theorem dX12_setServing_2 : decode cX12_setServing 2 = .ok (.iconst 1, 1) := by decide +kernel
theorem dX12_setServing_3 : decode cX12_setServing 3 = .ok (.bipush 10, 2) := by decide +kernel
theorem dX12_setServing_5 : decode cX12_setServing 5 = .ok (.invokestatic 47, 3) := by decide +kernel
theorem dX12_setServing_8 : decode cX12_setServing 8 = .ok (.invokevirtual 78, 3) := by decide +kernel
theorem dX12_setServing_11 : decode cX12_setServing 11 = .ok (.ifCond .eq 7, 3) := by decide +kernel
theorem dX12_setServing_14 : decode cX12_setServing 14 = .ok (.iconst 0, 1) := by decide +kernel
theorem dX12_setServing_15 : decode cX12_setServing 15 = .ok (.goto 11, 3) := by decide +kernel
theorem dX12_setServing_18 : decode cX12_setServing 18 = .ok (.aload_n 0, 1) := by decide +kernel
theorem dX12_setServing_19 : decode cX12_setServing 19 = .ok (.sipush 330, 3) := by decide +kernel
theorem dX12_setServing_22 : decode cX12_setServing 22 = .ok (.iload_n 1, 1) := by decide +kernel
theorem dX12_setServing_23 : decode cX12_setServing 23 = .ok (.invokevirtual 89, 3) := by decide +kernel
theorem dX12_setServing_26 : decode cX12_setServing 26 = .ok (.ireturn, 1) := by decide +kernel
theorem dX12_lineOf_0 : decode cX12_lineOf 0 = .ok (.aload_n 0, 1) := by decide +kernel
theorem dX12_lineOf_1 : decode cX12_lineOf 1 = .ok (.getfield 9, 3) := by decide +kernel
theorem dX12_lineOf_4 : decode cX12_lineOf 4 = .ok (.sipush 331, 3) := by decide +kernel
theorem dX12_lineOf_7 : decode cX12_lineOf 7 = .ok (.bipush 13, 2) := by decide +kernel
theorem dX12_lineOf_9 : decode cX12_lineOf 9 = .ok (.iload_n 1, 1) := by decide +kernel
theorem dX12_lineOf_10 : decode cX12_lineOf 10 = .ok (.imul, 1) := by decide +kernel
theorem dX12_lineOf_11 : decode cX12_lineOf 11 = .ok (.iadd, 1) := by decide +kernel
theorem dX12_lineOf_12 : decode cX12_lineOf 12 = .ok (.iaload, 1) := by decide +kernel
theorem dX12_lineOf_13 : decode cX12_lineOf 13 = .ok (.ireturn, 1) := by decide +kernel
theorem dX12_inLine_0 : decode cX12_inLine 0 = .ok (.aload_n 0, 1) := by decide +kernel
theorem dX12_inLine_1 : decode cX12_inLine 1 = .ok (.getfield 9, 3) := by decide +kernel
theorem dX12_inLine_4 : decode cX12_inLine 4 = .ok (.sipush 331, 3) := by decide +kernel
theorem dX12_inLine_7 : decode cX12_inLine 7 = .ok (.bipush 13, 2) := by decide +kernel
theorem dX12_inLine_9 : decode cX12_inLine 9 = .ok (.iload_n 1, 1) := by decide +kernel
theorem dX12_inLine_10 : decode cX12_inLine 10 = .ok (.imul, 1) := by decide +kernel
theorem dX12_inLine_11 : decode cX12_inLine 11 = .ok (.iadd, 1) := by decide +kernel
theorem dX12_inLine_12 : decode cX12_inLine 12 = .ok (.iconst 1, 1) := by decide +kernel
theorem dX12_inLine_13 : decode cX12_inLine 13 = .ok (.iadd, 1) := by decide +kernel
theorem dX12_inLine_14 : decode cX12_inLine 14 = .ok (.iload_n 2, 1) := by decide +kernel
theorem dX12_inLine_15 : decode cX12_inLine 15 = .ok (.iadd, 1) := by decide +kernel
theorem dX12_inLine_16 : decode cX12_inLine 16 = .ok (.iaload, 1) := by decide +kernel
theorem dX12_inLine_17 : decode cX12_inLine 17 = .ok (.ireturn, 1) := by decide +kernel
set_option maxRecDepth 20000 in
theorem ggX12_barOf_X12_lineOf : GoodIn wsX12_barOf wsX12_lineOf := goodIn_r _ [5, 6, 11, 12, 13, 14, 15, 16, 17, 18, 19, 20, 21, 22, 23, 24, 25, 26] (by decide +kernel) (by decide +kernel)
set_option maxRecDepth 20000 in
theorem gX12_barOf_X12_lineOf : GoodIn wsX12_barOf (wsV RX12 187 RX12 yX12_lineOf wsX12_lineOf) := goodIn_app (goodIn_of _ (by decide +kernel)) ggX12_barOf_X12_lineOf
set_option maxRecDepth 20000 in
theorem ggX12_barOf_X12_inLine : GoodIn wsX12_barOf wsX12_inLine := goodIn_r _ [10, 6, 11, 12, 13, 14, 15, 16, 17, 18, 19, 20, 21, 22, 23, 24, 25, 26] (by decide +kernel) (by decide +kernel)
set_option maxRecDepth 20000 in
theorem gX12_barOf_X12_inLine : GoodIn wsX12_barOf (wsV RX12 190 RX12 yX12_inLine wsX12_inLine) := goodIn_app (goodIn_of _ (by decide +kernel)) ggX12_barOf_X12_inLine
theorem dX12_barOf_0 : decode cX12_barOf 0 = .ok (.iconst 0, 1) := by decide +kernel
theorem dX12_barOf_1 : decode cX12_barOf 1 = .ok (.istore_n 2, 1) := by decide +kernel
theorem dX12_barOf_2 : decode cX12_barOf 2 = .ok (.iload_n 2, 1) := by decide +kernel
theorem dX12_barOf_3 : decode cX12_barOf 3 = .ok (.iconst 3, 1) := by decide +kernel
theorem dX12_barOf_4 : decode cX12_barOf 4 = .ok (.if_icmp .ge 38, 3) := by decide +kernel
theorem dX12_barOf_7 : decode cX12_barOf 7 = .ok (.iconst 0, 1) := by decide +kernel
theorem dX12_barOf_8 : decode cX12_barOf 8 = .ok (.istore_n 3, 1) := by decide +kernel
theorem dX12_barOf_9 : decode cX12_barOf 9 = .ok (.iload_n 3, 1) := by decide +kernel
theorem dX12_barOf_10 : decode cX12_barOf 10 = .ok (.aload_n 0, 1) := by decide +kernel
theorem dX12_barOf_11 : decode cX12_barOf 11 = .ok (.iload_n 2, 1) := by decide +kernel
theorem dX12_barOf_12 : decode cX12_barOf 12 = .ok (.invokevirtual 187, 3) := by decide +kernel
theorem dX12_barOf_15 : decode cX12_barOf 15 = .ok (.if_icmp .ge 21, 3) := by decide +kernel
theorem dX12_barOf_18 : decode cX12_barOf 18 = .ok (.aload_n 0, 1) := by decide +kernel
theorem dX12_barOf_19 : decode cX12_barOf 19 = .ok (.iload_n 2, 1) := by decide +kernel
theorem dX12_barOf_20 : decode cX12_barOf 20 = .ok (.iload_n 3, 1) := by decide +kernel
theorem dX12_barOf_21 : decode cX12_barOf 21 = .ok (.invokevirtual 190, 3) := by decide +kernel
theorem dX12_barOf_24 : decode cX12_barOf 24 = .ok (.iload_n 1, 1) := by decide +kernel
theorem dX12_barOf_25 : decode cX12_barOf 25 = .ok (.if_icmp .ne 5, 3) := by decide +kernel
theorem dX12_barOf_28 : decode cX12_barOf 28 = .ok (.iload_n 2, 1) := by decide +kernel
theorem dX12_barOf_29 : decode cX12_barOf 29 = .ok (.ireturn, 1) := by decide +kernel
theorem dX12_barOf_30 : decode cX12_barOf 30 = .ok (.iinc 3 1, 3) := by decide +kernel
theorem dX12_barOf_33 : decode cX12_barOf 33 = .ok (.goto (-24), 3) := by decide +kernel
theorem dX12_barOf_36 : decode cX12_barOf 36 = .ok (.iinc 2 1, 3) := by decide +kernel
theorem dX12_barOf_39 : decode cX12_barOf 39 = .ok (.goto (-37), 3) := by decide +kernel
theorem dX12_barOf_42 : decode cX12_barOf 42 = .ok (.iconst (-1), 1) := by decide +kernel
theorem dX12_barOf_43 : decode cX12_barOf 43 = .ok (.ireturn, 1) := by decide +kernel
theorem dX12_waitAt_0 : decode cX12_waitAt 0 = .ok (.iload_n 2, 1) := by decide +kernel
theorem dX12_waitAt_1 : decode cX12_waitAt 1 = .ok (.ifCond .ne 7, 3) := by decide +kernel
theorem dX12_waitAt_4 : decode cX12_waitAt 4 = .ok (.iconst 0, 1) := by decide +kernel
theorem dX12_waitAt_5 : decode cX12_waitAt 5 = .ok (.goto 26, 3) := by decide +kernel
theorem dX12_waitAt_8 : decode cX12_waitAt 8 = .ok (.aload_n 0, 1) := by decide +kernel
theorem dX12_waitAt_9 : decode cX12_waitAt 9 = .ok (.getfield 9, 3) := by decide +kernel
theorem dX12_waitAt_12 : decode cX12_waitAt 12 = .ok (.sipush 370, 3) := by decide +kernel
theorem dX12_waitAt_15 : decode cX12_waitAt 15 = .ok (.iload_n 1, 1) := by decide +kernel
theorem dX12_waitAt_16 : decode cX12_waitAt 16 = .ok (.iadd, 1) := by decide +kernel
theorem dX12_waitAt_17 : decode cX12_waitAt 17 = .ok (.iaload, 1) := by decide +kernel
theorem dX12_waitAt_18 : decode cX12_waitAt 18 = .ok (.iload_n 2, 1) := by decide +kernel
theorem dX12_waitAt_19 : decode cX12_waitAt 19 = .ok (.iconst 1, 1) := by decide +kernel
theorem dX12_waitAt_20 : decode cX12_waitAt 20 = .ok (.isub, 1) := by decide +kernel
theorem dX12_waitAt_21 : decode cX12_waitAt 21 = .ok (.aload_n 0, 1) := by decide +kernel
theorem dX12_waitAt_22 : decode cX12_waitAt 22 = .ok (.getfield 9, 3) := by decide +kernel
theorem dX12_waitAt_25 : decode cX12_waitAt 25 = .ok (.sipush 330, 3) := by decide +kernel
theorem dX12_waitAt_28 : decode cX12_waitAt 28 = .ok (.iaload, 1) := by decide +kernel
theorem dX12_waitAt_29 : decode cX12_waitAt 29 = .ok (.imul, 1) := by decide +kernel
theorem dX12_waitAt_30 : decode cX12_waitAt 30 = .ok (.iadd, 1) := by decide +kernel
theorem dX12_waitAt_31 : decode cX12_waitAt 31 = .ok (.ireturn, 1) := by decide +kernel
set_option maxRecDepth 20000 in
theorem ggX12_waitNow_X12_barOf : GoodIn wsX12_waitNow wsX12_barOf := goodIn_r _ [5, 6, 7, 8, 4, 9, 10, 11, 12, 13, 14, 19, 20, 21, 22, 23, 24, 25, 26, 27, 28, 29, 30, 31, 32, 33, 34] (by decide +kernel) (by decide +kernel)
set_option maxRecDepth 20000 in
theorem gX12_waitNow_X12_barOf : GoodIn wsX12_waitNow (wsV RX12 193 RX12 yX12_barOf wsX12_barOf) := goodIn_app (goodIn_of _ (by decide +kernel)) ggX12_waitNow_X12_barOf
set_option maxRecDepth 20000 in
theorem ggX12_waitNow_X12_inLine : GoodIn wsX12_waitNow wsX12_inLine := goodIn_r _ [14, 10, 19, 20, 21, 22, 23, 24, 25, 26, 27, 28, 29, 30, 31, 32, 33, 34] (by decide +kernel) (by decide +kernel)
set_option maxRecDepth 20000 in
theorem gX12_waitNow_X12_inLine : GoodIn wsX12_waitNow (wsV RX12 190 RX12 yX12_inLine wsX12_inLine) := goodIn_app (goodIn_of _ (by decide +kernel)) ggX12_waitNow_X12_inLine
set_option maxRecDepth 20000 in
theorem ggX12_waitNow_X12_waitAt : GoodIn wsX12_waitNow wsX12_waitAt := goodIn_r _ [18, 10, 19, 20, 21, 22, 23, 24, 25, 26, 27, 28, 29, 30, 31, 32, 33, 34] (by decide +kernel) (by decide +kernel)
set_option maxRecDepth 20000 in
theorem gX12_waitNow_X12_waitAt : GoodIn wsX12_waitNow (wsV RX12 196 RX12 yX12_waitAt wsX12_waitAt) := goodIn_app (goodIn_of _ (by decide +kernel)) ggX12_waitNow_X12_waitAt
theorem dX12_waitNow_0 : decode cX12_waitNow 0 = .ok (.aload_n 0, 1) := by decide +kernel
theorem dX12_waitNow_1 : decode cX12_waitNow 1 = .ok (.iload_n 1, 1) := by decide +kernel
theorem dX12_waitNow_2 : decode cX12_waitNow 2 = .ok (.invokevirtual 193, 3) := by decide +kernel
theorem dX12_waitNow_5 : decode cX12_waitNow 5 = .ok (.istore_n 2, 1) := by decide +kernel
theorem dX12_waitNow_6 : decode cX12_waitNow 6 = .ok (.iconst 0, 1) := by decide +kernel
theorem dX12_waitNow_7 : decode cX12_waitNow 7 = .ok (.istore_n 3, 1) := by decide +kernel
theorem dX12_waitNow_8 : decode cX12_waitNow 8 = .ok (.iload_n 2, 1) := by decide +kernel
theorem dX12_waitNow_9 : decode cX12_waitNow 9 = .ok (.iconst (-1), 1) := by decide +kernel
theorem dX12_waitNow_10 : decode cX12_waitNow 10 = .ok (.if_icmp .eq 19, 3) := by decide +kernel
theorem dX12_waitNow_13 : decode cX12_waitNow 13 = .ok (.aload_n 0, 1) := by decide +kernel
theorem dX12_waitNow_14 : decode cX12_waitNow 14 = .ok (.iload_n 2, 1) := by decide +kernel
theorem dX12_waitNow_15 : decode cX12_waitNow 15 = .ok (.iload_n 3, 1) := by decide +kernel
theorem dX12_waitNow_16 : decode cX12_waitNow 16 = .ok (.invokevirtual 190, 3) := by decide +kernel
theorem dX12_waitNow_19 : decode cX12_waitNow 19 = .ok (.iload_n 1, 1) := by decide +kernel
theorem dX12_waitNow_20 : decode cX12_waitNow 20 = .ok (.if_icmp .eq 9, 3) := by decide +kernel
theorem dX12_waitNow_23 : decode cX12_waitNow 23 = .ok (.iinc 3 1, 3) := by decide +kernel
theorem dX12_waitNow_26 : decode cX12_waitNow 26 = .ok (.goto (-18), 3) := by decide +kernel
theorem dX12_waitNow_29 : decode cX12_waitNow 29 = .ok (.iload_n 2, 1) := by decide +kernel
theorem dX12_waitNow_30 : decode cX12_waitNow 30 = .ok (.iconst (-1), 1) := by decide +kernel
theorem dX12_waitNow_31 : decode cX12_waitNow 31 = .ok (.if_icmp .ne 7, 3) := by decide +kernel
theorem dX12_waitNow_34 : decode cX12_waitNow 34 = .ok (.iconst (-1), 1) := by decide +kernel
theorem dX12_waitNow_35 : decode cX12_waitNow 35 = .ok (.goto 9, 3) := by decide +kernel
theorem dX12_waitNow_38 : decode cX12_waitNow 38 = .ok (.aload_n 0, 1) := by decide +kernel
theorem dX12_waitNow_39 : decode cX12_waitNow 39 = .ok (.iload_n 2, 1) := by decide +kernel
theorem dX12_waitNow_40 : decode cX12_waitNow 40 = .ok (.iload_n 3, 1) := by decide +kernel
theorem dX12_waitNow_41 : decode cX12_waitNow 41 = .ok (.invokevirtual 196, 3) := by decide +kernel
theorem dX12_waitNow_44 : decode cX12_waitNow 44 = .ok (.ireturn, 1) := by decide +kernel
set_option maxRecDepth 20000 in
theorem ggX12_join_X12_isBar : GoodIn wsX12_join wsX12_isBar := goodIn_r _ [5, 6, 7, 4, 8] (by decide +kernel) (by decide +kernel)
set_option maxRecDepth 20000 in
theorem gX12_join_X12_isBar : GoodIn wsX12_join (va_wsS RX12 199 yX12_isBar wsX12_isBar) := goodIn_app (goodIn_of _ (by decide +kernel)) ggX12_join_X12_isBar
set_option maxRecDepth 20000 in
theorem ggX12_join_X12_isVisitor : GoodIn wsX12_join wsX12_isVisitor := goodIn_r _ [11, 6, 7, 4, 8] (by decide +kernel) (by decide +kernel)
set_option maxRecDepth 20000 in
theorem gX12_join_X12_isVisitor : GoodIn wsX12_join (va_wsS RX12 114 yX12_isVisitor wsX12_isVisitor) := goodIn_app (goodIn_of _ (by decide +kernel)) ggX12_join_X12_isVisitor
set_option maxRecDepth 20000 in
theorem ggX12_join_X12_lacks : GoodIn wsX12_join wsX12_lacks := goodIn_r _ [15, 16, 17, 18, 19, 4, 20, 52, 53, 54, 55, 56, 57, 58, 59, 60, 61, 62, 63, 64, 65, 66, 67] (by decide +kernel) (by decide +kernel)
set_option maxRecDepth 20000 in
theorem gX12_join_X12_lacks : GoodIn wsX12_join (wsV RX12 78 RX12 yX12_lacks wsX12_lacks) := goodIn_app (goodIn_of _ (by decide +kernel)) ggX12_join_X12_lacks
set_option maxRecDepth 20000 in
theorem ggX12_join_X12_barOf : GoodIn wsX12_join wsX12_barOf := goodIn_r _ [24, 25, 26, 27, 4, 28, 1, 29, 30, 31, 32, 52, 53, 54, 55, 56, 57, 58, 59, 60, 61, 62, 63, 64, 65, 66, 67] (by decide +kernel) (by decide +kernel)
set_option maxRecDepth 20000 in
theorem gX12_join_X12_barOf : GoodIn wsX12_join (wsV RX12 193 RX12 yX12_barOf wsX12_barOf) := goodIn_app (goodIn_of _ (by decide +kernel)) ggX12_join_X12_barOf
set_option maxRecDepth 20000 in
theorem ggX12_join_X12_no : GoodIn wsX12_join wsX12_no := goodIn_r _ [20, 16, 52, 53, 54, 55, 56, 57, 58, 59, 60, 61, 62, 63, 64, 65, 66, 67] (by decide +kernel) (by decide +kernel)
set_option maxRecDepth 20000 in
theorem gX12_join_X12_no : GoodIn wsX12_join (wsV RX12 43 RX12 yX12_no wsX12_no) := goodIn_app (goodIn_of _ (by decide +kernel)) ggX12_join_X12_no
set_option maxRecDepth 20000 in
theorem ggX12_join_X12_keeps : GoodIn wsX12_join wsX12_keeps := goodIn_r _ [36, 37, 38, 1, 39, 40, 41, 42, 43, 52, 53, 54, 55, 56, 57, 58, 59, 60, 61, 62, 63, 64, 65, 66, 67] (by decide +kernel) (by decide +kernel)
set_option maxRecDepth 20000 in
theorem gX12_join_X12_keeps : GoodIn wsX12_join (wsV RX12 68 RX12 yX12_keeps wsX12_keeps) := goodIn_app (goodIn_of _ (by decide +kernel)) ggX12_join_X12_keeps
set_option maxRecDepth 20000 in
theorem ggX12_join_X12_lineOf : GoodIn wsX12_join wsX12_lineOf := goodIn_r _ [28, 1, 52, 53, 54, 55, 56, 57, 58, 59, 60, 61, 62, 63, 64, 65, 66, 67] (by decide +kernel) (by decide +kernel)
set_option maxRecDepth 20000 in
theorem gX12_join_X12_lineOf : GoodIn wsX12_join (wsV RX12 187 RX12 yX12_lineOf wsX12_lineOf) := goodIn_app (goodIn_of _ (by decide +kernel)) ggX12_join_X12_lineOf
set_option maxRecDepth 20000 in
theorem ggX12_join_X12_waitNow : GoodIn wsX12_join wsX12_waitNow := goodIn_r _ [47, 21, 22, 23, 4, 24, 25, 26, 27, 28, 1, 29, 30, 31, 32, 48, 49, 50, 51, 52, 53, 54, 55, 56, 57, 58, 59, 60, 61, 62, 63, 64, 65, 66, 67] (by decide +kernel) (by decide +kernel)
set_option maxRecDepth 20000 in
theorem gX12_join_X12_waitNow : GoodIn wsX12_join (wsV RX12 202 RX12 yX12_waitNow wsX12_waitNow) := goodIn_app (goodIn_of _ (by decide +kernel)) ggX12_join_X12_waitNow
theorem dX12_join_0 : decode cX12_join 0 = .ok (.aload_n 0, 1) := by decide +kernel
theorem dX12_join_1 : decode cX12_join 1 = .ok (.iload_n 1, 1) := by decide +kernel
theorem dX12_join_2 : decode cX12_join 2 = .ok (.invokestatic 199, 3) := by decide +kernel
theorem dX12_join_5 : decode cX12_join 5 = .ok (.ifCond .eq 14, 3) := by decide +kernel
theorem dX12_join_8 : decode cX12_join 8 = .ok (.iload_n 2, 1) := by decide +kernel
theorem dX12_join_9 : decode cX12_join 9 = .ok (.invokestatic 114, 3) := by decide +kernel
theorem dX12_join_12 : decode cX12_join 12 = .ok (.ifCond .eq 7, 3) := by decide +kernel
theorem dX12_join_15 : decode cX12_join 15 = .ok (.iconst 1, 1) := by decide +kernel
theorem dX12_join_16 : decode cX12_join 16 = .ok (.goto 4, 3) := by decide +kernel
theorem dX12_join_19 : decode cX12_join 19 = .ok (.iconst 0, 1) := by decide +kernel
theorem dX12_join_20 : decode cX12_join 20 = .ok (.invokevirtual 78, 3) := by decide +kernel
theorem dX12_join_23 : decode cX12_join 23 = .ok (.ifCond .ne 25, 3) := by decide +kernel
theorem dX12_join_26 : decode cX12_join 26 = .ok (.aload_n 0, 1) := by decide +kernel
theorem dX12_join_27 : decode cX12_join 27 = .ok (.aload_n 0, 1) := by decide +kernel
theorem dX12_join_28 : decode cX12_join 28 = .ok (.iload_n 2, 1) := by decide +kernel
theorem dX12_join_29 : decode cX12_join 29 = .ok (.invokevirtual 193, 3) := by decide +kernel
theorem dX12_join_32 : decode cX12_join 32 = .ok (.iconst (-1), 1) := by decide +kernel
theorem dX12_join_33 : decode cX12_join 33 = .ok (.if_icmp .ne 7, 3) := by decide +kernel
theorem dX12_join_36 : decode cX12_join 36 = .ok (.iconst 1, 1) := by decide +kernel
theorem dX12_join_37 : decode cX12_join 37 = .ok (.goto 4, 3) := by decide +kernel
theorem dX12_join_40 : decode cX12_join 40 = .ok (.iconst 0, 1) := by decide +kernel
theorem dX12_join_41 : decode cX12_join 41 = .ok (.iconst 2, 1) := by decide +kernel
theorem dX12_join_42 : decode cX12_join 42 = .ok (.invokevirtual 43, 3) := by decide +kernel
theorem dX12_join_45 : decode cX12_join 45 = .ok (.ifCond .eq 5, 3) := by decide +kernel
theorem dX12_join_48 : decode cX12_join 48 = .ok (.iconst 0, 1) := by decide +kernel
theorem dX12_join_49 : decode cX12_join 49 = .ok (.ireturn, 1) := by decide +kernel
theorem dX12_join_50 : decode cX12_join 50 = .ok (.aload_n 0, 1) := by decide +kernel
theorem dX12_join_51 : decode cX12_join 51 = .ok (.invokevirtual 68, 3) := by decide +kernel
theorem dX12_join_54 : decode cX12_join 54 = .ok (.aload_n 0, 1) := by decide +kernel
theorem dX12_join_55 : decode cX12_join 55 = .ok (.iload_n 1, 1) := by decide +kernel
theorem dX12_join_56 : decode cX12_join 56 = .ok (.invokevirtual 187, 3) := by decide +kernel
theorem dX12_join_59 : decode cX12_join 59 = .ok (.ifCond .ne 21, 3) := by decide +kernel
theorem dX12_join_62 : decode cX12_join 62 = .ok (.aload_n 0, 1) := by decide +kernel
theorem dX12_join_63 : decode cX12_join 63 = .ok (.getfield 9, 3) := by decide +kernel
theorem dX12_join_66 : decode cX12_join 66 = .ok (.sipush 370, 3) := by decide +kernel
theorem dX12_join_69 : decode cX12_join 69 = .ok (.iload_n 1, 1) := by decide +kernel
theorem dX12_join_70 : decode cX12_join 70 = .ok (.iadd, 1) := by decide +kernel
theorem dX12_join_71 : decode cX12_join 71 = .ok (.aload_n 0, 1) := by decide +kernel
theorem dX12_join_72 : decode cX12_join 72 = .ok (.getfield 9, 3) := by decide +kernel
theorem dX12_join_75 : decode cX12_join 75 = .ok (.sipush 330, 3) := by decide +kernel
theorem dX12_join_78 : decode cX12_join 78 = .ok (.iaload, 1) := by decide +kernel
theorem dX12_join_79 : decode cX12_join 79 = .ok (.iastore, 1) := by decide +kernel
theorem dX12_join_80 : decode cX12_join 80 = .ok (.aload_n 0, 1) := by decide +kernel
theorem dX12_join_81 : decode cX12_join 81 = .ok (.getfield 9, 3) := by decide +kernel
theorem dX12_join_84 : decode cX12_join 84 = .ok (.sipush 331, 3) := by decide +kernel
theorem dX12_join_87 : decode cX12_join 87 = .ok (.bipush 13, 2) := by decide +kernel
theorem dX12_join_89 : decode cX12_join 89 = .ok (.iload_n 1, 1) := by decide +kernel
theorem dX12_join_90 : decode cX12_join 90 = .ok (.imul, 1) := by decide +kernel
theorem dX12_join_91 : decode cX12_join 91 = .ok (.iadd, 1) := by decide +kernel
theorem dX12_join_92 : decode cX12_join 92 = .ok (.iconst 1, 1) := by decide +kernel
theorem dX12_join_93 : decode cX12_join 93 = .ok (.iadd, 1) := by decide +kernel
theorem dX12_join_94 : decode cX12_join 94 = .ok (.aload_n 0, 1) := by decide +kernel
theorem dX12_join_95 : decode cX12_join 95 = .ok (.iload_n 1, 1) := by decide +kernel
theorem dX12_join_96 : decode cX12_join 96 = .ok (.invokevirtual 187, 3) := by decide +kernel
theorem dX12_join_99 : decode cX12_join 99 = .ok (.iadd, 1) := by decide +kernel
theorem dX12_join_100 : decode cX12_join 100 = .ok (.iload_n 2, 1) := by decide +kernel
theorem dX12_join_101 : decode cX12_join 101 = .ok (.iastore, 1) := by decide +kernel
theorem dX12_join_102 : decode cX12_join 102 = .ok (.aload_n 0, 1) := by decide +kernel
theorem dX12_join_103 : decode cX12_join 103 = .ok (.getfield 9, 3) := by decide +kernel
theorem dX12_join_106 : decode cX12_join 106 = .ok (.sipush 331, 3) := by decide +kernel
theorem dX12_join_109 : decode cX12_join 109 = .ok (.bipush 13, 2) := by decide +kernel
theorem dX12_join_111 : decode cX12_join 111 = .ok (.iload_n 1, 1) := by decide +kernel
theorem dX12_join_112 : decode cX12_join 112 = .ok (.imul, 1) := by decide +kernel
theorem dX12_join_113 : decode cX12_join 113 = .ok (.iadd, 1) := by decide +kernel
theorem dX12_join_114 : decode cX12_join 114 = .ok (.dup2, 1) := by decide +kernel
theorem dX12_join_115 : decode cX12_join 115 = .ok (.iaload, 1) := by decide +kernel
theorem dX12_join_116 : decode cX12_join 116 = .ok (.iconst 1, 1) := by decide +kernel
theorem dX12_join_117 : decode cX12_join 117 = .ok (.iadd, 1) := by decide +kernel
theorem dX12_join_118 : decode cX12_join 118 = .ok (.iastore, 1) := by decide +kernel
theorem dX12_join_119 : decode cX12_join 119 = .ok (.aload_n 0, 1) := by decide +kernel
theorem dX12_join_120 : decode cX12_join 120 = .ok (.getfield 9, 3) := by decide +kernel
theorem dX12_join_123 : decode cX12_join 123 = .ok (.sipush 385, 3) := by decide +kernel
theorem dX12_join_126 : decode cX12_join 126 = .ok (.dup2, 1) := by decide +kernel
theorem dX12_join_127 : decode cX12_join 127 = .ok (.iaload, 1) := by decide +kernel
theorem dX12_join_128 : decode cX12_join 128 = .ok (.iconst 1, 1) := by decide +kernel
theorem dX12_join_129 : decode cX12_join 129 = .ok (.iadd, 1) := by decide +kernel
theorem dX12_join_130 : decode cX12_join 130 = .ok (.iastore, 1) := by decide +kernel
theorem dX12_join_131 : decode cX12_join 131 = .ok (.aload_n 0, 1) := by decide +kernel
theorem dX12_join_132 : decode cX12_join 132 = .ok (.getfield 9, 3) := by decide +kernel
theorem dX12_join_135 : decode cX12_join 135 = .ok (.sipush 373, 3) := by decide +kernel
theorem dX12_join_138 : decode cX12_join 138 = .ok (.iload_n 2, 1) := by decide +kernel
theorem dX12_join_139 : decode cX12_join 139 = .ok (.iadd, 1) := by decide +kernel
theorem dX12_join_140 : decode cX12_join 140 = .ok (.aload_n 0, 1) := by decide +kernel
theorem dX12_join_141 : decode cX12_join 141 = .ok (.getfield 9, 3) := by decide +kernel
theorem dX12_join_144 : decode cX12_join 144 = .ok (.sipush 385, 3) := by decide +kernel
theorem dX12_join_147 : decode cX12_join 147 = .ok (.iaload, 1) := by decide +kernel
theorem dX12_join_148 : decode cX12_join 148 = .ok (.iastore, 1) := by decide +kernel
theorem dX12_join_149 : decode cX12_join 149 = .ok (.aload_n 0, 1) := by decide +kernel
theorem dX12_join_150 : decode cX12_join 150 = .ok (.iload_n 2, 1) := by decide +kernel
theorem dX12_join_151 : decode cX12_join 151 = .ok (.invokevirtual 202, 3) := by decide +kernel
theorem dX12_join_154 : decode cX12_join 154 = .ok (.ireturn, 1) := by decide +kernel
set_option maxRecDepth 20000 in
theorem ggX12_takesOut_X12_lineOf : GoodIn wsX12_takesOut wsX12_lineOf := goodIn_r _ [6, 1, 11, 12, 13, 14, 15, 16, 17, 18, 19, 20, 21, 22, 23, 24, 25, 26] (by decide +kernel) (by decide +kernel)
set_option maxRecDepth 20000 in
theorem gX12_takesOut_X12_lineOf : GoodIn wsX12_takesOut (wsV RX12 187 RX12 yX12_lineOf wsX12_lineOf) := goodIn_app (goodIn_of _ (by decide +kernel)) ggX12_takesOut_X12_lineOf
set_option maxRecDepth 20000 in
theorem ggX12_takesOut_X12_inLine : GoodIn wsX12_takesOut wsX12_inLine := goodIn_r _ [10, 1, 11, 12, 13, 14, 15, 16, 17, 18, 19, 20, 21, 22, 23, 24, 25, 26] (by decide +kernel) (by decide +kernel)
set_option maxRecDepth 20000 in
theorem gX12_takesOut_X12_inLine : GoodIn wsX12_takesOut (wsV RX12 190 RX12 yX12_inLine wsX12_inLine) := goodIn_app (goodIn_of _ (by decide +kernel)) ggX12_takesOut_X12_inLine
theorem dX12_takesOut_0 : decode cX12_takesOut 0 = .ok (.iload_n 2, 1) := by decide +kernel
theorem dX12_takesOut_1 : decode cX12_takesOut 1 = .ok (.istore_n 3, 1) := by decide +kernel
theorem dX12_takesOut_2 : decode cX12_takesOut 2 = .ok (.iload_n 3, 1) := by decide +kernel
theorem dX12_takesOut_3 : decode cX12_takesOut 3 = .ok (.aload_n 0, 1) := by decide +kernel
theorem dX12_takesOut_4 : decode cX12_takesOut 4 = .ok (.iload_n 1, 1) := by decide +kernel
theorem dX12_takesOut_5 : decode cX12_takesOut 5 = .ok (.invokevirtual 187, 3) := by decide +kernel
theorem dX12_takesOut_8 : decode cX12_takesOut 8 = .ok (.iconst 1, 1) := by decide +kernel
theorem dX12_takesOut_9 : decode cX12_takesOut 9 = .ok (.isub, 1) := by decide +kernel
theorem dX12_takesOut_10 : decode cX12_takesOut 10 = .ok (.if_icmp .ge 34, 3) := by decide +kernel
theorem dX12_takesOut_13 : decode cX12_takesOut 13 = .ok (.aload_n 0, 1) := by decide +kernel
theorem dX12_takesOut_14 : decode cX12_takesOut 14 = .ok (.getfield 9, 3) := by decide +kernel
theorem dX12_takesOut_17 : decode cX12_takesOut 17 = .ok (.sipush 331, 3) := by decide +kernel
theorem dX12_takesOut_20 : decode cX12_takesOut 20 = .ok (.bipush 13, 2) := by decide +kernel
theorem dX12_takesOut_22 : decode cX12_takesOut 22 = .ok (.iload_n 1, 1) := by decide +kernel
theorem dX12_takesOut_23 : decode cX12_takesOut 23 = .ok (.imul, 1) := by decide +kernel
theorem dX12_takesOut_24 : decode cX12_takesOut 24 = .ok (.iadd, 1) := by decide +kernel
theorem dX12_takesOut_25 : decode cX12_takesOut 25 = .ok (.iconst 1, 1) := by decide +kernel
theorem dX12_takesOut_26 : decode cX12_takesOut 26 = .ok (.iadd, 1) := by decide +kernel
theorem dX12_takesOut_27 : decode cX12_takesOut 27 = .ok (.iload_n 3, 1) := by decide +kernel
theorem dX12_takesOut_28 : decode cX12_takesOut 28 = .ok (.iadd, 1) := by decide +kernel
theorem dX12_takesOut_29 : decode cX12_takesOut 29 = .ok (.aload_n 0, 1) := by decide +kernel
theorem dX12_takesOut_30 : decode cX12_takesOut 30 = .ok (.iload_n 1, 1) := by decide +kernel
theorem dX12_takesOut_31 : decode cX12_takesOut 31 = .ok (.iload_n 3, 1) := by decide +kernel
theorem dX12_takesOut_32 : decode cX12_takesOut 32 = .ok (.iconst 1, 1) := by decide +kernel
theorem dX12_takesOut_33 : decode cX12_takesOut 33 = .ok (.iadd, 1) := by decide +kernel
theorem dX12_takesOut_34 : decode cX12_takesOut 34 = .ok (.invokevirtual 190, 3) := by decide +kernel
theorem dX12_takesOut_37 : decode cX12_takesOut 37 = .ok (.iastore, 1) := by decide +kernel
theorem dX12_takesOut_38 : decode cX12_takesOut 38 = .ok (.iinc 3 1, 3) := by decide +kernel
theorem dX12_takesOut_41 : decode cX12_takesOut 41 = .ok (.goto (-39), 3) := by decide +kernel
theorem dX12_takesOut_44 : decode cX12_takesOut 44 = .ok (.aload_n 0, 1) := by decide +kernel
theorem dX12_takesOut_45 : decode cX12_takesOut 45 = .ok (.getfield 9, 3) := by decide +kernel
theorem dX12_takesOut_48 : decode cX12_takesOut 48 = .ok (.sipush 331, 3) := by decide +kernel
theorem dX12_takesOut_51 : decode cX12_takesOut 51 = .ok (.bipush 13, 2) := by decide +kernel
theorem dX12_takesOut_53 : decode cX12_takesOut 53 = .ok (.iload_n 1, 1) := by decide +kernel
theorem dX12_takesOut_54 : decode cX12_takesOut 54 = .ok (.imul, 1) := by decide +kernel
theorem dX12_takesOut_55 : decode cX12_takesOut 55 = .ok (.iadd, 1) := by decide +kernel
theorem dX12_takesOut_56 : decode cX12_takesOut 56 = .ok (.dup2, 1) := by decide +kernel
theorem dX12_takesOut_57 : decode cX12_takesOut 57 = .ok (.iaload, 1) := by decide +kernel
theorem dX12_takesOut_58 : decode cX12_takesOut 58 = .ok (.iconst 1, 1) := by decide +kernel
theorem dX12_takesOut_59 : decode cX12_takesOut 59 = .ok (.isub, 1) := by decide +kernel
theorem dX12_takesOut_60 : decode cX12_takesOut 60 = .ok (.iastore, 1) := by decide +kernel
theorem dX12_takesOut_61 : decode cX12_takesOut 61 = .ok (.iload_n 2, 1) := by decide +kernel
theorem dX12_takesOut_62 : decode cX12_takesOut 62 = .ok (.ifCond .ne 21, 3) := by decide +kernel
theorem dX12_takesOut_65 : decode cX12_takesOut 65 = .ok (.aload_n 0, 1) := by decide +kernel
theorem dX12_takesOut_66 : decode cX12_takesOut 66 = .ok (.getfield 9, 3) := by decide +kernel
theorem dX12_takesOut_69 : decode cX12_takesOut 69 = .ok (.sipush 370, 3) := by decide +kernel
theorem dX12_takesOut_72 : decode cX12_takesOut 72 = .ok (.iload_n 1, 1) := by decide +kernel
theorem dX12_takesOut_73 : decode cX12_takesOut 73 = .ok (.iadd, 1) := by decide +kernel
theorem dX12_takesOut_74 : decode cX12_takesOut 74 = .ok (.aload_n 0, 1) := by decide +kernel
theorem dX12_takesOut_75 : decode cX12_takesOut 75 = .ok (.getfield 9, 3) := by decide +kernel
theorem dX12_takesOut_78 : decode cX12_takesOut 78 = .ok (.sipush 330, 3) := by decide +kernel
theorem dX12_takesOut_81 : decode cX12_takesOut 81 = .ok (.iaload, 1) := by decide +kernel
theorem dX12_takesOut_82 : decode cX12_takesOut 82 = .ok (.iastore, 1) := by decide +kernel
theorem dX12_takesOut_83 : decode cX12_takesOut 83 = .ok (.return_, 1) := by decide +kernel
set_option maxRecDepth 20000 in
theorem ggX12_leave_X12_isVisitor : GoodIn wsX12_leave wsX12_isVisitor := goodIn_r _ [4, 5, 6, 3, 7] (by decide +kernel) (by decide +kernel)
set_option maxRecDepth 20000 in
theorem gX12_leave_X12_isVisitor : GoodIn wsX12_leave (va_wsS RX12 114 yX12_isVisitor wsX12_isVisitor) := goodIn_app (goodIn_of _ (by decide +kernel)) ggX12_leave_X12_isVisitor
set_option maxRecDepth 20000 in
theorem ggX12_leave_X12_lacks : GoodIn wsX12_leave wsX12_lacks := goodIn_r _ [11, 12, 13, 14, 15, 3, 16, 45, 46, 47, 48, 49, 50, 51, 52, 53, 54, 55, 56, 57, 58, 59, 60] (by decide +kernel) (by decide +kernel)
set_option maxRecDepth 20000 in
theorem gX12_leave_X12_lacks : GoodIn wsX12_leave (wsV RX12 78 RX12 yX12_lacks wsX12_lacks) := goodIn_app (goodIn_of _ (by decide +kernel)) ggX12_leave_X12_lacks
set_option maxRecDepth 20000 in
theorem ggX12_leave_X12_barOf : GoodIn wsX12_leave wsX12_barOf := goodIn_r _ [20, 21, 22, 23, 3, 24, 25, 26, 27, 28, 29, 45, 46, 47, 48, 49, 50, 51, 52, 53, 54, 55, 56, 57, 58, 59, 60] (by decide +kernel) (by decide +kernel)
set_option maxRecDepth 20000 in
theorem gX12_leave_X12_barOf : GoodIn wsX12_leave (wsV RX12 193 RX12 yX12_barOf wsX12_barOf) := goodIn_app (goodIn_of _ (by decide +kernel)) ggX12_leave_X12_barOf
set_option maxRecDepth 20000 in
theorem ggX12_leave_X12_no : GoodIn wsX12_leave wsX12_no := goodIn_r _ [16, 12, 45, 46, 47, 48, 49, 50, 51, 52, 53, 54, 55, 56, 57, 58, 59, 60] (by decide +kernel) (by decide +kernel)
set_option maxRecDepth 20000 in
theorem gX12_leave_X12_no : GoodIn wsX12_leave (wsV RX12 43 RX12 yX12_no wsX12_no) := goodIn_app (goodIn_of _ (by decide +kernel)) ggX12_leave_X12_no
set_option maxRecDepth 20000 in
theorem ggX12_leave_X12_keeps : GoodIn wsX12_leave wsX12_keeps := goodIn_r _ [33, 34, 35, 25, 36, 37, 38, 39, 40, 45, 46, 47, 48, 49, 50, 51, 52, 53, 54, 55, 56, 57, 58, 59, 60] (by decide +kernel) (by decide +kernel)
set_option maxRecDepth 20000 in
theorem gX12_leave_X12_keeps : GoodIn wsX12_leave (wsV RX12 68 RX12 yX12_keeps wsX12_keeps) := goodIn_app (goodIn_of _ (by decide +kernel)) ggX12_leave_X12_keeps
set_option maxRecDepth 20000 in
theorem ggX12_leave_X12_inLine : GoodIn wsX12_leave wsX12_inLine := goodIn_r _ [29, 25, 45, 46, 47, 48, 49, 50, 51, 52, 53, 54, 55, 56, 57, 58, 59, 60] (by decide +kernel) (by decide +kernel)
set_option maxRecDepth 20000 in
theorem gX12_leave_X12_inLine : GoodIn wsX12_leave (wsV RX12 190 RX12 yX12_inLine wsX12_inLine) := goodIn_app (goodIn_of _ (by decide +kernel)) ggX12_leave_X12_inLine
set_option maxRecDepth 20000 in
theorem ggX12_leave_X12_takesOut : GoodIn wsX12_leave wsX12_takesOut := goodIn_r _ [44, 25, 21, 22, 23, 3, 24, 26, 27, 28, 29, 45, 46, 47, 48, 49, 50, 51, 52, 53, 54, 55, 56, 57, 58, 59, 60] (by decide +kernel) (by decide +kernel)
set_option maxRecDepth 20000 in
theorem gX12_leave_X12_takesOut : GoodIn wsX12_leave (wsV RX12 205 RX12 yX12_takesOut wsX12_takesOut) := goodIn_app (goodIn_of _ (by decide +kernel)) ggX12_leave_X12_takesOut
theorem dX12_leave_0 : decode cX12_leave 0 = .ok (.aload_n 0, 1) := by decide +kernel
theorem dX12_leave_1 : decode cX12_leave 1 = .ok (.iload_n 1, 1) := by decide +kernel
theorem dX12_leave_2 : decode cX12_leave 2 = .ok (.invokestatic 114, 3) := by decide +kernel
theorem dX12_leave_5 : decode cX12_leave 5 = .ok (.invokevirtual 78, 3) := by decide +kernel
theorem dX12_leave_8 : decode cX12_leave 8 = .ok (.ifCond .ne 25, 3) := by decide +kernel
theorem dX12_leave_11 : decode cX12_leave 11 = .ok (.aload_n 0, 1) := by decide +kernel
theorem dX12_leave_12 : decode cX12_leave 12 = .ok (.aload_n 0, 1) := by decide +kernel
theorem dX12_leave_13 : decode cX12_leave 13 = .ok (.iload_n 1, 1) := by decide +kernel
theorem dX12_leave_14 : decode cX12_leave 14 = .ok (.invokevirtual 193, 3) := by decide +kernel
theorem dX12_leave_17 : decode cX12_leave 17 = .ok (.iconst (-1), 1) := by decide +kernel
theorem dX12_leave_18 : decode cX12_leave 18 = .ok (.if_icmp .eq 7, 3) := by decide +kernel
theorem dX12_leave_21 : decode cX12_leave 21 = .ok (.iconst 1, 1) := by decide +kernel
theorem dX12_leave_22 : decode cX12_leave 22 = .ok (.goto 4, 3) := by decide +kernel
theorem dX12_leave_25 : decode cX12_leave 25 = .ok (.iconst 0, 1) := by decide +kernel
theorem dX12_leave_26 : decode cX12_leave 26 = .ok (.iconst 2, 1) := by decide +kernel
theorem dX12_leave_27 : decode cX12_leave 27 = .ok (.invokevirtual 43, 3) := by decide +kernel
theorem dX12_leave_30 : decode cX12_leave 30 = .ok (.ifCond .eq 5, 3) := by decide +kernel
theorem dX12_leave_33 : decode cX12_leave 33 = .ok (.iconst 0, 1) := by decide +kernel
theorem dX12_leave_34 : decode cX12_leave 34 = .ok (.ireturn, 1) := by decide +kernel
theorem dX12_leave_35 : decode cX12_leave 35 = .ok (.aload_n 0, 1) := by decide +kernel
theorem dX12_leave_36 : decode cX12_leave 36 = .ok (.invokevirtual 68, 3) := by decide +kernel
theorem dX12_leave_39 : decode cX12_leave 39 = .ok (.aload_n 0, 1) := by decide +kernel
theorem dX12_leave_40 : decode cX12_leave 40 = .ok (.iload_n 1, 1) := by decide +kernel
theorem dX12_leave_41 : decode cX12_leave 41 = .ok (.invokevirtual 193, 3) := by decide +kernel
theorem dX12_leave_44 : decode cX12_leave 44 = .ok (.istore_n 2, 1) := by decide +kernel
theorem dX12_leave_45 : decode cX12_leave 45 = .ok (.iconst 0, 1) := by decide +kernel
theorem dX12_leave_46 : decode cX12_leave 46 = .ok (.istore_n 3, 1) := by decide +kernel
theorem dX12_leave_47 : decode cX12_leave 47 = .ok (.aload_n 0, 1) := by decide +kernel
theorem dX12_leave_48 : decode cX12_leave 48 = .ok (.iload_n 2, 1) := by decide +kernel
theorem dX12_leave_49 : decode cX12_leave 49 = .ok (.iload_n 3, 1) := by decide +kernel
theorem dX12_leave_50 : decode cX12_leave 50 = .ok (.invokevirtual 190, 3) := by decide +kernel
theorem dX12_leave_53 : decode cX12_leave 53 = .ok (.iload_n 1, 1) := by decide +kernel
theorem dX12_leave_54 : decode cX12_leave 54 = .ok (.if_icmp .eq 9, 3) := by decide +kernel
theorem dX12_leave_57 : decode cX12_leave 57 = .ok (.iinc 3 1, 3) := by decide +kernel
theorem dX12_leave_60 : decode cX12_leave 60 = .ok (.goto (-13), 3) := by decide +kernel
theorem dX12_leave_63 : decode cX12_leave 63 = .ok (.aload_n 0, 1) := by decide +kernel
theorem dX12_leave_64 : decode cX12_leave 64 = .ok (.iload_n 2, 1) := by decide +kernel
theorem dX12_leave_65 : decode cX12_leave 65 = .ok (.iload_n 3, 1) := by decide +kernel
theorem dX12_leave_66 : decode cX12_leave 66 = .ok (.invokevirtual 205, 3) := by decide +kernel
theorem dX12_leave_69 : decode cX12_leave 69 = .ok (.iload_n 2, 1) := by decide +kernel
theorem dX12_leave_70 : decode cX12_leave 70 = .ok (.ireturn, 1) := by decide +kernel
set_option maxRecDepth 20000 in
theorem ggX12_pass_X12_in : GoodIn wsX12_pass wsX12_in := goodIn_r _ [5] (by decide +kernel) (by decide +kernel)
set_option maxRecDepth 20000 in
theorem gX12_pass_X12_in : GoodIn wsX12_pass (va_wsS RX12 47 yX12_in wsX12_in) := goodIn_app (goodIn_of _ (by decide +kernel)) ggX12_pass_X12_in
set_option maxRecDepth 20000 in
theorem ggX12_pass_X12_lacks : GoodIn wsX12_pass wsX12_lacks := goodIn_r _ [9, 10, 11, 12, 13, 4, 14, 38, 39, 40, 41, 42, 43, 44, 45, 46, 47, 48, 49, 50, 51, 52, 53] (by decide +kernel) (by decide +kernel)
set_option maxRecDepth 20000 in
theorem gX12_pass_X12_lacks : GoodIn wsX12_pass (wsV RX12 78 RX12 yX12_lacks wsX12_lacks) := goodIn_app (goodIn_of _ (by decide +kernel)) ggX12_pass_X12_lacks
set_option maxRecDepth 20000 in
theorem ggX12_pass_X12_keeps : GoodIn wsX12_pass wsX12_keeps := goodIn_r _ [18, 19, 20, 1, 21, 22, 23, 24, 25, 38, 39, 40, 41, 42, 43, 44, 45, 46, 47, 48, 49, 50, 51, 52, 53] (by decide +kernel) (by decide +kernel)
set_option maxRecDepth 20000 in
theorem gX12_pass_X12_keeps : GoodIn wsX12_pass (wsV RX12 68 RX12 yX12_keeps wsX12_keeps) := goodIn_app (goodIn_of _ (by decide +kernel)) ggX12_pass_X12_keeps
set_option maxRecDepth 20000 in
theorem ggX12_pass_X12_lineOf : GoodIn wsX12_pass wsX12_lineOf := goodIn_r _ [29, 1, 38, 39, 40, 41, 42, 43, 44, 45, 46, 47, 48, 49, 50, 51, 52, 53] (by decide +kernel) (by decide +kernel)
set_option maxRecDepth 20000 in
theorem gX12_pass_X12_lineOf : GoodIn wsX12_pass (wsV RX12 187 RX12 yX12_lineOf wsX12_lineOf) := goodIn_app (goodIn_of _ (by decide +kernel)) ggX12_pass_X12_lineOf
set_option maxRecDepth 20000 in
theorem ggX12_pass_X12_takesOut : GoodIn wsX12_pass wsX12_takesOut := goodIn_r _ [33, 1, 26, 27, 28, 4, 29, 34, 35, 36, 37, 38, 39, 40, 41, 42, 43, 44, 45, 46, 47, 48, 49, 50, 51, 52, 53] (by decide +kernel) (by decide +kernel)
set_option maxRecDepth 20000 in
theorem gX12_pass_X12_takesOut : GoodIn wsX12_pass (wsV RX12 205 RX12 yX12_takesOut wsX12_takesOut) := goodIn_app (goodIn_of _ (by decide +kernel)) ggX12_pass_X12_takesOut
theorem dX12_pass_0 : decode cX12_pass 0 = .ok (.aload_n 0, 1) := by decide +kernel
theorem dX12_pass_1 : decode cX12_pass 1 = .ok (.iload_n 1, 1) := by decide +kernel
theorem dX12_pass_2 : decode cX12_pass 2 = .ok (.iconst 1, 1) := by decide +kernel
theorem dX12_pass_3 : decode cX12_pass 3 = .ok (.bipush 60, 2) := by decide +kernel
theorem dX12_pass_5 : decode cX12_pass 5 = .ok (.invokestatic 47, 3) := by decide +kernel
theorem dX12_pass_8 : decode cX12_pass 8 = .ok (.invokevirtual 78, 3) := by decide +kernel
theorem dX12_pass_11 : decode cX12_pass 11 = .ok (.ifCond .eq 5, 3) := by decide +kernel
theorem dX12_pass_14 : decode cX12_pass 14 = .ok (.iconst 0, 1) := by decide +kernel
theorem dX12_pass_15 : decode cX12_pass 15 = .ok (.ireturn, 1) := by decide +kernel
theorem dX12_pass_16 : decode cX12_pass 16 = .ok (.aload_n 0, 1) := by decide +kernel
theorem dX12_pass_17 : decode cX12_pass 17 = .ok (.invokevirtual 68, 3) := by decide +kernel
theorem dX12_pass_20 : decode cX12_pass 20 = .ok (.iconst 0, 1) := by decide +kernel
theorem dX12_pass_21 : decode cX12_pass 21 = .ok (.istore_n 2, 1) := by decide +kernel
theorem dX12_pass_22 : decode cX12_pass 22 = .ok (.iconst 0, 1) := by decide +kernel
theorem dX12_pass_23 : decode cX12_pass 23 = .ok (.istore_n 3, 1) := by decide +kernel
theorem dX12_pass_24 : decode cX12_pass 24 = .ok (.iload_n 3, 1) := by decide +kernel
theorem dX12_pass_25 : decode cX12_pass 25 = .ok (.iload_n 1, 1) := by decide +kernel
theorem dX12_pass_26 : decode cX12_pass 26 = .ok (.iconst 3, 1) := by decide +kernel
theorem dX12_pass_27 : decode cX12_pass 27 = .ok (.imul, 1) := by decide +kernel
theorem dX12_pass_28 : decode cX12_pass 28 = .ok (.if_icmp .ge 68, 3) := by decide +kernel
theorem dX12_pass_31 : decode cX12_pass 31 = .ok (.iload_n 3, 1) := by decide +kernel
theorem dX12_pass_32 : decode cX12_pass 32 = .ok (.iconst 3, 1) := by decide +kernel
theorem dX12_pass_33 : decode cX12_pass 33 = .ok (.irem, 1) := by decide +kernel
theorem dX12_pass_34 : decode cX12_pass 34 = .ok (.istore 4, 2) := by decide +kernel
theorem dX12_pass_36 : decode cX12_pass 36 = .ok (.aload_n 0, 1) := by decide +kernel
theorem dX12_pass_37 : decode cX12_pass 37 = .ok (.iload 4, 2) := by decide +kernel
theorem dX12_pass_39 : decode cX12_pass 39 = .ok (.invokevirtual 187, 3) := by decide +kernel
theorem dX12_pass_42 : decode cX12_pass 42 = .ok (.ifCond .ne 6, 3) := by decide +kernel
theorem dX12_pass_45 : decode cX12_pass 45 = .ok (.goto 45, 3) := by decide +kernel
theorem dX12_pass_48 : decode cX12_pass 48 = .ok (.aload_n 0, 1) := by decide +kernel
theorem dX12_pass_49 : decode cX12_pass 49 = .ok (.getfield 9, 3) := by decide +kernel
theorem dX12_pass_52 : decode cX12_pass 52 = .ok (.sipush 370, 3) := by decide +kernel
theorem dX12_pass_55 : decode cX12_pass 55 = .ok (.iload 4, 2) := by decide +kernel
theorem dX12_pass_57 : decode cX12_pass 57 = .ok (.iadd, 1) := by decide +kernel
theorem dX12_pass_58 : decode cX12_pass 58 = .ok (.dup2, 1) := by decide +kernel
theorem dX12_pass_59 : decode cX12_pass 59 = .ok (.iaload, 1) := by decide +kernel
theorem dX12_pass_60 : decode cX12_pass 60 = .ok (.iconst 1, 1) := by decide +kernel
theorem dX12_pass_61 : decode cX12_pass 61 = .ok (.isub, 1) := by decide +kernel
theorem dX12_pass_62 : decode cX12_pass 62 = .ok (.iastore, 1) := by decide +kernel
theorem dX12_pass_63 : decode cX12_pass 63 = .ok (.aload_n 0, 1) := by decide +kernel
theorem dX12_pass_64 : decode cX12_pass 64 = .ok (.getfield 9, 3) := by decide +kernel
theorem dX12_pass_67 : decode cX12_pass 67 = .ok (.sipush 370, 3) := by decide +kernel
theorem dX12_pass_70 : decode cX12_pass 70 = .ok (.iload 4, 2) := by decide +kernel
theorem dX12_pass_72 : decode cX12_pass 72 = .ok (.iadd, 1) := by decide +kernel
theorem dX12_pass_73 : decode cX12_pass 73 = .ok (.iaload, 1) := by decide +kernel
theorem dX12_pass_74 : decode cX12_pass 74 = .ok (.ifCond .le 6, 3) := by decide +kernel
theorem dX12_pass_77 : decode cX12_pass 77 = .ok (.goto 13, 3) := by decide +kernel
theorem dX12_pass_80 : decode cX12_pass 80 = .ok (.aload_n 0, 1) := by decide +kernel
theorem dX12_pass_81 : decode cX12_pass 81 = .ok (.iload 4, 2) := by decide +kernel
theorem dX12_pass_83 : decode cX12_pass 83 = .ok (.iconst 0, 1) := by decide +kernel
theorem dX12_pass_84 : decode cX12_pass 84 = .ok (.invokevirtual 205, 3) := by decide +kernel
theorem dX12_pass_87 : decode cX12_pass 87 = .ok (.iinc 2 1, 3) := by decide +kernel
theorem dX12_pass_90 : decode cX12_pass 90 = .ok (.iinc 3 1, 3) := by decide +kernel
theorem dX12_pass_93 : decode cX12_pass 93 = .ok (.goto (-69), 3) := by decide +kernel
theorem dX12_pass_96 : decode cX12_pass 96 = .ok (.aload_n 0, 1) := by decide +kernel
theorem dX12_pass_97 : decode cX12_pass 97 = .ok (.getfield 9, 3) := by decide +kernel
theorem dX12_pass_100 : decode cX12_pass 100 = .ok (.sipush 386, 3) := by decide +kernel
theorem dX12_pass_103 : decode cX12_pass 103 = .ok (.dup2, 1) := by decide +kernel
theorem dX12_pass_104 : decode cX12_pass 104 = .ok (.iaload, 1) := by decide +kernel
theorem dX12_pass_105 : decode cX12_pass 105 = .ok (.iload_n 2, 1) := by decide +kernel
theorem dX12_pass_106 : decode cX12_pass 106 = .ok (.iadd, 1) := by decide +kernel
theorem dX12_pass_107 : decode cX12_pass 107 = .ok (.iastore, 1) := by decide +kernel
theorem dX12_pass_108 : decode cX12_pass 108 = .ok (.iload_n 2, 1) := by decide +kernel
theorem dX12_pass_109 : decode cX12_pass 109 = .ok (.ireturn, 1) := by decide +kernel
set_option maxRecDepth 20000 in
theorem ggX12_line_X12_isBar : GoodIn wsX12_line wsX12_isBar := goodIn_r _ [4, 5, 6, 3, 7] (by decide +kernel) (by decide +kernel)
set_option maxRecDepth 20000 in
theorem gX12_line_X12_isBar : GoodIn wsX12_line (va_wsS RX12 199 yX12_isBar wsX12_isBar) := goodIn_app (goodIn_of _ (by decide +kernel)) ggX12_line_X12_isBar
set_option maxRecDepth 20000 in
theorem ggX12_line_X12_lacks : GoodIn wsX12_line wsX12_lacks := goodIn_r _ [11, 12, 13, 14, 15, 3, 16, 22, 23, 24, 25, 26, 27, 28, 29, 30, 31, 32, 33, 34, 35, 36, 37] (by decide +kernel) (by decide +kernel)
set_option maxRecDepth 20000 in
theorem gX12_line_X12_lacks : GoodIn wsX12_line (wsV RX12 78 RX12 yX12_lacks wsX12_lacks) := goodIn_app (goodIn_of _ (by decide +kernel)) ggX12_line_X12_lacks
set_option maxRecDepth 20000 in
theorem ggX12_line_X12_lineOf : GoodIn wsX12_line wsX12_lineOf := goodIn_r _ [20, 21, 22, 23, 24, 25, 26, 27, 28, 29, 30, 31, 32, 33, 34, 35, 36, 37] (by decide +kernel) (by decide +kernel)
set_option maxRecDepth 20000 in
theorem gX12_line_X12_lineOf : GoodIn wsX12_line (wsV RX12 187 RX12 yX12_lineOf wsX12_lineOf) := goodIn_app (goodIn_of _ (by decide +kernel)) ggX12_line_X12_lineOf
theorem dX12_line_0 : decode cX12_line 0 = .ok (.aload_n 0, 1) := by decide +kernel
theorem dX12_line_1 : decode cX12_line 1 = .ok (.iload_n 1, 1) := by decide +kernel
theorem dX12_line_2 : decode cX12_line 2 = .ok (.invokestatic 199, 3) := by decide +kernel
theorem dX12_line_5 : decode cX12_line 5 = .ok (.invokevirtual 78, 3) := by decide +kernel
theorem dX12_line_8 : decode cX12_line 8 = .ok (.ifCond .eq 7, 3) := by decide +kernel
theorem dX12_line_11 : decode cX12_line 11 = .ok (.iconst 0, 1) := by decide +kernel
theorem dX12_line_12 : decode cX12_line 12 = .ok (.goto 8, 3) := by decide +kernel
theorem dX12_line_15 : decode cX12_line 15 = .ok (.aload_n 0, 1) := by decide +kernel
theorem dX12_line_16 : decode cX12_line 16 = .ok (.iload_n 1, 1) := by decide +kernel
theorem dX12_line_17 : decode cX12_line 17 = .ok (.invokevirtual 187, 3) := by decide +kernel
theorem dX12_line_20 : decode cX12_line 20 = .ok (.ireturn, 1) := by decide +kernel
set_option maxRecDepth 20000 in
theorem ggX12_front_X12_isBar : GoodIn wsX12_front wsX12_isBar := goodIn_r _ [5, 6, 7, 4, 8] (by decide +kernel) (by decide +kernel)
set_option maxRecDepth 20000 in
theorem gX12_front_X12_isBar : GoodIn wsX12_front (va_wsS RX12 199 yX12_isBar wsX12_isBar) := goodIn_app (goodIn_of _ (by decide +kernel)) ggX12_front_X12_isBar
set_option maxRecDepth 20000 in
theorem ggX12_front_X12_lacks : GoodIn wsX12_front wsX12_lacks := goodIn_r _ [12, 13, 14, 15, 16, 4, 17, 26, 27, 28, 29, 30, 31, 32, 33, 34, 35, 36, 37, 38, 39, 40, 41] (by decide +kernel) (by decide +kernel)
set_option maxRecDepth 20000 in
theorem gX12_front_X12_lacks : GoodIn wsX12_front (wsV RX12 78 RX12 yX12_lacks wsX12_lacks) := goodIn_app (goodIn_of _ (by decide +kernel)) ggX12_front_X12_lacks
set_option maxRecDepth 20000 in
theorem ggX12_front_X12_lineOf : GoodIn wsX12_front wsX12_lineOf := goodIn_r _ [21, 1, 26, 27, 28, 29, 30, 31, 32, 33, 34, 35, 36, 37, 38, 39, 40, 41] (by decide +kernel) (by decide +kernel)
set_option maxRecDepth 20000 in
theorem gX12_front_X12_lineOf : GoodIn wsX12_front (wsV RX12 187 RX12 yX12_lineOf wsX12_lineOf) := goodIn_app (goodIn_of _ (by decide +kernel)) ggX12_front_X12_lineOf
set_option maxRecDepth 20000 in
theorem ggX12_front_X12_no : GoodIn wsX12_front wsX12_no := goodIn_r _ [17, 13, 26, 27, 28, 29, 30, 31, 32, 33, 34, 35, 36, 37, 38, 39, 40, 41] (by decide +kernel) (by decide +kernel)
set_option maxRecDepth 20000 in
theorem gX12_front_X12_no : GoodIn wsX12_front (wsV RX12 43 RX12 yX12_no wsX12_no) := goodIn_app (goodIn_of _ (by decide +kernel)) ggX12_front_X12_no
set_option maxRecDepth 20000 in
theorem ggX12_front_X12_inLine : GoodIn wsX12_front wsX12_inLine := goodIn_r _ [25, 1, 26, 27, 28, 29, 30, 31, 32, 33, 34, 35, 36, 37, 38, 39, 40, 41] (by decide +kernel) (by decide +kernel)
set_option maxRecDepth 20000 in
theorem gX12_front_X12_inLine : GoodIn wsX12_front (wsV RX12 190 RX12 yX12_inLine wsX12_inLine) := goodIn_app (goodIn_of _ (by decide +kernel)) ggX12_front_X12_inLine
theorem dX12_front_0 : decode cX12_front 0 = .ok (.aload_n 0, 1) := by decide +kernel
theorem dX12_front_1 : decode cX12_front 1 = .ok (.iload_n 1, 1) := by decide +kernel
theorem dX12_front_2 : decode cX12_front 2 = .ok (.invokestatic 199, 3) := by decide +kernel
theorem dX12_front_5 : decode cX12_front 5 = .ok (.invokevirtual 78, 3) := by decide +kernel
theorem dX12_front_8 : decode cX12_front 8 = .ok (.ifCond .ne 24, 3) := by decide +kernel
theorem dX12_front_11 : decode cX12_front 11 = .ok (.aload_n 0, 1) := by decide +kernel
theorem dX12_front_12 : decode cX12_front 12 = .ok (.aload_n 0, 1) := by decide +kernel
theorem dX12_front_13 : decode cX12_front 13 = .ok (.iload_n 1, 1) := by decide +kernel
theorem dX12_front_14 : decode cX12_front 14 = .ok (.invokevirtual 187, 3) := by decide +kernel
theorem dX12_front_17 : decode cX12_front 17 = .ok (.ifCond .le 7, 3) := by decide +kernel
theorem dX12_front_20 : decode cX12_front 20 = .ok (.iconst 1, 1) := by decide +kernel
theorem dX12_front_21 : decode cX12_front 21 = .ok (.goto 4, 3) := by decide +kernel
theorem dX12_front_24 : decode cX12_front 24 = .ok (.iconst 0, 1) := by decide +kernel
theorem dX12_front_25 : decode cX12_front 25 = .ok (.iconst 2, 1) := by decide +kernel
theorem dX12_front_26 : decode cX12_front 26 = .ok (.invokevirtual 43, 3) := by decide +kernel
theorem dX12_front_29 : decode cX12_front 29 = .ok (.ifCond .eq 7, 3) := by decide +kernel
theorem dX12_front_32 : decode cX12_front 32 = .ok (.iconst 0, 1) := by decide +kernel
theorem dX12_front_33 : decode cX12_front 33 = .ok (.goto 26, 3) := by decide +kernel
theorem dX12_front_36 : decode cX12_front 36 = .ok (.iload_n 2, 1) := by decide +kernel
theorem dX12_front_37 : decode cX12_front 37 = .ok (.ifCond .eq 16, 3) := by decide +kernel
theorem dX12_front_40 : decode cX12_front 40 = .ok (.aload_n 0, 1) := by decide +kernel
theorem dX12_front_41 : decode cX12_front 41 = .ok (.getfield 9, 3) := by decide +kernel
theorem dX12_front_44 : decode cX12_front 44 = .ok (.sipush 370, 3) := by decide +kernel
theorem dX12_front_47 : decode cX12_front 47 = .ok (.iload_n 1, 1) := by decide +kernel
theorem dX12_front_48 : decode cX12_front 48 = .ok (.iadd, 1) := by decide +kernel
theorem dX12_front_49 : decode cX12_front 49 = .ok (.iaload, 1) := by decide +kernel
theorem dX12_front_50 : decode cX12_front 50 = .ok (.goto 9, 3) := by decide +kernel
theorem dX12_front_53 : decode cX12_front 53 = .ok (.aload_n 0, 1) := by decide +kernel
theorem dX12_front_54 : decode cX12_front 54 = .ok (.iload_n 1, 1) := by decide +kernel
theorem dX12_front_55 : decode cX12_front 55 = .ok (.iconst 0, 1) := by decide +kernel
theorem dX12_front_56 : decode cX12_front 56 = .ok (.invokevirtual 190, 3) := by decide +kernel
theorem dX12_front_59 : decode cX12_front 59 = .ok (.ireturn, 1) := by decide +kernel
set_option maxRecDepth 20000 in
theorem ggX12_waitOf_X12_isVisitor : GoodIn wsX12_waitOf wsX12_isVisitor := goodIn_r _ [4, 5, 6, 3, 7] (by decide +kernel) (by decide +kernel)
set_option maxRecDepth 20000 in
theorem gX12_waitOf_X12_isVisitor : GoodIn wsX12_waitOf (va_wsS RX12 114 yX12_isVisitor wsX12_isVisitor) := goodIn_app (goodIn_of _ (by decide +kernel)) ggX12_waitOf_X12_isVisitor
set_option maxRecDepth 20000 in
theorem ggX12_waitOf_X12_lacks : GoodIn wsX12_waitOf wsX12_lacks := goodIn_r _ [11, 12, 13, 14, 15, 3, 16, 38, 39, 40, 41, 42, 43, 44, 45, 46, 47, 48, 49, 50, 51, 52, 53] (by decide +kernel) (by decide +kernel)
set_option maxRecDepth 20000 in
theorem gX12_waitOf_X12_lacks : GoodIn wsX12_waitOf (wsV RX12 78 RX12 yX12_lacks wsX12_lacks) := goodIn_app (goodIn_of _ (by decide +kernel)) ggX12_waitOf_X12_lacks
set_option maxRecDepth 20000 in
theorem ggX12_waitOf_X12_waitNow : GoodIn wsX12_waitOf wsX12_waitNow := goodIn_r _ [20, 21, 22, 23, 3, 24, 25, 26, 27, 28, 29, 30, 31, 32, 33, 34, 35, 36, 37, 38, 39, 40, 41, 42, 43, 44, 45, 46, 47, 48, 49, 50, 51, 52, 53] (by decide +kernel) (by decide +kernel)
set_option maxRecDepth 20000 in
theorem gX12_waitOf_X12_waitNow : GoodIn wsX12_waitOf (wsV RX12 202 RX12 yX12_waitNow wsX12_waitNow) := goodIn_app (goodIn_of _ (by decide +kernel)) ggX12_waitOf_X12_waitNow
theorem dX12_waitOf_0 : decode cX12_waitOf 0 = .ok (.aload_n 0, 1) := by decide +kernel
theorem dX12_waitOf_1 : decode cX12_waitOf 1 = .ok (.iload_n 1, 1) := by decide +kernel
theorem dX12_waitOf_2 : decode cX12_waitOf 2 = .ok (.invokestatic 114, 3) := by decide +kernel
theorem dX12_waitOf_5 : decode cX12_waitOf 5 = .ok (.invokevirtual 78, 3) := by decide +kernel
theorem dX12_waitOf_8 : decode cX12_waitOf 8 = .ok (.ifCond .eq 7, 3) := by decide +kernel
theorem dX12_waitOf_11 : decode cX12_waitOf 11 = .ok (.iconst 0, 1) := by decide +kernel
theorem dX12_waitOf_12 : decode cX12_waitOf 12 = .ok (.goto 8, 3) := by decide +kernel
theorem dX12_waitOf_15 : decode cX12_waitOf 15 = .ok (.aload_n 0, 1) := by decide +kernel
theorem dX12_waitOf_16 : decode cX12_waitOf 16 = .ok (.iload_n 1, 1) := by decide +kernel
theorem dX12_waitOf_17 : decode cX12_waitOf 17 = .ok (.invokevirtual 202, 3) := by decide +kernel
theorem dX12_waitOf_20 : decode cX12_waitOf 20 = .ok (.ireturn, 1) := by decide +kernel
set_option maxRecDepth 20000 in
theorem ggX12_waitsInLines_X12_lineOf : GoodIn wsX12_waitsInLines wsX12_lineOf := goodIn_r _ [5, 6, 11, 12, 13, 14, 15, 16, 17, 18, 19, 20, 21, 22, 23, 24, 25, 26] (by decide +kernel) (by decide +kernel)
set_option maxRecDepth 20000 in
theorem gX12_waitsInLines_X12_lineOf : GoodIn wsX12_waitsInLines (wsV RX12 187 RX12 yX12_lineOf wsX12_lineOf) := goodIn_app (goodIn_of _ (by decide +kernel)) ggX12_waitsInLines_X12_lineOf
set_option maxRecDepth 20000 in
theorem ggX12_waitsInLines_X12_waitAt : GoodIn wsX12_waitsInLines wsX12_waitAt := goodIn_r _ [10, 6, 11, 12, 13, 14, 15, 16, 17, 18, 19, 20, 21, 22, 23, 24, 25, 26] (by decide +kernel) (by decide +kernel)
set_option maxRecDepth 20000 in
theorem gX12_waitsInLines_X12_waitAt : GoodIn wsX12_waitsInLines (wsV RX12 196 RX12 yX12_waitAt wsX12_waitAt) := goodIn_app (goodIn_of _ (by decide +kernel)) ggX12_waitsInLines_X12_waitAt
theorem dX12_waitsInLines_0 : decode cX12_waitsInLines 0 = .ok (.iconst 0, 1) := by decide +kernel
theorem dX12_waitsInLines_1 : decode cX12_waitsInLines 1 = .ok (.istore_n 1, 1) := by decide +kernel
theorem dX12_waitsInLines_2 : decode cX12_waitsInLines 2 = .ok (.iconst 0, 1) := by decide +kernel
theorem dX12_waitsInLines_3 : decode cX12_waitsInLines 3 = .ok (.istore_n 2, 1) := by decide +kernel
theorem dX12_waitsInLines_4 : decode cX12_waitsInLines 4 = .ok (.iload_n 2, 1) := by decide +kernel
theorem dX12_waitsInLines_5 : decode cX12_waitsInLines 5 = .ok (.iconst 3, 1) := by decide +kernel
theorem dX12_waitsInLines_6 : decode cX12_waitsInLines 6 = .ok (.if_icmp .ge 35, 3) := by decide +kernel
theorem dX12_waitsInLines_9 : decode cX12_waitsInLines 9 = .ok (.iconst 0, 1) := by decide +kernel
theorem dX12_waitsInLines_10 : decode cX12_waitsInLines 10 = .ok (.istore_n 3, 1) := by decide +kernel
theorem dX12_waitsInLines_11 : decode cX12_waitsInLines 11 = .ok (.iload_n 3, 1) := by decide +kernel
theorem dX12_waitsInLines_12 : decode cX12_waitsInLines 12 = .ok (.aload_n 0, 1) := by decide +kernel
theorem dX12_waitsInLines_13 : decode cX12_waitsInLines 13 = .ok (.iload_n 2, 1) := by decide +kernel
theorem dX12_waitsInLines_14 : decode cX12_waitsInLines 14 = .ok (.invokevirtual 187, 3) := by decide +kernel
theorem dX12_waitsInLines_17 : decode cX12_waitsInLines 17 = .ok (.if_icmp .ge 18, 3) := by decide +kernel
theorem dX12_waitsInLines_20 : decode cX12_waitsInLines 20 = .ok (.iload_n 1, 1) := by decide +kernel
theorem dX12_waitsInLines_21 : decode cX12_waitsInLines 21 = .ok (.aload_n 0, 1) := by decide +kernel
theorem dX12_waitsInLines_22 : decode cX12_waitsInLines 22 = .ok (.iload_n 2, 1) := by decide +kernel
theorem dX12_waitsInLines_23 : decode cX12_waitsInLines 23 = .ok (.iload_n 3, 1) := by decide +kernel
theorem dX12_waitsInLines_24 : decode cX12_waitsInLines 24 = .ok (.invokevirtual 196, 3) := by decide +kernel
theorem dX12_waitsInLines_27 : decode cX12_waitsInLines 27 = .ok (.iadd, 1) := by decide +kernel
theorem dX12_waitsInLines_28 : decode cX12_waitsInLines 28 = .ok (.istore_n 1, 1) := by decide +kernel
theorem dX12_waitsInLines_29 : decode cX12_waitsInLines 29 = .ok (.iinc 3 1, 3) := by decide +kernel
theorem dX12_waitsInLines_32 : decode cX12_waitsInLines 32 = .ok (.goto (-21), 3) := by decide +kernel
theorem dX12_waitsInLines_35 : decode cX12_waitsInLines 35 = .ok (.iinc 2 1, 3) := by decide +kernel
theorem dX12_waitsInLines_38 : decode cX12_waitsInLines 38 = .ok (.goto (-34), 3) := by decide +kernel
theorem dX12_waitsInLines_41 : decode cX12_waitsInLines 41 = .ok (.iload_n 1, 1) := by decide +kernel
theorem dX12_waitsInLines_42 : decode cX12_waitsInLines 42 = .ok (.ireturn, 1) := by decide +kernel
set_option maxRecDepth 20000 in
theorem ggX12_nextBehind_X12_lineOf : GoodIn wsX12_nextBehind wsX12_lineOf := goodIn_r _ [6, 1, 11, 12, 13, 14, 15, 16, 17, 18, 19, 20, 21, 22, 23, 24, 25, 26] (by decide +kernel) (by decide +kernel)
set_option maxRecDepth 20000 in
theorem gX12_nextBehind_X12_lineOf : GoodIn wsX12_nextBehind (wsV RX12 187 RX12 yX12_lineOf wsX12_lineOf) := goodIn_app (goodIn_of _ (by decide +kernel)) ggX12_nextBehind_X12_lineOf
set_option maxRecDepth 20000 in
theorem ggX12_nextBehind_X12_inLine : GoodIn wsX12_nextBehind wsX12_inLine := goodIn_r _ [10, 1, 11, 12, 13, 14, 15, 16, 17, 18, 19, 20, 21, 22, 23, 24, 25, 26] (by decide +kernel) (by decide +kernel)
set_option maxRecDepth 20000 in
theorem gX12_nextBehind_X12_inLine : GoodIn wsX12_nextBehind (wsV RX12 190 RX12 yX12_inLine wsX12_inLine) := goodIn_app (goodIn_of _ (by decide +kernel)) ggX12_nextBehind_X12_inLine
theorem dX12_nextBehind_0 : decode cX12_nextBehind 0 = .ok (.iconst (-1), 1) := by decide +kernel
theorem dX12_nextBehind_1 : decode cX12_nextBehind 1 = .ok (.istore_n 2, 1) := by decide +kernel
theorem dX12_nextBehind_2 : decode cX12_nextBehind 2 = .ok (.iconst 0, 1) := by decide +kernel
theorem dX12_nextBehind_3 : decode cX12_nextBehind 3 = .ok (.istore_n 3, 1) := by decide +kernel
theorem dX12_nextBehind_4 : decode cX12_nextBehind 4 = .ok (.iload_n 3, 1) := by decide +kernel
theorem dX12_nextBehind_5 : decode cX12_nextBehind 5 = .ok (.iconst 3, 1) := by decide +kernel
theorem dX12_nextBehind_6 : decode cX12_nextBehind 6 = .ok (.if_icmp .ge 84, 3) := by decide +kernel
theorem dX12_nextBehind_9 : decode cX12_nextBehind 9 = .ok (.iconst 1, 1) := by decide +kernel
theorem dX12_nextBehind_10 : decode cX12_nextBehind 10 = .ok (.istore 4, 2) := by decide +kernel
theorem dX12_nextBehind_12 : decode cX12_nextBehind 12 = .ok (.iload 4, 2) := by decide +kernel
theorem dX12_nextBehind_14 : decode cX12_nextBehind 14 = .ok (.aload_n 0, 1) := by decide +kernel
theorem dX12_nextBehind_15 : decode cX12_nextBehind 15 = .ok (.iload_n 3, 1) := by decide +kernel
theorem dX12_nextBehind_16 : decode cX12_nextBehind 16 = .ok (.invokevirtual 187, 3) := by decide +kernel
theorem dX12_nextBehind_19 : decode cX12_nextBehind 19 = .ok (.if_icmp .ge 65, 3) := by decide +kernel
theorem dX12_nextBehind_22 : decode cX12_nextBehind 22 = .ok (.aload_n 0, 1) := by decide +kernel
theorem dX12_nextBehind_23 : decode cX12_nextBehind 23 = .ok (.iload_n 3, 1) := by decide +kernel
theorem dX12_nextBehind_24 : decode cX12_nextBehind 24 = .ok (.iload 4, 2) := by decide +kernel
theorem dX12_nextBehind_26 : decode cX12_nextBehind 26 = .ok (.invokevirtual 190, 3) := by decide +kernel
theorem dX12_nextBehind_29 : decode cX12_nextBehind 29 = .ok (.istore 5, 2) := by decide +kernel
theorem dX12_nextBehind_31 : decode cX12_nextBehind 31 = .ok (.aload_n 0, 1) := by decide +kernel
theorem dX12_nextBehind_32 : decode cX12_nextBehind 32 = .ok (.getfield 9, 3) := by decide +kernel
theorem dX12_nextBehind_35 : decode cX12_nextBehind 35 = .ok (.sipush 373, 3) := by decide +kernel
theorem dX12_nextBehind_38 : decode cX12_nextBehind 38 = .ok (.iload 5, 2) := by decide +kernel
theorem dX12_nextBehind_40 : decode cX12_nextBehind 40 = .ok (.iadd, 1) := by decide +kernel
theorem dX12_nextBehind_41 : decode cX12_nextBehind 41 = .ok (.iaload, 1) := by decide +kernel
theorem dX12_nextBehind_42 : decode cX12_nextBehind 42 = .ok (.iload_n 1, 1) := by decide +kernel
theorem dX12_nextBehind_43 : decode cX12_nextBehind 43 = .ok (.if_icmp .le 35, 3) := by decide +kernel
theorem dX12_nextBehind_46 : decode cX12_nextBehind 46 = .ok (.iload_n 2, 1) := by decide +kernel
theorem dX12_nextBehind_47 : decode cX12_nextBehind 47 = .ok (.iconst (-1), 1) := by decide +kernel
theorem dX12_nextBehind_48 : decode cX12_nextBehind 48 = .ok (.if_icmp .eq 27, 3) := by decide +kernel
theorem dX12_nextBehind_51 : decode cX12_nextBehind 51 = .ok (.aload_n 0, 1) := by decide +kernel
theorem dX12_nextBehind_52 : decode cX12_nextBehind 52 = .ok (.getfield 9, 3) := by decide +kernel
theorem dX12_nextBehind_55 : decode cX12_nextBehind 55 = .ok (.sipush 373, 3) := by decide +kernel
theorem dX12_nextBehind_58 : decode cX12_nextBehind 58 = .ok (.iload 5, 2) := by decide +kernel
theorem dX12_nextBehind_60 : decode cX12_nextBehind 60 = .ok (.iadd, 1) := by decide +kernel
theorem dX12_nextBehind_61 : decode cX12_nextBehind 61 = .ok (.iaload, 1) := by decide +kernel
theorem dX12_nextBehind_62 : decode cX12_nextBehind 62 = .ok (.aload_n 0, 1) := by decide +kernel
theorem dX12_nextBehind_63 : decode cX12_nextBehind 63 = .ok (.getfield 9, 3) := by decide +kernel
theorem dX12_nextBehind_66 : decode cX12_nextBehind 66 = .ok (.sipush 373, 3) := by decide +kernel
theorem dX12_nextBehind_69 : decode cX12_nextBehind 69 = .ok (.iload_n 2, 1) := by decide +kernel
theorem dX12_nextBehind_70 : decode cX12_nextBehind 70 = .ok (.iadd, 1) := by decide +kernel
theorem dX12_nextBehind_71 : decode cX12_nextBehind 71 = .ok (.iaload, 1) := by decide +kernel
theorem dX12_nextBehind_72 : decode cX12_nextBehind 72 = .ok (.if_icmp .ge 6, 3) := by decide +kernel
theorem dX12_nextBehind_75 : decode cX12_nextBehind 75 = .ok (.iload 5, 2) := by decide +kernel
theorem dX12_nextBehind_77 : decode cX12_nextBehind 77 = .ok (.istore_n 2, 1) := by decide +kernel
theorem dX12_nextBehind_78 : decode cX12_nextBehind 78 = .ok (.iinc 4 1, 3) := by decide +kernel
theorem dX12_nextBehind_81 : decode cX12_nextBehind 81 = .ok (.goto (-69), 3) := by decide +kernel
theorem dX12_nextBehind_84 : decode cX12_nextBehind 84 = .ok (.iinc 3 1, 3) := by decide +kernel
theorem dX12_nextBehind_87 : decode cX12_nextBehind 87 = .ok (.goto (-83), 3) := by decide +kernel
theorem dX12_nextBehind_90 : decode cX12_nextBehind 90 = .ok (.iload_n 2, 1) := by decide +kernel
theorem dX12_nextBehind_91 : decode cX12_nextBehind 91 = .ok (.ireturn, 1) := by decide +kernel
set_option maxRecDepth 20000 in
theorem ggX12_waitsInOne_X12_lineOf : GoodIn wsX12_waitsInOne wsX12_lineOf := goodIn_r _ [7, 2, 16, 17, 18, 19, 20, 21, 22, 23, 24, 25, 26, 27, 28, 29, 30, 31] (by decide +kernel) (by decide +kernel)
set_option maxRecDepth 20000 in
theorem gX12_waitsInOne_X12_lineOf : GoodIn wsX12_waitsInOne (wsV RX12 187 RX12 yX12_lineOf wsX12_lineOf) := goodIn_app (goodIn_of _ (by decide +kernel)) ggX12_waitsInOne_X12_lineOf
set_option maxRecDepth 20000 in
theorem ggX12_waitsInOne_X12_nextBehind : GoodIn wsX12_waitsInOne wsX12_nextBehind := goodIn_r _ [11, 2, 3, 4, 5, 6, 7, 12, 13, 14, 15, 16, 17, 18, 19, 20, 21, 22, 23, 24, 25, 26, 27, 28, 29, 30, 31] (by decide +kernel) (by decide +kernel)
set_option maxRecDepth 20000 in
theorem gX12_waitsInOne_X12_nextBehind : GoodIn wsX12_waitsInOne (wsV RX12 208 RX12 yX12_nextBehind wsX12_nextBehind) := goodIn_app (goodIn_of _ (by decide +kernel)) ggX12_waitsInOne_X12_nextBehind
theorem dX12_waitsInOne_0 : decode cX12_waitsInOne 0 = .ok (.iconst 3, 1) := by decide +kernel
theorem dX12_waitsInOne_1 : decode cX12_waitsInOne 1 = .ok (.newarray .int, 2) := by decide +kernel
theorem dX12_waitsInOne_3 : decode cX12_waitsInOne 3 = .ok (.astore_n 1, 1) := by decide +kernel
theorem dX12_waitsInOne_4 : decode cX12_waitsInOne 4 = .ok (.iconst 0, 1) := by decide +kernel
theorem dX12_waitsInOne_5 : decode cX12_waitsInOne 5 = .ok (.istore_n 2, 1) := by decide +kernel
theorem dX12_waitsInOne_6 : decode cX12_waitsInOne 6 = .ok (.iload_n 2, 1) := by decide +kernel
theorem dX12_waitsInOne_7 : decode cX12_waitsInOne 7 = .ok (.iconst 3, 1) := by decide +kernel
theorem dX12_waitsInOne_8 : decode cX12_waitsInOne 8 = .ok (.if_icmp .ge 34, 3) := by decide +kernel
theorem dX12_waitsInOne_11 : decode cX12_waitsInOne 11 = .ok (.aload_n 1, 1) := by decide +kernel
theorem dX12_waitsInOne_12 : decode cX12_waitsInOne 12 = .ok (.iload_n 2, 1) := by decide +kernel
theorem dX12_waitsInOne_13 : decode cX12_waitsInOne 13 = .ok (.aload_n 0, 1) := by decide +kernel
theorem dX12_waitsInOne_14 : decode cX12_waitsInOne 14 = .ok (.iload_n 2, 1) := by decide +kernel
theorem dX12_waitsInOne_15 : decode cX12_waitsInOne 15 = .ok (.invokevirtual 187, 3) := by decide +kernel
theorem dX12_waitsInOne_18 : decode cX12_waitsInOne 18 = .ok (.ifCond .ne 7, 3) := by decide +kernel
theorem dX12_waitsInOne_21 : decode cX12_waitsInOne 21 = .ok (.iconst 0, 1) := by decide +kernel
theorem dX12_waitsInOne_22 : decode cX12_waitsInOne 22 = .ok (.goto 13, 3) := by decide +kernel
theorem dX12_waitsInOne_25 : decode cX12_waitsInOne 25 = .ok (.aload_n 0, 1) := by decide +kernel
theorem dX12_waitsInOne_26 : decode cX12_waitsInOne 26 = .ok (.getfield 9, 3) := by decide +kernel
theorem dX12_waitsInOne_29 : decode cX12_waitsInOne 29 = .ok (.sipush 370, 3) := by decide +kernel
theorem dX12_waitsInOne_32 : decode cX12_waitsInOne 32 = .ok (.iload_n 2, 1) := by decide +kernel
theorem dX12_waitsInOne_33 : decode cX12_waitsInOne 33 = .ok (.iadd, 1) := by decide +kernel
theorem dX12_waitsInOne_34 : decode cX12_waitsInOne 34 = .ok (.iaload, 1) := by decide +kernel
theorem dX12_waitsInOne_35 : decode cX12_waitsInOne 35 = .ok (.iastore, 1) := by decide +kernel
theorem dX12_waitsInOne_36 : decode cX12_waitsInOne 36 = .ok (.iinc 2 1, 3) := by decide +kernel
theorem dX12_waitsInOne_39 : decode cX12_waitsInOne 39 = .ok (.goto (-33), 3) := by decide +kernel
theorem dX12_waitsInOne_42 : decode cX12_waitsInOne 42 = .ok (.iconst 0, 1) := by decide +kernel
theorem dX12_waitsInOne_43 : decode cX12_waitsInOne 43 = .ok (.istore_n 2, 1) := by decide +kernel
theorem dX12_waitsInOne_44 : decode cX12_waitsInOne 44 = .ok (.iconst 0, 1) := by decide +kernel
theorem dX12_waitsInOne_45 : decode cX12_waitsInOne 45 = .ok (.istore_n 3, 1) := by decide +kernel
theorem dX12_waitsInOne_46 : decode cX12_waitsInOne 46 = .ok (.aload_n 0, 1) := by decide +kernel
theorem dX12_waitsInOne_47 : decode cX12_waitsInOne 47 = .ok (.iconst 0, 1) := by decide +kernel
theorem dX12_waitsInOne_48 : decode cX12_waitsInOne 48 = .ok (.invokevirtual 208, 3) := by decide +kernel
theorem dX12_waitsInOne_51 : decode cX12_waitsInOne 51 = .ok (.istore 4, 2) := by decide +kernel
theorem dX12_waitsInOne_53 : decode cX12_waitsInOne 53 = .ok (.iload 4, 2) := by decide +kernel
theorem dX12_waitsInOne_55 : decode cX12_waitsInOne 55 = .ok (.iconst (-1), 1) := by decide +kernel
theorem dX12_waitsInOne_56 : decode cX12_waitsInOne 56 = .ok (.if_icmp .eq 80, 3) := by decide +kernel
theorem dX12_waitsInOne_59 : decode cX12_waitsInOne 59 = .ok (.iconst 0, 1) := by decide +kernel
theorem dX12_waitsInOne_60 : decode cX12_waitsInOne 60 = .ok (.istore 5, 2) := by decide +kernel
theorem dX12_waitsInOne_62 : decode cX12_waitsInOne 62 = .ok (.iconst 1, 1) := by decide +kernel
theorem dX12_waitsInOne_63 : decode cX12_waitsInOne 63 = .ok (.istore 6, 2) := by decide +kernel
theorem dX12_waitsInOne_65 : decode cX12_waitsInOne 65 = .ok (.iload 6, 2) := by decide +kernel
theorem dX12_waitsInOne_67 : decode cX12_waitsInOne 67 = .ok (.iconst 3, 1) := by decide +kernel
theorem dX12_waitsInOne_68 : decode cX12_waitsInOne 68 = .ok (.if_icmp .ge 24, 3) := by decide +kernel
theorem dX12_waitsInOne_71 : decode cX12_waitsInOne 71 = .ok (.aload_n 1, 1) := by decide +kernel
theorem dX12_waitsInOne_72 : decode cX12_waitsInOne 72 = .ok (.iload 6, 2) := by decide +kernel
theorem dX12_waitsInOne_74 : decode cX12_waitsInOne 74 = .ok (.iaload, 1) := by decide +kernel
theorem dX12_waitsInOne_75 : decode cX12_waitsInOne 75 = .ok (.aload_n 1, 1) := by decide +kernel
theorem dX12_waitsInOne_76 : decode cX12_waitsInOne 76 = .ok (.iload 5, 2) := by decide +kernel
theorem dX12_waitsInOne_78 : decode cX12_waitsInOne 78 = .ok (.iaload, 1) := by decide +kernel
theorem dX12_waitsInOne_79 : decode cX12_waitsInOne 79 = .ok (.if_icmp .ge 7, 3) := by decide +kernel
theorem dX12_waitsInOne_82 : decode cX12_waitsInOne 82 = .ok (.iload 6, 2) := by decide +kernel
theorem dX12_waitsInOne_84 : decode cX12_waitsInOne 84 = .ok (.istore 5, 2) := by decide +kernel
theorem dX12_waitsInOne_86 : decode cX12_waitsInOne 86 = .ok (.iinc 6 1, 3) := by decide +kernel
theorem dX12_waitsInOne_89 : decode cX12_waitsInOne 89 = .ok (.goto (-24), 3) := by decide +kernel
theorem dX12_waitsInOne_92 : decode cX12_waitsInOne 92 = .ok (.iload_n 2, 1) := by decide +kernel
theorem dX12_waitsInOne_93 : decode cX12_waitsInOne 93 = .ok (.aload_n 1, 1) := by decide +kernel
theorem dX12_waitsInOne_94 : decode cX12_waitsInOne 94 = .ok (.iload 5, 2) := by decide +kernel
theorem dX12_waitsInOne_96 : decode cX12_waitsInOne 96 = .ok (.iaload, 1) := by decide +kernel
theorem dX12_waitsInOne_97 : decode cX12_waitsInOne 97 = .ok (.iadd, 1) := by decide +kernel
theorem dX12_waitsInOne_98 : decode cX12_waitsInOne 98 = .ok (.istore_n 2, 1) := by decide +kernel
theorem dX12_waitsInOne_99 : decode cX12_waitsInOne 99 = .ok (.aload_n 1, 1) := by decide +kernel
theorem dX12_waitsInOne_100 : decode cX12_waitsInOne 100 = .ok (.iload 5, 2) := by decide +kernel
theorem dX12_waitsInOne_102 : decode cX12_waitsInOne 102 = .ok (.dup2, 1) := by decide +kernel
theorem dX12_waitsInOne_103 : decode cX12_waitsInOne 103 = .ok (.iaload, 1) := by decide +kernel
theorem dX12_waitsInOne_104 : decode cX12_waitsInOne 104 = .ok (.aload_n 0, 1) := by decide +kernel
theorem dX12_waitsInOne_105 : decode cX12_waitsInOne 105 = .ok (.getfield 9, 3) := by decide +kernel
theorem dX12_waitsInOne_108 : decode cX12_waitsInOne 108 = .ok (.sipush 330, 3) := by decide +kernel
theorem dX12_waitsInOne_111 : decode cX12_waitsInOne 111 = .ok (.iaload, 1) := by decide +kernel
theorem dX12_waitsInOne_112 : decode cX12_waitsInOne 112 = .ok (.iadd, 1) := by decide +kernel
theorem dX12_waitsInOne_113 : decode cX12_waitsInOne 113 = .ok (.iastore, 1) := by decide +kernel
theorem dX12_waitsInOne_114 : decode cX12_waitsInOne 114 = .ok (.aload_n 0, 1) := by decide +kernel
theorem dX12_waitsInOne_115 : decode cX12_waitsInOne 115 = .ok (.getfield 9, 3) := by decide +kernel
theorem dX12_waitsInOne_118 : decode cX12_waitsInOne 118 = .ok (.sipush 373, 3) := by decide +kernel
theorem dX12_waitsInOne_121 : decode cX12_waitsInOne 121 = .ok (.iload 4, 2) := by decide +kernel
theorem dX12_waitsInOne_123 : decode cX12_waitsInOne 123 = .ok (.iadd, 1) := by decide +kernel
theorem dX12_waitsInOne_124 : decode cX12_waitsInOne 124 = .ok (.iaload, 1) := by decide +kernel
theorem dX12_waitsInOne_125 : decode cX12_waitsInOne 125 = .ok (.istore_n 3, 1) := by decide +kernel
theorem dX12_waitsInOne_126 : decode cX12_waitsInOne 126 = .ok (.aload_n 0, 1) := by decide +kernel
theorem dX12_waitsInOne_127 : decode cX12_waitsInOne 127 = .ok (.iload_n 3, 1) := by decide +kernel
theorem dX12_waitsInOne_128 : decode cX12_waitsInOne 128 = .ok (.invokevirtual 208, 3) := by decide +kernel
theorem dX12_waitsInOne_131 : decode cX12_waitsInOne 131 = .ok (.istore 4, 2) := by decide +kernel
theorem dX12_waitsInOne_133 : decode cX12_waitsInOne 133 = .ok (.goto (-80), 3) := by decide +kernel
theorem dX12_waitsInOne_136 : decode cX12_waitsInOne 136 = .ok (.iload_n 2, 1) := by decide +kernel
theorem dX12_waitsInOne_137 : decode cX12_waitsInOne 137 = .ok (.ireturn, 1) := by decide +kernel
set_option maxRecDepth 20000 in
theorem ggX12_waits_X12_waitsInOne : GoodIn wsX12_waits wsX12_waitsInOne := goodIn_r _ [6, 7, 8, 9, 10, 11, 5, 12, 13, 14, 15, 16, 17, 18, 19, 20, 29, 30, 31, 32, 33, 34, 35, 36, 37, 38, 39, 40, 41, 42, 43, 44] (by decide +kernel) (by decide +kernel)
set_option maxRecDepth 20000 in
theorem gX12_waits_X12_waitsInOne : GoodIn wsX12_waits (wsV RX12 211 RX12 yX12_waitsInOne wsX12_waitsInOne) := goodIn_app (goodIn_of _ (by decide +kernel)) ggX12_waits_X12_waitsInOne
set_option maxRecDepth 20000 in
theorem ggX12_waits_X12_waitsInLines : GoodIn wsX12_waits wsX12_waitsInLines := goodIn_r _ [24, 9, 10, 11, 5, 12, 8, 25, 26, 27, 28, 29, 30, 31, 32, 33, 34, 35, 36, 37, 38, 39, 40, 41, 42, 43, 44] (by decide +kernel) (by decide +kernel)
set_option maxRecDepth 20000 in
theorem gX12_waits_X12_waitsInLines : GoodIn wsX12_waits (wsV RX12 214 RX12 yX12_waitsInLines wsX12_waitsInLines) := goodIn_app (goodIn_of _ (by decide +kernel)) ggX12_waits_X12_waitsInLines
theorem dX12_waits_0 : decode cX12_waits 0 = .ok (.aload_n 0, 1) := by decide +kernel
theorem dX12_waits_1 : decode cX12_waits 1 = .ok (.iconst 0, 1) := by decide +kernel
theorem dX12_waits_2 : decode cX12_waits 2 = .ok (.putfield 39, 3) := by decide +kernel
theorem dX12_waits_5 : decode cX12_waits 5 = .ok (.iload_n 1, 1) := by decide +kernel
theorem dX12_waits_6 : decode cX12_waits 6 = .ok (.ifCond .eq 10, 3) := by decide +kernel
theorem dX12_waits_9 : decode cX12_waits 9 = .ok (.aload_n 0, 1) := by decide +kernel
theorem dX12_waits_10 : decode cX12_waits 10 = .ok (.invokevirtual 211, 3) := by decide +kernel
theorem dX12_waits_13 : decode cX12_waits 13 = .ok (.goto 7, 3) := by decide +kernel
theorem dX12_waits_16 : decode cX12_waits 16 = .ok (.aload_n 0, 1) := by decide +kernel
theorem dX12_waits_17 : decode cX12_waits 17 = .ok (.invokevirtual 214, 3) := by decide +kernel
theorem dX12_waits_20 : decode cX12_waits 20 = .ok (.ireturn, 1) := by decide +kernel
theorem dX12_served_0 : decode cX12_served 0 = .ok (.aload_n 0, 1) := by decide +kernel
theorem dX12_served_1 : decode cX12_served 1 = .ok (.iconst 0, 1) := by decide +kernel
theorem dX12_served_2 : decode cX12_served 2 = .ok (.putfield 39, 3) := by decide +kernel
theorem dX12_served_5 : decode cX12_served 5 = .ok (.aload_n 0, 1) := by decide +kernel
theorem dX12_served_6 : decode cX12_served 6 = .ok (.getfield 9, 3) := by decide +kernel
theorem dX12_served_9 : decode cX12_served 9 = .ok (.sipush 386, 3) := by decide +kernel
theorem dX12_served_12 : decode cX12_served 12 = .ok (.iaload, 1) := by decide +kernel
theorem dX12_served_13 : decode cX12_served 13 = .ok (.ireturn, 1) := by decide +kernel
set_option maxRecDepth 20000 in
theorem ggX12_setNeed_X12_isHour : GoodIn wsX12_setNeed wsX12_isHour := goodIn_r _ [4, 5, 6, 3, 7] (by decide +kernel) (by decide +kernel)
set_option maxRecDepth 20000 in
theorem gX12_setNeed_X12_isHour : GoodIn wsX12_setNeed (va_wsS RX12 217 yX12_isHour wsX12_isHour) := goodIn_app (goodIn_of _ (by decide +kernel)) ggX12_setNeed_X12_isHour
set_option maxRecDepth 20000 in
theorem ggX12_setNeed_X12_lacks : GoodIn wsX12_setNeed wsX12_lacks := goodIn_r _ [11, 12, 13, 14, 15, 3, 16, 33, 34, 35, 36, 37, 38, 39, 40, 41, 42, 43, 44, 45, 46, 47, 48] (by decide +kernel) (by decide +kernel)
set_option maxRecDepth 20000 in
theorem gX12_setNeed_X12_lacks : GoodIn wsX12_setNeed (wsV RX12 78 RX12 yX12_lacks wsX12_lacks) := goodIn_app (goodIn_of _ (by decide +kernel)) ggX12_setNeed_X12_lacks
set_option maxRecDepth 20000 in
theorem ggX12_setNeed_X12_in : GoodIn wsX12_setNeed wsX12_in := goodIn_r _ [7] (by decide +kernel) (by decide +kernel)
set_option maxRecDepth 20000 in
theorem gX12_setNeed_X12_in : GoodIn wsX12_setNeed (va_wsS RX12 47 yX12_in wsX12_in) := goodIn_app (goodIn_of _ (by decide +kernel)) ggX12_setNeed_X12_in
set_option maxRecDepth 20000 in
theorem ggX12_setNeed_X12_no : GoodIn wsX12_setNeed wsX12_no := goodIn_r _ [16, 12, 33, 34, 35, 36, 37, 38, 39, 40, 41, 42, 43, 44, 45, 46, 47, 48] (by decide +kernel) (by decide +kernel)
set_option maxRecDepth 20000 in
theorem gX12_setNeed_X12_no : GoodIn wsX12_setNeed (wsV RX12 43 RX12 yX12_no wsX12_no) := goodIn_app (goodIn_of _ (by decide +kernel)) ggX12_setNeed_X12_no
set_option maxRecDepth 20000 in
theorem ggX12_setNeed_X12_sets : GoodIn wsX12_setNeed wsX12_sets := goodIn_r _ [20, 21, 22, 23, 24, 3, 25, 26, 27, 28, 29, 30, 31, 32, 33, 34, 35, 36, 37, 38, 39, 40, 41, 42, 43, 44, 45, 46, 47, 48] (by decide +kernel) (by decide +kernel)
set_option maxRecDepth 20000 in
theorem gX12_setNeed_X12_sets : GoodIn wsX12_setNeed (wsV RX12 89 RX12 yX12_sets wsX12_sets) := goodIn_app (goodIn_of _ (by decide +kernel)) ggX12_setNeed_X12_sets
theorem dX12_setNeed_0 : decode cX12_setNeed 0 = .ok (.aload_n 0, 1) := by decide +kernel
theorem dX12_setNeed_1 : decode cX12_setNeed 1 = .ok (.iload_n 1, 1) := by decide +kernel
theorem dX12_setNeed_2 : decode cX12_setNeed 2 = .ok (.invokestatic 217, 3) := by decide +kernel
theorem dX12_setNeed_5 : decode cX12_setNeed 5 = .ok (.invokevirtual 78, 3) := by decide +kernel
theorem dX12_setNeed_8 : decode cX12_setNeed 8 = .ok (.ifCond .ne 18, 3) := by decide +kernel
theorem dX12_setNeed_11 : decode cX12_setNeed 11 = .ok (.aload_n 0, 1) := by decide +kernel
theorem dX12_setNeed_12 : decode cX12_setNeed 12 = .ok (.iload_n 2, 1) := by decide +kernel
theorem dX12_setNeed_13 : decode cX12_setNeed 13 = .ok (.iconst 0, 1) := by decide +kernel
theorem dX12_setNeed_14 : decode cX12_setNeed 14 = .ok (.bipush 9, 2) := by decide +kernel
theorem dX12_setNeed_16 : decode cX12_setNeed 16 = .ok (.invokestatic 47, 3) := by decide +kernel
theorem dX12_setNeed_19 : decode cX12_setNeed 19 = .ok (.iconst 2, 1) := by decide +kernel
theorem dX12_setNeed_20 : decode cX12_setNeed 20 = .ok (.invokevirtual 43, 3) := by decide +kernel
theorem dX12_setNeed_23 : decode cX12_setNeed 23 = .ok (.ifCond .eq 7, 3) := by decide +kernel
theorem dX12_setNeed_26 : decode cX12_setNeed 26 = .ok (.iconst 0, 1) := by decide +kernel
theorem dX12_setNeed_27 : decode cX12_setNeed 27 = .ok (.goto 13, 3) := by decide +kernel
theorem dX12_setNeed_30 : decode cX12_setNeed 30 = .ok (.aload_n 0, 1) := by decide +kernel
theorem dX12_setNeed_31 : decode cX12_setNeed 31 = .ok (.sipush 387, 3) := by decide +kernel
theorem dX12_setNeed_34 : decode cX12_setNeed 34 = .ok (.iload_n 1, 1) := by decide +kernel
theorem dX12_setNeed_35 : decode cX12_setNeed 35 = .ok (.iadd, 1) := by decide +kernel
theorem dX12_setNeed_36 : decode cX12_setNeed 36 = .ok (.iload_n 2, 1) := by decide +kernel
theorem dX12_setNeed_37 : decode cX12_setNeed 37 = .ok (.invokevirtual 89, 3) := by decide +kernel
theorem dX12_setNeed_40 : decode cX12_setNeed 40 = .ok (.ireturn, 1) := by decide +kernel
set_option maxRecDepth 20000 in
theorem ggX12_setShift_X12_in : GoodIn wsX12_setShift wsX12_in := goodIn_r _ [4] (by decide +kernel) (by decide +kernel)
set_option maxRecDepth 20000 in
theorem gX12_setShift_X12_in : GoodIn wsX12_setShift (va_wsS RX12 47 yX12_in wsX12_in) := goodIn_app (goodIn_of _ (by decide +kernel)) ggX12_setShift_X12_in
set_option maxRecDepth 20000 in
theorem ggX12_setShift_X12_lacks : GoodIn wsX12_setShift wsX12_lacks := goodIn_r _ [8, 9, 10, 11, 12, 3, 13, 30, 31, 32, 33, 34, 35, 36, 37, 38, 39, 40, 41, 42, 43, 44, 45] (by decide +kernel) (by decide +kernel)
set_option maxRecDepth 20000 in
theorem gX12_setShift_X12_lacks : GoodIn wsX12_setShift (wsV RX12 78 RX12 yX12_lacks wsX12_lacks) := goodIn_app (goodIn_of _ (by decide +kernel)) ggX12_setShift_X12_lacks
set_option maxRecDepth 20000 in
theorem ggX12_setShift_X12_sets : GoodIn wsX12_setShift wsX12_sets := goodIn_r _ [17, 18, 19, 20, 21, 3, 22, 23, 24, 25, 26, 27, 28, 29, 30, 31, 32, 33, 34, 35, 36, 37, 38, 39, 40, 41, 42, 43, 44, 45] (by decide +kernel) (by decide +kernel)
set_option maxRecDepth 20000 in
theorem gX12_setShift_X12_sets : GoodIn wsX12_setShift (wsV RX12 89 RX12 yX12_sets wsX12_sets) := goodIn_app (goodIn_of _ (by decide +kernel)) ggX12_setShift_X12_sets
theorem dX12_setShift_0 : decode cX12_setShift 0 = .ok (.aload_n 0, 1) := by decide +kernel
theorem dX12_setShift_1 : decode cX12_setShift 1 = .ok (.iload_n 1, 1) := by decide +kernel
theorem dX12_setShift_2 : decode cX12_setShift 2 = .ok (.iconst 2, 1) := by decide +kernel
theorem dX12_setShift_3 : decode cX12_setShift 3 = .ok (.bipush 10, 2) := by decide +kernel
theorem dX12_setShift_5 : decode cX12_setShift 5 = .ok (.invokestatic 47, 3) := by decide +kernel
theorem dX12_setShift_8 : decode cX12_setShift 8 = .ok (.invokevirtual 78, 3) := by decide +kernel
theorem dX12_setShift_11 : decode cX12_setShift 11 = .ok (.ifCond .eq 7, 3) := by decide +kernel
theorem dX12_setShift_14 : decode cX12_setShift 14 = .ok (.iconst 0, 1) := by decide +kernel
theorem dX12_setShift_15 : decode cX12_setShift 15 = .ok (.goto 11, 3) := by decide +kernel
theorem dX12_setShift_18 : decode cX12_setShift 18 = .ok (.aload_n 0, 1) := by decide +kernel
theorem dX12_setShift_19 : decode cX12_setShift 19 = .ok (.sipush 411, 3) := by decide +kernel
theorem dX12_setShift_22 : decode cX12_setShift 22 = .ok (.iload_n 1, 1) := by decide +kernel
theorem dX12_setShift_23 : decode cX12_setShift 23 = .ok (.invokevirtual 89, 3) := by decide +kernel
theorem dX12_setShift_26 : decode cX12_setShift 26 = .ok (.ireturn, 1) := by decide +kernel
theorem dX12_findsShifts_0 : decode cX12_findsShifts 0 = .ok (.iconst 0, 1) := by decide +kernel
theorem dX12_findsShifts_1 : decode cX12_findsShifts 1 = .ok (.istore_n 1, 1) := by decide +kernel
theorem dX12_findsShifts_2 : decode cX12_findsShifts 2 = .ok (.iload_n 1, 1) := by decide +kernel
theorem dX12_findsShifts_3 : decode cX12_findsShifts 3 = .ok (.bipush 24, 2) := by decide +kernel
theorem dX12_findsShifts_5 : decode cX12_findsShifts 5 = .ok (.if_icmp .ge 16, 3) := by decide +kernel
theorem dX12_findsShifts_8 : decode cX12_findsShifts 8 = .ok (.aload_n 0, 1) := by decide +kernel
theorem dX12_findsShifts_9 : decode cX12_findsShifts 9 = .ok (.getfield 24, 3) := by decide +kernel
theorem dX12_findsShifts_12 : decode cX12_findsShifts 12 = .ok (.iload_n 1, 1) := by decide +kernel
theorem dX12_findsShifts_13 : decode cX12_findsShifts 13 = .ok (.iconst 0, 1) := by decide +kernel
theorem dX12_findsShifts_14 : decode cX12_findsShifts 14 = .ok (.iastore, 1) := by decide +kernel
theorem dX12_findsShifts_15 : decode cX12_findsShifts 15 = .ok (.iinc 1 1, 3) := by decide +kernel
theorem dX12_findsShifts_18 : decode cX12_findsShifts 18 = .ok (.goto (-16), 3) := by decide +kernel
theorem dX12_findsShifts_21 : decode cX12_findsShifts 21 = .ok (.iconst 0, 1) := by decide +kernel
theorem dX12_findsShifts_22 : decode cX12_findsShifts 22 = .ok (.istore_n 1, 1) := by decide +kernel
theorem dX12_findsShifts_23 : decode cX12_findsShifts 23 = .ok (.iload_n 1, 1) := by decide +kernel
theorem dX12_findsShifts_24 : decode cX12_findsShifts 24 = .ok (.bipush 24, 2) := by decide +kernel
theorem dX12_findsShifts_26 : decode cX12_findsShifts 26 = .ok (.if_icmp .ge 100, 3) := by decide +kernel
theorem dX12_findsShifts_29 : decode cX12_findsShifts 29 = .ok (.iconst 0, 1) := by decide +kernel
theorem dX12_findsShifts_30 : decode cX12_findsShifts 30 = .ok (.istore_n 2, 1) := by decide +kernel
theorem dX12_findsShifts_31 : decode cX12_findsShifts 31 = .ok (.iconst 0, 1) := by decide +kernel
theorem dX12_findsShifts_32 : decode cX12_findsShifts 32 = .ok (.istore_n 3, 1) := by decide +kernel
theorem dX12_findsShifts_33 : decode cX12_findsShifts 33 = .ok (.iload_n 3, 1) := by decide +kernel
theorem dX12_findsShifts_34 : decode cX12_findsShifts 34 = .ok (.iload_n 1, 1) := by decide +kernel
theorem dX12_findsShifts_35 : decode cX12_findsShifts 35 = .ok (.if_icmp .gt 36, 3) := by decide +kernel
theorem dX12_findsShifts_38 : decode cX12_findsShifts 38 = .ok (.iload_n 2, 1) := by decide +kernel
theorem dX12_findsShifts_39 : decode cX12_findsShifts 39 = .ok (.iload_n 3, 1) := by decide +kernel
theorem dX12_findsShifts_40 : decode cX12_findsShifts 40 = .ok (.aload_n 0, 1) := by decide +kernel
theorem dX12_findsShifts_41 : decode cX12_findsShifts 41 = .ok (.getfield 9, 3) := by decide +kernel
theorem dX12_findsShifts_44 : decode cX12_findsShifts 44 = .ok (.sipush 411, 3) := by decide +kernel
theorem dX12_findsShifts_47 : decode cX12_findsShifts 47 = .ok (.iaload, 1) := by decide +kernel
theorem dX12_findsShifts_48 : decode cX12_findsShifts 48 = .ok (.iadd, 1) := by decide +kernel
theorem dX12_findsShifts_49 : decode cX12_findsShifts 49 = .ok (.iload_n 1, 1) := by decide +kernel
theorem dX12_findsShifts_50 : decode cX12_findsShifts 50 = .ok (.if_icmp .le 12, 3) := by decide +kernel
theorem dX12_findsShifts_53 : decode cX12_findsShifts 53 = .ok (.aload_n 0, 1) := by decide +kernel
theorem dX12_findsShifts_54 : decode cX12_findsShifts 54 = .ok (.getfield 24, 3) := by decide +kernel
theorem dX12_findsShifts_57 : decode cX12_findsShifts 57 = .ok (.iload_n 3, 1) := by decide +kernel
theorem dX12_findsShifts_58 : decode cX12_findsShifts 58 = .ok (.iaload, 1) := by decide +kernel
theorem dX12_findsShifts_59 : decode cX12_findsShifts 59 = .ok (.goto 4, 3) := by decide +kernel
theorem dX12_findsShifts_62 : decode cX12_findsShifts 62 = .ok (.iconst 0, 1) := by decide +kernel
theorem dX12_findsShifts_63 : decode cX12_findsShifts 63 = .ok (.iadd, 1) := by decide +kernel
theorem dX12_findsShifts_64 : decode cX12_findsShifts 64 = .ok (.istore_n 2, 1) := by decide +kernel
theorem dX12_findsShifts_65 : decode cX12_findsShifts 65 = .ok (.iinc 3 1, 3) := by decide +kernel
theorem dX12_findsShifts_68 : decode cX12_findsShifts 68 = .ok (.goto (-35), 3) := by decide +kernel
theorem dX12_findsShifts_71 : decode cX12_findsShifts 71 = .ok (.iload_n 2, 1) := by decide +kernel
theorem dX12_findsShifts_72 : decode cX12_findsShifts 72 = .ok (.aload_n 0, 1) := by decide +kernel
theorem dX12_findsShifts_73 : decode cX12_findsShifts 73 = .ok (.getfield 9, 3) := by decide +kernel
theorem dX12_findsShifts_76 : decode cX12_findsShifts 76 = .ok (.sipush 387, 3) := by decide +kernel
theorem dX12_findsShifts_79 : decode cX12_findsShifts 79 = .ok (.iload_n 1, 1) := by decide +kernel
theorem dX12_findsShifts_80 : decode cX12_findsShifts 80 = .ok (.iadd, 1) := by decide +kernel
theorem dX12_findsShifts_81 : decode cX12_findsShifts 81 = .ok (.iaload, 1) := by decide +kernel
theorem dX12_findsShifts_82 : decode cX12_findsShifts 82 = .ok (.if_icmp .ge 38, 3) := by decide +kernel
theorem dX12_findsShifts_85 : decode cX12_findsShifts 85 = .ok (.aload_n 0, 1) := by decide +kernel
theorem dX12_findsShifts_86 : decode cX12_findsShifts 86 = .ok (.getfield 24, 3) := by decide +kernel
theorem dX12_findsShifts_89 : decode cX12_findsShifts 89 = .ok (.iload_n 1, 1) := by decide +kernel
theorem dX12_findsShifts_90 : decode cX12_findsShifts 90 = .ok (.bipush 24, 2) := by decide +kernel
theorem dX12_findsShifts_92 : decode cX12_findsShifts 92 = .ok (.aload_n 0, 1) := by decide +kernel
theorem dX12_findsShifts_93 : decode cX12_findsShifts 93 = .ok (.getfield 9, 3) := by decide +kernel
theorem dX12_findsShifts_96 : decode cX12_findsShifts 96 = .ok (.sipush 411, 3) := by decide +kernel
theorem dX12_findsShifts_99 : decode cX12_findsShifts 99 = .ok (.iaload, 1) := by decide +kernel
theorem dX12_findsShifts_100 : decode cX12_findsShifts 100 = .ok (.isub, 1) := by decide +kernel
theorem dX12_findsShifts_101 : decode cX12_findsShifts 101 = .ok (.invokestatic 92, 3) := by decide +kernel
theorem dX12_findsShifts_104 : decode cX12_findsShifts 104 = .ok (.dup2, 1) := by decide +kernel
theorem dX12_findsShifts_105 : decode cX12_findsShifts 105 = .ok (.iaload, 1) := by decide +kernel
theorem dX12_findsShifts_106 : decode cX12_findsShifts 106 = .ok (.aload_n 0, 1) := by decide +kernel
theorem dX12_findsShifts_107 : decode cX12_findsShifts 107 = .ok (.getfield 9, 3) := by decide +kernel
theorem dX12_findsShifts_110 : decode cX12_findsShifts 110 = .ok (.sipush 387, 3) := by decide +kernel
theorem dX12_findsShifts_113 : decode cX12_findsShifts 113 = .ok (.iload_n 1, 1) := by decide +kernel
theorem dX12_findsShifts_114 : decode cX12_findsShifts 114 = .ok (.iadd, 1) := by decide +kernel
theorem dX12_findsShifts_115 : decode cX12_findsShifts 115 = .ok (.iaload, 1) := by decide +kernel
theorem dX12_findsShifts_116 : decode cX12_findsShifts 116 = .ok (.iload_n 2, 1) := by decide +kernel
theorem dX12_findsShifts_117 : decode cX12_findsShifts 117 = .ok (.isub, 1) := by decide +kernel
theorem dX12_findsShifts_118 : decode cX12_findsShifts 118 = .ok (.iadd, 1) := by decide +kernel
theorem dX12_findsShifts_119 : decode cX12_findsShifts 119 = .ok (.iastore, 1) := by decide +kernel
theorem dX12_findsShifts_120 : decode cX12_findsShifts 120 = .ok (.iinc 1 1, 3) := by decide +kernel
theorem dX12_findsShifts_123 : decode cX12_findsShifts 123 = .ok (.goto (-100), 3) := by decide +kernel
theorem dX12_findsShifts_126 : decode cX12_findsShifts 126 = .ok (.return_, 1) := by decide +kernel
set_option maxRecDepth 20000 in
theorem ggX12_helpersNow_X12_findsShifts : GoodIn wsX12_helpersNow wsX12_findsShifts := goodIn_r _ [6, 1, 7, 8, 9, 10, 11, 12, 13, 14, 15, 16, 17, 18, 19, 20, 21, 22, 23, 24, 25, 26, 27] (by decide +kernel) (by decide +kernel)
set_option maxRecDepth 20000 in
theorem gX12_helpersNow_X12_findsShifts : GoodIn wsX12_helpersNow (wsV RX12 220 RX12 yX12_findsShifts wsX12_findsShifts) := goodIn_app (goodIn_of _ (by decide +kernel)) ggX12_helpersNow_X12_findsShifts
theorem dX12_helpersNow_0 : decode cX12_helpersNow 0 = .ok (.aload_n 0, 1) := by decide +kernel
theorem dX12_helpersNow_1 : decode cX12_helpersNow 1 = .ok (.invokevirtual 220, 3) := by decide +kernel
theorem dX12_helpersNow_4 : decode cX12_helpersNow 4 = .ok (.iconst 0, 1) := by decide +kernel
theorem dX12_helpersNow_5 : decode cX12_helpersNow 5 = .ok (.istore_n 1, 1) := by decide +kernel
theorem dX12_helpersNow_6 : decode cX12_helpersNow 6 = .ok (.iconst 0, 1) := by decide +kernel
theorem dX12_helpersNow_7 : decode cX12_helpersNow 7 = .ok (.istore_n 2, 1) := by decide +kernel
theorem dX12_helpersNow_8 : decode cX12_helpersNow 8 = .ok (.iload_n 2, 1) := by decide +kernel
theorem dX12_helpersNow_9 : decode cX12_helpersNow 9 = .ok (.bipush 24, 2) := by decide +kernel
theorem dX12_helpersNow_11 : decode cX12_helpersNow 11 = .ok (.if_icmp .ge 18, 3) := by decide +kernel
theorem dX12_helpersNow_14 : decode cX12_helpersNow 14 = .ok (.iload_n 1, 1) := by decide +kernel
theorem dX12_helpersNow_15 : decode cX12_helpersNow 15 = .ok (.aload_n 0, 1) := by decide +kernel
theorem dX12_helpersNow_16 : decode cX12_helpersNow 16 = .ok (.getfield 24, 3) := by decide +kernel
theorem dX12_helpersNow_19 : decode cX12_helpersNow 19 = .ok (.iload_n 2, 1) := by decide +kernel
theorem dX12_helpersNow_20 : decode cX12_helpersNow 20 = .ok (.iaload, 1) := by decide +kernel
theorem dX12_helpersNow_21 : decode cX12_helpersNow 21 = .ok (.iadd, 1) := by decide +kernel
theorem dX12_helpersNow_22 : decode cX12_helpersNow 22 = .ok (.istore_n 1, 1) := by decide +kernel
theorem dX12_helpersNow_23 : decode cX12_helpersNow 23 = .ok (.iinc 2 1, 3) := by decide +kernel
theorem dX12_helpersNow_26 : decode cX12_helpersNow 26 = .ok (.goto (-18), 3) := by decide +kernel
theorem dX12_helpersNow_29 : decode cX12_helpersNow 29 = .ok (.iload_n 1, 1) := by decide +kernel
theorem dX12_helpersNow_30 : decode cX12_helpersNow 30 = .ok (.ireturn, 1) := by decide +kernel
set_option maxRecDepth 20000 in
theorem ggX12_helpers_X12_isHour : GoodIn wsX12_helpers wsX12_isHour := goodIn_r _ [5, 6, 7, 4, 8] (by decide +kernel) (by decide +kernel)
set_option maxRecDepth 20000 in
theorem gX12_helpers_X12_isHour : GoodIn wsX12_helpers (va_wsS RX12 217 yX12_isHour wsX12_isHour) := goodIn_app (goodIn_of _ (by decide +kernel)) ggX12_helpers_X12_isHour
set_option maxRecDepth 20000 in
theorem ggX12_helpers_X12_lacks : GoodIn wsX12_helpers wsX12_lacks := goodIn_r _ [12, 13, 14, 15, 16, 4, 17, 31, 32, 33, 34, 35, 36, 37, 38, 39, 40, 41, 42, 43, 44, 45, 46] (by decide +kernel) (by decide +kernel)
set_option maxRecDepth 20000 in
theorem gX12_helpers_X12_lacks : GoodIn wsX12_helpers (wsV RX12 78 RX12 yX12_lacks wsX12_lacks) := goodIn_app (goodIn_of _ (by decide +kernel)) ggX12_helpers_X12_lacks
set_option maxRecDepth 20000 in
theorem ggX12_helpers_X12_helpersNow : GoodIn wsX12_helpers wsX12_helpersNow := goodIn_r _ [21, 1, 22, 23, 24, 4, 25, 26, 27, 28, 29, 30, 31, 32, 33, 34, 35, 36, 37, 38, 39, 40, 41, 42, 43, 44, 45, 46] (by decide +kernel) (by decide +kernel)
set_option maxRecDepth 20000 in
theorem gX12_helpers_X12_helpersNow : GoodIn wsX12_helpers (wsV RX12 223 RX12 yX12_helpersNow wsX12_helpersNow) := goodIn_app (goodIn_of _ (by decide +kernel)) ggX12_helpers_X12_helpersNow
theorem dX12_helpers_0 : decode cX12_helpers 0 = .ok (.aload_n 0, 1) := by decide +kernel
theorem dX12_helpers_1 : decode cX12_helpers 1 = .ok (.iload_n 1, 1) := by decide +kernel
theorem dX12_helpers_2 : decode cX12_helpers 2 = .ok (.iconst (-1), 1) := by decide +kernel
theorem dX12_helpers_3 : decode cX12_helpers 3 = .ok (.if_icmp .eq 10, 3) := by decide +kernel
theorem dX12_helpers_6 : decode cX12_helpers 6 = .ok (.iload_n 1, 1) := by decide +kernel
theorem dX12_helpers_7 : decode cX12_helpers 7 = .ok (.invokestatic 217, 3) := by decide +kernel
theorem dX12_helpers_10 : decode cX12_helpers 10 = .ok (.ifCond .eq 7, 3) := by decide +kernel
theorem dX12_helpers_13 : decode cX12_helpers 13 = .ok (.iconst 1, 1) := by decide +kernel
theorem dX12_helpers_14 : decode cX12_helpers 14 = .ok (.goto 4, 3) := by decide +kernel
theorem dX12_helpers_17 : decode cX12_helpers 17 = .ok (.iconst 0, 1) := by decide +kernel
theorem dX12_helpers_18 : decode cX12_helpers 18 = .ok (.invokevirtual 78, 3) := by decide +kernel
theorem dX12_helpers_21 : decode cX12_helpers 21 = .ok (.ifCond .eq 5, 3) := by decide +kernel
theorem dX12_helpers_24 : decode cX12_helpers 24 = .ok (.iconst 0, 1) := by decide +kernel
theorem dX12_helpers_25 : decode cX12_helpers 25 = .ok (.ireturn, 1) := by decide +kernel
theorem dX12_helpers_26 : decode cX12_helpers 26 = .ok (.aload_n 0, 1) := by decide +kernel
theorem dX12_helpers_27 : decode cX12_helpers 27 = .ok (.invokevirtual 223, 3) := by decide +kernel
theorem dX12_helpers_30 : decode cX12_helpers 30 = .ok (.istore_n 2, 1) := by decide +kernel
theorem dX12_helpers_31 : decode cX12_helpers 31 = .ok (.iload_n 1, 1) := by decide +kernel
theorem dX12_helpers_32 : decode cX12_helpers 32 = .ok (.iconst (-1), 1) := by decide +kernel
theorem dX12_helpers_33 : decode cX12_helpers 33 = .ok (.if_icmp .ne 7, 3) := by decide +kernel
theorem dX12_helpers_36 : decode cX12_helpers 36 = .ok (.iload_n 2, 1) := by decide +kernel
theorem dX12_helpers_37 : decode cX12_helpers 37 = .ok (.goto 9, 3) := by decide +kernel
theorem dX12_helpers_40 : decode cX12_helpers 40 = .ok (.aload_n 0, 1) := by decide +kernel
theorem dX12_helpers_41 : decode cX12_helpers 41 = .ok (.getfield 24, 3) := by decide +kernel
theorem dX12_helpers_44 : decode cX12_helpers 44 = .ok (.iload_n 1, 1) := by decide +kernel
theorem dX12_helpers_45 : decode cX12_helpers 45 = .ok (.iaload, 1) := by decide +kernel
theorem dX12_helpers_46 : decode cX12_helpers 46 = .ok (.ireturn, 1) := by decide +kernel
set_option maxRecDepth 20000 in
theorem ggX12_triesProofs_X12_triesProofs : GoodIn wsX12_triesProofs wsX12_triesProofs := goodIn_r _ [0, 1, 2, 3, 4, 5, 6, 7, 8, 9, 10, 11, 12, 13, 14, 15, 16, 17, 18, 19, 20, 21, 22, 23] (by decide +kernel) (by decide +kernel)
set_option maxRecDepth 20000 in
theorem gX12_triesProofs_X12_triesProofs : GoodIn wsX12_triesProofs (wsV RX12 226 RX12 yX12_triesProofs wsX12_triesProofs) := goodIn_app (goodIn_of _ (by decide +kernel)) ggX12_triesProofs_X12_triesProofs
theorem dX12_triesProofs_0 : decode cX12_triesProofs 0 = .ok (.iload_n 1, 1) := by decide +kernel
theorem dX12_triesProofs_1 : decode cX12_triesProofs 1 = .ok (.bipush 24, 2) := by decide +kernel
theorem dX12_triesProofs_3 : decode cX12_triesProofs 3 = .ok (.if_icmp .ne 25, 3) := by decide +kernel
theorem dX12_triesProofs_6 : decode cX12_triesProofs 6 = .ok (.iload 4, 2) := by decide +kernel
theorem dX12_triesProofs_8 : decode cX12_triesProofs 8 = .ok (.aload_n 0, 1) := by decide +kernel
theorem dX12_triesProofs_9 : decode cX12_triesProofs 9 = .ok (.getfield 124, 3) := by decide +kernel
theorem dX12_triesProofs_12 : decode cX12_triesProofs 12 = .ok (.if_icmp .gt 4, 3) := by decide +kernel
theorem dX12_triesProofs_15 : decode cX12_triesProofs 15 = .ok (.return_, 1) := by decide +kernel
theorem dX12_triesProofs_16 : decode cX12_triesProofs 16 = .ok (.aload_n 0, 1) := by decide +kernel
theorem dX12_triesProofs_17 : decode cX12_triesProofs 17 = .ok (.iload 4, 2) := by decide +kernel
theorem dX12_triesProofs_19 : decode cX12_triesProofs 19 = .ok (.putfield 124, 3) := by decide +kernel
theorem dX12_triesProofs_22 : decode cX12_triesProofs 22 = .ok (.aload_n 0, 1) := by decide +kernel
theorem dX12_triesProofs_23 : decode cX12_triesProofs 23 = .ok (.iload_n 3, 1) := by decide +kernel
theorem dX12_triesProofs_24 : decode cX12_triesProofs 24 = .ok (.putfield 127, 3) := by decide +kernel
theorem dX12_triesProofs_27 : decode cX12_triesProofs 27 = .ok (.return_, 1) := by decide +kernel
theorem dX12_triesProofs_28 : decode cX12_triesProofs 28 = .ok (.aload_n 0, 1) := by decide +kernel
theorem dX12_triesProofs_29 : decode cX12_triesProofs 29 = .ok (.getfield 9, 3) := by decide +kernel
theorem dX12_triesProofs_32 : decode cX12_triesProofs 32 = .ok (.sipush 387, 3) := by decide +kernel
theorem dX12_triesProofs_35 : decode cX12_triesProofs 35 = .ok (.iload_n 1, 1) := by decide +kernel
theorem dX12_triesProofs_36 : decode cX12_triesProofs 36 = .ok (.iadd, 1) := by decide +kernel
theorem dX12_triesProofs_37 : decode cX12_triesProofs 37 = .ok (.iaload, 1) := by decide +kernel
theorem dX12_triesProofs_38 : decode cX12_triesProofs 38 = .ok (.ifCond .le 48, 3) := by decide +kernel
theorem dX12_triesProofs_41 : decode cX12_triesProofs 41 = .ok (.iload_n 2, 1) := by decide +kernel
theorem dX12_triesProofs_42 : decode cX12_triesProofs 42 = .ok (.iconst (-1), 1) := by decide +kernel
theorem dX12_triesProofs_43 : decode cX12_triesProofs 43 = .ok (.if_icmp .eq 17, 3) := by decide +kernel
theorem dX12_triesProofs_46 : decode cX12_triesProofs 46 = .ok (.iload_n 1, 1) := by decide +kernel
theorem dX12_triesProofs_47 : decode cX12_triesProofs 47 = .ok (.iload_n 2, 1) := by decide +kernel
theorem dX12_triesProofs_48 : decode cX12_triesProofs 48 = .ok (.isub, 1) := by decide +kernel
theorem dX12_triesProofs_49 : decode cX12_triesProofs 49 = .ok (.aload_n 0, 1) := by decide +kernel
theorem dX12_triesProofs_50 : decode cX12_triesProofs 50 = .ok (.getfield 9, 3) := by decide +kernel
theorem dX12_triesProofs_53 : decode cX12_triesProofs 53 = .ok (.sipush 411, 3) := by decide +kernel
theorem dX12_triesProofs_56 : decode cX12_triesProofs 56 = .ok (.iaload, 1) := by decide +kernel
theorem dX12_triesProofs_57 : decode cX12_triesProofs 57 = .ok (.if_icmp .lt 29, 3) := by decide +kernel
theorem dX12_triesProofs_60 : decode cX12_triesProofs 60 = .ok (.aload_n 0, 1) := by decide +kernel
theorem dX12_triesProofs_61 : decode cX12_triesProofs 61 = .ok (.iload_n 1, 1) := by decide +kernel
theorem dX12_triesProofs_62 : decode cX12_triesProofs 62 = .ok (.iconst 1, 1) := by decide +kernel
theorem dX12_triesProofs_63 : decode cX12_triesProofs 63 = .ok (.iadd, 1) := by decide +kernel
theorem dX12_triesProofs_64 : decode cX12_triesProofs 64 = .ok (.iload_n 1, 1) := by decide +kernel
theorem dX12_triesProofs_65 : decode cX12_triesProofs 65 = .ok (.iload_n 3, 1) := by decide +kernel
theorem dX12_triesProofs_66 : decode cX12_triesProofs 66 = .ok (.iconst 1, 1) := by decide +kernel
theorem dX12_triesProofs_67 : decode cX12_triesProofs 67 = .ok (.iload_n 1, 1) := by decide +kernel
theorem dX12_triesProofs_68 : decode cX12_triesProofs 68 = .ok (.ishl, 1) := by decide +kernel
theorem dX12_triesProofs_69 : decode cX12_triesProofs 69 = .ok (.ior, 1) := by decide +kernel
theorem dX12_triesProofs_70 : decode cX12_triesProofs 70 = .ok (.iload 4, 2) := by decide +kernel
theorem dX12_triesProofs_72 : decode cX12_triesProofs 72 = .ok (.aload_n 0, 1) := by decide +kernel
theorem dX12_triesProofs_73 : decode cX12_triesProofs 73 = .ok (.getfield 9, 3) := by decide +kernel
theorem dX12_triesProofs_76 : decode cX12_triesProofs 76 = .ok (.sipush 387, 3) := by decide +kernel
theorem dX12_triesProofs_79 : decode cX12_triesProofs 79 = .ok (.iload_n 1, 1) := by decide +kernel
theorem dX12_triesProofs_80 : decode cX12_triesProofs 80 = .ok (.iadd, 1) := by decide +kernel
theorem dX12_triesProofs_81 : decode cX12_triesProofs 81 = .ok (.iaload, 1) := by decide +kernel
theorem dX12_triesProofs_82 : decode cX12_triesProofs 82 = .ok (.iadd, 1) := by decide +kernel
theorem dX12_triesProofs_83 : decode cX12_triesProofs 83 = .ok (.invokevirtual 226, 3) := by decide +kernel
theorem dX12_triesProofs_86 : decode cX12_triesProofs 86 = .ok (.aload_n 0, 1) := by decide +kernel
theorem dX12_triesProofs_87 : decode cX12_triesProofs 87 = .ok (.iload_n 1, 1) := by decide +kernel
theorem dX12_triesProofs_88 : decode cX12_triesProofs 88 = .ok (.iconst 1, 1) := by decide +kernel
theorem dX12_triesProofs_89 : decode cX12_triesProofs 89 = .ok (.iadd, 1) := by decide +kernel
theorem dX12_triesProofs_90 : decode cX12_triesProofs 90 = .ok (.iload_n 2, 1) := by decide +kernel
theorem dX12_triesProofs_91 : decode cX12_triesProofs 91 = .ok (.iload_n 3, 1) := by decide +kernel
theorem dX12_triesProofs_92 : decode cX12_triesProofs 92 = .ok (.iload 4, 2) := by decide +kernel
theorem dX12_triesProofs_94 : decode cX12_triesProofs 94 = .ok (.invokevirtual 226, 3) := by decide +kernel
theorem dX12_triesProofs_97 : decode cX12_triesProofs 97 = .ok (.return_, 1) := by decide +kernel
set_option maxRecDepth 20000 in
theorem ggX12_proofNow_X12_triesProofs : GoodIn wsX12_proofNow wsX12_triesProofs := goodIn_r _ [7, 1, 2, 8, 3, 4, 5, 6, 9, 10, 11, 12, 13, 14, 15, 16, 17, 18, 19, 20, 21, 22, 23, 24] (by decide +kernel) (by decide +kernel)
set_option maxRecDepth 20000 in
theorem gX12_proofNow_X12_triesProofs : GoodIn wsX12_proofNow (wsV RX12 226 RX12 yX12_triesProofs wsX12_triesProofs) := goodIn_app (goodIn_of _ (by decide +kernel)) ggX12_proofNow_X12_triesProofs
theorem dX12_proofNow_0 : decode cX12_proofNow 0 = .ok (.aload_n 0, 1) := by decide +kernel
theorem dX12_proofNow_1 : decode cX12_proofNow 1 = .ok (.iconst (-1), 1) := by decide +kernel
theorem dX12_proofNow_2 : decode cX12_proofNow 2 = .ok (.putfield 124, 3) := by decide +kernel
theorem dX12_proofNow_5 : decode cX12_proofNow 5 = .ok (.aload_n 0, 1) := by decide +kernel
theorem dX12_proofNow_6 : decode cX12_proofNow 6 = .ok (.iconst 0, 1) := by decide +kernel
theorem dX12_proofNow_7 : decode cX12_proofNow 7 = .ok (.iconst (-1), 1) := by decide +kernel
theorem dX12_proofNow_8 : decode cX12_proofNow 8 = .ok (.iconst 0, 1) := by decide +kernel
theorem dX12_proofNow_9 : decode cX12_proofNow 9 = .ok (.iconst 0, 1) := by decide +kernel
theorem dX12_proofNow_10 : decode cX12_proofNow 10 = .ok (.invokevirtual 226, 3) := by decide +kernel
theorem dX12_proofNow_13 : decode cX12_proofNow 13 = .ok (.aload_n 0, 1) := by decide +kernel
theorem dX12_proofNow_14 : decode cX12_proofNow 14 = .ok (.getfield 127, 3) := by decide +kernel
theorem dX12_proofNow_17 : decode cX12_proofNow 17 = .ok (.ireturn, 1) := by decide +kernel
set_option maxRecDepth 20000 in
theorem ggX12_proof_X12_proofNow : GoodIn wsX12_proof wsX12_proofNow := goodIn_r _ [6, 7, 8, 9, 10, 11, 5, 12, 13, 14, 15, 16, 17, 18, 19, 20, 21, 22, 23, 24, 25, 26, 27, 28, 29] (by decide +kernel) (by decide +kernel)
set_option maxRecDepth 20000 in
theorem gX12_proof_X12_proofNow : GoodIn wsX12_proof (wsV RX12 230 RX12 yX12_proofNow wsX12_proofNow) := goodIn_app (goodIn_of _ (by decide +kernel)) ggX12_proof_X12_proofNow
theorem dX12_proof_0 : decode cX12_proof 0 = .ok (.aload_n 0, 1) := by decide +kernel
theorem dX12_proof_1 : decode cX12_proof 1 = .ok (.iconst 0, 1) := by decide +kernel
theorem dX12_proof_2 : decode cX12_proof 2 = .ok (.putfield 39, 3) := by decide +kernel
theorem dX12_proof_5 : decode cX12_proof 5 = .ok (.aload_n 0, 1) := by decide +kernel
theorem dX12_proof_6 : decode cX12_proof 6 = .ok (.invokevirtual 230, 3) := by decide +kernel
theorem dX12_proof_9 : decode cX12_proof 9 = .ok (.ireturn, 1) := by decide +kernel
set_option maxRecDepth 20000 in
theorem ggX12_setLoad_X12_isHour : GoodIn wsX12_setLoad wsX12_isHour := goodIn_r _ [5, 6, 7, 4, 8] (by decide +kernel) (by decide +kernel)
set_option maxRecDepth 20000 in
theorem gX12_setLoad_X12_isHour : GoodIn wsX12_setLoad (va_wsS RX12 217 yX12_isHour wsX12_isHour) := goodIn_app (goodIn_of _ (by decide +kernel)) ggX12_setLoad_X12_isHour
set_option maxRecDepth 20000 in
theorem ggX12_setLoad_X12_lacks : GoodIn wsX12_setLoad wsX12_lacks := goodIn_r _ [12, 13, 14, 15, 16, 4, 17, 29, 30, 31, 32, 33, 34, 35, 36, 37, 38, 39, 40, 41, 42, 43, 44] (by decide +kernel) (by decide +kernel)
set_option maxRecDepth 20000 in
theorem gX12_setLoad_X12_lacks : GoodIn wsX12_setLoad (wsV RX12 78 RX12 yX12_lacks wsX12_lacks) := goodIn_app (goodIn_of _ (by decide +kernel)) ggX12_setLoad_X12_lacks
set_option maxRecDepth 20000 in
theorem ggX12_setLoad_X12_in : GoodIn wsX12_setLoad wsX12_in := goodIn_r _ [8] (by decide +kernel) (by decide +kernel)
set_option maxRecDepth 20000 in
theorem gX12_setLoad_X12_in : GoodIn wsX12_setLoad (va_wsS RX12 47 yX12_in wsX12_in) := goodIn_app (goodIn_of _ (by decide +kernel)) ggX12_setLoad_X12_in
set_option maxRecDepth 20000 in
theorem ggX12_setLoad_X12_no : GoodIn wsX12_setLoad wsX12_no := goodIn_r _ [17, 13, 29, 30, 31, 32, 33, 34, 35, 36, 37, 38, 39, 40, 41, 42, 43, 44] (by decide +kernel) (by decide +kernel)
set_option maxRecDepth 20000 in
theorem gX12_setLoad_X12_no : GoodIn wsX12_setLoad (wsV RX12 43 RX12 yX12_no wsX12_no) := goodIn_app (goodIn_of _ (by decide +kernel)) ggX12_setLoad_X12_no
set_option maxRecDepth 20000 in
theorem ggX12_setLoad_X12_keeps : GoodIn wsX12_setLoad wsX12_keeps := goodIn_r _ [21, 22, 23, 1, 24, 25, 26, 27, 28, 29, 30, 31, 32, 33, 34, 35, 36, 37, 38, 39, 40, 41, 42, 43, 44] (by decide +kernel) (by decide +kernel)
set_option maxRecDepth 20000 in
theorem gX12_setLoad_X12_keeps : GoodIn wsX12_setLoad (wsV RX12 68 RX12 yX12_keeps wsX12_keeps) := goodIn_app (goodIn_of _ (by decide +kernel)) ggX12_setLoad_X12_keeps
theorem dX12_setLoad_0 : decode cX12_setLoad 0 = .ok (.aload_n 0, 1) := by decide +kernel
theorem dX12_setLoad_1 : decode cX12_setLoad 1 = .ok (.iload_n 1, 1) := by decide +kernel
theorem dX12_setLoad_2 : decode cX12_setLoad 2 = .ok (.invokestatic 217, 3) := by decide +kernel
theorem dX12_setLoad_5 : decode cX12_setLoad 5 = .ok (.ifCond .eq 14, 3) := by decide +kernel
theorem dX12_setLoad_8 : decode cX12_setLoad 8 = .ok (.iload_n 2, 1) := by decide +kernel
theorem dX12_setLoad_9 : decode cX12_setLoad 9 = .ok (.invokestatic 217, 3) := by decide +kernel
theorem dX12_setLoad_12 : decode cX12_setLoad 12 = .ok (.ifCond .eq 7, 3) := by decide +kernel
theorem dX12_setLoad_15 : decode cX12_setLoad 15 = .ok (.iconst 1, 1) := by decide +kernel
theorem dX12_setLoad_16 : decode cX12_setLoad 16 = .ok (.goto 4, 3) := by decide +kernel
theorem dX12_setLoad_19 : decode cX12_setLoad 19 = .ok (.iconst 0, 1) := by decide +kernel
theorem dX12_setLoad_20 : decode cX12_setLoad 20 = .ok (.invokevirtual 78, 3) := by decide +kernel
theorem dX12_setLoad_23 : decode cX12_setLoad 23 = .ok (.ifCond .ne 32, 3) := by decide +kernel
theorem dX12_setLoad_26 : decode cX12_setLoad 26 = .ok (.aload_n 0, 1) := by decide +kernel
theorem dX12_setLoad_27 : decode cX12_setLoad 27 = .ok (.iload_n 2, 1) := by decide +kernel
theorem dX12_setLoad_28 : decode cX12_setLoad 28 = .ok (.iload_n 1, 1) := by decide +kernel
theorem dX12_setLoad_29 : decode cX12_setLoad 29 = .ok (.if_icmp .lt 18, 3) := by decide +kernel
theorem dX12_setLoad_32 : decode cX12_setLoad 32 = .ok (.iload_n 3, 1) := by decide +kernel
theorem dX12_setLoad_33 : decode cX12_setLoad 33 = .ok (.iconst 0, 1) := by decide +kernel
theorem dX12_setLoad_34 : decode cX12_setLoad 34 = .ok (.sipush 500, 3) := by decide +kernel
theorem dX12_setLoad_37 : decode cX12_setLoad 37 = .ok (.invokestatic 47, 3) := by decide +kernel
theorem dX12_setLoad_40 : decode cX12_setLoad 40 = .ok (.ifCond .eq 7, 3) := by decide +kernel
theorem dX12_setLoad_43 : decode cX12_setLoad 43 = .ok (.iconst 1, 1) := by decide +kernel
theorem dX12_setLoad_44 : decode cX12_setLoad 44 = .ok (.goto 4, 3) := by decide +kernel
theorem dX12_setLoad_47 : decode cX12_setLoad 47 = .ok (.iconst 0, 1) := by decide +kernel
theorem dX12_setLoad_48 : decode cX12_setLoad 48 = .ok (.iconst 2, 1) := by decide +kernel
theorem dX12_setLoad_49 : decode cX12_setLoad 49 = .ok (.invokevirtual 43, 3) := by decide +kernel
theorem dX12_setLoad_52 : decode cX12_setLoad 52 = .ok (.ifCond .eq 5, 3) := by decide +kernel
theorem dX12_setLoad_55 : decode cX12_setLoad 55 = .ok (.iconst 0, 1) := by decide +kernel
theorem dX12_setLoad_56 : decode cX12_setLoad 56 = .ok (.ireturn, 1) := by decide +kernel
theorem dX12_setLoad_57 : decode cX12_setLoad 57 = .ok (.aload_n 0, 1) := by decide +kernel
theorem dX12_setLoad_58 : decode cX12_setLoad 58 = .ok (.invokevirtual 68, 3) := by decide +kernel
theorem dX12_setLoad_61 : decode cX12_setLoad 61 = .ok (.aload_n 0, 1) := by decide +kernel
theorem dX12_setLoad_62 : decode cX12_setLoad 62 = .ok (.getfield 9, 3) := by decide +kernel
theorem dX12_setLoad_65 : decode cX12_setLoad 65 = .ok (.sipush 412, 3) := by decide +kernel
theorem dX12_setLoad_68 : decode cX12_setLoad 68 = .ok (.iload_n 1, 1) := by decide +kernel
theorem dX12_setLoad_69 : decode cX12_setLoad 69 = .ok (.iadd, 1) := by decide +kernel
theorem dX12_setLoad_70 : decode cX12_setLoad 70 = .ok (.iaload, 1) := by decide +kernel
theorem dX12_setLoad_71 : decode cX12_setLoad 71 = .ok (.istore 4, 2) := by decide +kernel
theorem dX12_setLoad_73 : decode cX12_setLoad 73 = .ok (.iload_n 1, 1) := by decide +kernel
theorem dX12_setLoad_74 : decode cX12_setLoad 74 = .ok (.istore 5, 2) := by decide +kernel
theorem dX12_setLoad_76 : decode cX12_setLoad 76 = .ok (.iload 5, 2) := by decide +kernel
theorem dX12_setLoad_78 : decode cX12_setLoad 78 = .ok (.iload_n 2, 1) := by decide +kernel
theorem dX12_setLoad_79 : decode cX12_setLoad 79 = .ok (.if_icmp .gt 21, 3) := by decide +kernel
theorem dX12_setLoad_82 : decode cX12_setLoad 82 = .ok (.aload_n 0, 1) := by decide +kernel
theorem dX12_setLoad_83 : decode cX12_setLoad 83 = .ok (.getfield 9, 3) := by decide +kernel
theorem dX12_setLoad_86 : decode cX12_setLoad 86 = .ok (.sipush 412, 3) := by decide +kernel
theorem dX12_setLoad_89 : decode cX12_setLoad 89 = .ok (.iload 5, 2) := by decide +kernel
theorem dX12_setLoad_91 : decode cX12_setLoad 91 = .ok (.iadd, 1) := by decide +kernel
theorem dX12_setLoad_92 : decode cX12_setLoad 92 = .ok (.iload_n 3, 1) := by decide +kernel
theorem dX12_setLoad_93 : decode cX12_setLoad 93 = .ok (.iastore, 1) := by decide +kernel
theorem dX12_setLoad_94 : decode cX12_setLoad 94 = .ok (.iinc 5 1, 3) := by decide +kernel
theorem dX12_setLoad_97 : decode cX12_setLoad 97 = .ok (.goto (-21), 3) := by decide +kernel
theorem dX12_setLoad_100 : decode cX12_setLoad 100 = .ok (.iload 4, 2) := by decide +kernel
theorem dX12_setLoad_102 : decode cX12_setLoad 102 = .ok (.ireturn, 1) := by decide +kernel
set_option maxRecDepth 20000 in
theorem ggX12_setGenerator_X12_in : GoodIn wsX12_setGenerator wsX12_in := goodIn_r _ [5] (by decide +kernel) (by decide +kernel)
set_option maxRecDepth 20000 in
theorem gX12_setGenerator_X12_in : GoodIn wsX12_setGenerator (va_wsS RX12 47 yX12_in wsX12_in) := goodIn_app (goodIn_of _ (by decide +kernel)) ggX12_setGenerator_X12_in
set_option maxRecDepth 20000 in
theorem ggX12_setGenerator_X12_lacks : GoodIn wsX12_setGenerator wsX12_lacks := goodIn_r _ [9, 10, 11, 12, 13, 4, 14, 30, 31, 32, 33, 34, 35, 36, 37, 38, 39, 40, 41, 42, 43, 44, 45] (by decide +kernel) (by decide +kernel)
set_option maxRecDepth 20000 in
theorem gX12_setGenerator_X12_lacks : GoodIn wsX12_setGenerator (wsV RX12 78 RX12 yX12_lacks wsX12_lacks) := goodIn_app (goodIn_of _ (by decide +kernel)) ggX12_setGenerator_X12_lacks
set_option maxRecDepth 20000 in
theorem ggX12_setGenerator_X12_no : GoodIn wsX12_setGenerator wsX12_no := goodIn_r _ [14, 10, 30, 31, 32, 33, 34, 35, 36, 37, 38, 39, 40, 41, 42, 43, 44, 45] (by decide +kernel) (by decide +kernel)
set_option maxRecDepth 20000 in
theorem gX12_setGenerator_X12_no : GoodIn wsX12_setGenerator (wsV RX12 43 RX12 yX12_no wsX12_no) := goodIn_app (goodIn_of _ (by decide +kernel)) ggX12_setGenerator_X12_no
set_option maxRecDepth 20000 in
theorem ggX12_setGenerator_X12_sets : GoodIn wsX12_setGenerator wsX12_sets := goodIn_r _ [18, 1, 19, 20, 21, 4, 22, 23, 24, 25, 26, 27, 28, 29, 30, 31, 32, 33, 34, 35, 36, 37, 38, 39, 40, 41, 42, 43, 44, 45] (by decide +kernel) (by decide +kernel)
set_option maxRecDepth 20000 in
theorem gX12_setGenerator_X12_sets : GoodIn wsX12_setGenerator (wsV RX12 89 RX12 yX12_sets wsX12_sets) := goodIn_app (goodIn_of _ (by decide +kernel)) ggX12_setGenerator_X12_sets
theorem dX12_setGenerator_0 : decode cX12_setGenerator 0 = .ok (.aload_n 0, 1) := by decide +kernel
theorem dX12_setGenerator_1 : decode cX12_setGenerator 1 = .ok (.iload_n 1, 1) := by decide +kernel
theorem dX12_setGenerator_2 : decode cX12_setGenerator 2 = .ok (.iconst 0, 1) := by decide +kernel
theorem dX12_setGenerator_3 : decode cX12_setGenerator 3 = .ok (.iconst 3, 1) := by decide +kernel
theorem dX12_setGenerator_4 : decode cX12_setGenerator 4 = .ok (.invokestatic 47, 3) := by decide +kernel
theorem dX12_setGenerator_7 : decode cX12_setGenerator 7 = .ok (.invokevirtual 78, 3) := by decide +kernel
theorem dX12_setGenerator_10 : decode cX12_setGenerator 10 = .ok (.ifCond .ne 48, 3) := by decide +kernel
theorem dX12_setGenerator_13 : decode cX12_setGenerator 13 = .ok (.aload_n 0, 1) := by decide +kernel
theorem dX12_setGenerator_14 : decode cX12_setGenerator 14 = .ok (.iload_n 2, 1) := by decide +kernel
theorem dX12_setGenerator_15 : decode cX12_setGenerator 15 = .ok (.iconst 0, 1) := by decide +kernel
theorem dX12_setGenerator_16 : decode cX12_setGenerator 16 = .ok (.sipush 200, 3) := by decide +kernel
theorem dX12_setGenerator_19 : decode cX12_setGenerator 19 = .ok (.invokestatic 47, 3) := by decide +kernel
theorem dX12_setGenerator_22 : decode cX12_setGenerator 22 = .ok (.ifCond .eq 28, 3) := by decide +kernel
theorem dX12_setGenerator_25 : decode cX12_setGenerator 25 = .ok (.iload_n 3, 1) := by decide +kernel
theorem dX12_setGenerator_26 : decode cX12_setGenerator 26 = .ok (.iconst 0, 1) := by decide +kernel
theorem dX12_setGenerator_27 : decode cX12_setGenerator 27 = .ok (.bipush 100, 2) := by decide +kernel
theorem dX12_setGenerator_29 : decode cX12_setGenerator 29 = .ok (.invokestatic 47, 3) := by decide +kernel
theorem dX12_setGenerator_32 : decode cX12_setGenerator 32 = .ok (.ifCond .eq 18, 3) := by decide +kernel
theorem dX12_setGenerator_35 : decode cX12_setGenerator 35 = .ok (.iload 4, 2) := by decide +kernel
theorem dX12_setGenerator_37 : decode cX12_setGenerator 37 = .ok (.iconst 0, 1) := by decide +kernel
theorem dX12_setGenerator_38 : decode cX12_setGenerator 38 = .ok (.bipush 100, 2) := by decide +kernel
theorem dX12_setGenerator_40 : decode cX12_setGenerator 40 = .ok (.invokestatic 47, 3) := by decide +kernel
theorem dX12_setGenerator_43 : decode cX12_setGenerator 43 = .ok (.ifCond .eq 7, 3) := by decide +kernel
theorem dX12_setGenerator_46 : decode cX12_setGenerator 46 = .ok (.iconst 1, 1) := by decide +kernel
theorem dX12_setGenerator_47 : decode cX12_setGenerator 47 = .ok (.goto 4, 3) := by decide +kernel
theorem dX12_setGenerator_50 : decode cX12_setGenerator 50 = .ok (.iconst 0, 1) := by decide +kernel
theorem dX12_setGenerator_51 : decode cX12_setGenerator 51 = .ok (.iconst 2, 1) := by decide +kernel
theorem dX12_setGenerator_52 : decode cX12_setGenerator 52 = .ok (.invokevirtual 43, 3) := by decide +kernel
theorem dX12_setGenerator_55 : decode cX12_setGenerator 55 = .ok (.ifCond .eq 5, 3) := by decide +kernel
theorem dX12_setGenerator_58 : decode cX12_setGenerator 58 = .ok (.iconst 0, 1) := by decide +kernel
theorem dX12_setGenerator_59 : decode cX12_setGenerator 59 = .ok (.ireturn, 1) := by decide +kernel
theorem dX12_setGenerator_60 : decode cX12_setGenerator 60 = .ok (.aload_n 0, 1) := by decide +kernel
theorem dX12_setGenerator_61 : decode cX12_setGenerator 61 = .ok (.sipush 436, 3) := by decide +kernel
theorem dX12_setGenerator_64 : decode cX12_setGenerator 64 = .ok (.iconst 3, 1) := by decide +kernel
theorem dX12_setGenerator_65 : decode cX12_setGenerator 65 = .ok (.iload_n 1, 1) := by decide +kernel
theorem dX12_setGenerator_66 : decode cX12_setGenerator 66 = .ok (.imul, 1) := by decide +kernel
theorem dX12_setGenerator_67 : decode cX12_setGenerator 67 = .ok (.iadd, 1) := by decide +kernel
theorem dX12_setGenerator_68 : decode cX12_setGenerator 68 = .ok (.iload_n 2, 1) := by decide +kernel
theorem dX12_setGenerator_69 : decode cX12_setGenerator 69 = .ok (.invokevirtual 89, 3) := by decide +kernel
theorem dX12_setGenerator_72 : decode cX12_setGenerator 72 = .ok (.istore 5, 2) := by decide +kernel
theorem dX12_setGenerator_74 : decode cX12_setGenerator 74 = .ok (.aload_n 0, 1) := by decide +kernel
theorem dX12_setGenerator_75 : decode cX12_setGenerator 75 = .ok (.getfield 9, 3) := by decide +kernel
theorem dX12_setGenerator_78 : decode cX12_setGenerator 78 = .ok (.sipush 436, 3) := by decide +kernel
theorem dX12_setGenerator_81 : decode cX12_setGenerator 81 = .ok (.iconst 3, 1) := by decide +kernel
theorem dX12_setGenerator_82 : decode cX12_setGenerator 82 = .ok (.iload_n 1, 1) := by decide +kernel
theorem dX12_setGenerator_83 : decode cX12_setGenerator 83 = .ok (.imul, 1) := by decide +kernel
theorem dX12_setGenerator_84 : decode cX12_setGenerator 84 = .ok (.iadd, 1) := by decide +kernel
theorem dX12_setGenerator_85 : decode cX12_setGenerator 85 = .ok (.iconst 1, 1) := by decide +kernel
theorem dX12_setGenerator_86 : decode cX12_setGenerator 86 = .ok (.iadd, 1) := by decide +kernel
theorem dX12_setGenerator_87 : decode cX12_setGenerator 87 = .ok (.iload_n 3, 1) := by decide +kernel
theorem dX12_setGenerator_88 : decode cX12_setGenerator 88 = .ok (.iastore, 1) := by decide +kernel
theorem dX12_setGenerator_89 : decode cX12_setGenerator 89 = .ok (.aload_n 0, 1) := by decide +kernel
theorem dX12_setGenerator_90 : decode cX12_setGenerator 90 = .ok (.getfield 9, 3) := by decide +kernel
theorem dX12_setGenerator_93 : decode cX12_setGenerator 93 = .ok (.sipush 436, 3) := by decide +kernel
theorem dX12_setGenerator_96 : decode cX12_setGenerator 96 = .ok (.iconst 3, 1) := by decide +kernel
theorem dX12_setGenerator_97 : decode cX12_setGenerator 97 = .ok (.iload_n 1, 1) := by decide +kernel
theorem dX12_setGenerator_98 : decode cX12_setGenerator 98 = .ok (.imul, 1) := by decide +kernel
theorem dX12_setGenerator_99 : decode cX12_setGenerator 99 = .ok (.iadd, 1) := by decide +kernel
theorem dX12_setGenerator_100 : decode cX12_setGenerator 100 = .ok (.iconst 2, 1) := by decide +kernel
theorem dX12_setGenerator_101 : decode cX12_setGenerator 101 = .ok (.iadd, 1) := by decide +kernel
theorem dX12_setGenerator_102 : decode cX12_setGenerator 102 = .ok (.iload 4, 2) := by decide +kernel
theorem dX12_setGenerator_104 : decode cX12_setGenerator 104 = .ok (.iastore, 1) := by decide +kernel
theorem dX12_setGenerator_105 : decode cX12_setGenerator 105 = .ok (.iload 5, 2) := by decide +kernel
theorem dX12_setGenerator_107 : decode cX12_setGenerator 107 = .ok (.ireturn, 1) := by decide +kernel
theorem dX12_costOf_0 : decode cX12_costOf 0 = .ok (.iconst 0, 1) := by decide +kernel
theorem dX12_costOf_1 : decode cX12_costOf 1 = .ok (.istore 4, 2) := by decide +kernel
theorem dX12_costOf_3 : decode cX12_costOf 3 = .ok (.iconst 0, 1) := by decide +kernel
theorem dX12_costOf_4 : decode cX12_costOf 4 = .ok (.istore 5, 2) := by decide +kernel
theorem dX12_costOf_6 : decode cX12_costOf 6 = .ok (.iconst 0, 1) := by decide +kernel
theorem dX12_costOf_7 : decode cX12_costOf 7 = .ok (.istore 6, 2) := by decide +kernel
theorem dX12_costOf_9 : decode cX12_costOf 9 = .ok (.iload 6, 2) := by decide +kernel
theorem dX12_costOf_11 : decode cX12_costOf 11 = .ok (.iconst 4, 1) := by decide +kernel
theorem dX12_costOf_12 : decode cX12_costOf 12 = .ok (.if_icmp .ge 88, 3) := by decide +kernel
theorem dX12_costOf_15 : decode cX12_costOf 15 = .ok (.iload_n 3, 1) := by decide +kernel
theorem dX12_costOf_16 : decode cX12_costOf 16 = .ok (.iload 6, 2) := by decide +kernel
theorem dX12_costOf_18 : decode cX12_costOf 18 = .ok (.ishr, 1) := by decide +kernel
theorem dX12_costOf_19 : decode cX12_costOf 19 = .ok (.iconst 1, 1) := by decide +kernel
theorem dX12_costOf_20 : decode cX12_costOf 20 = .ok (.iand, 1) := by decide +kernel
theorem dX12_costOf_21 : decode cX12_costOf 21 = .ok (.ifCond .ne 6, 3) := by decide +kernel
theorem dX12_costOf_24 : decode cX12_costOf 24 = .ok (.goto 70, 3) := by decide +kernel
theorem dX12_costOf_27 : decode cX12_costOf 27 = .ok (.iload 4, 2) := by decide +kernel
theorem dX12_costOf_29 : decode cX12_costOf 29 = .ok (.aload_n 0, 1) := by decide +kernel
theorem dX12_costOf_30 : decode cX12_costOf 30 = .ok (.getfield 9, 3) := by decide +kernel
theorem dX12_costOf_33 : decode cX12_costOf 33 = .ok (.sipush 436, 3) := by decide +kernel
theorem dX12_costOf_36 : decode cX12_costOf 36 = .ok (.iconst 3, 1) := by decide +kernel
theorem dX12_costOf_37 : decode cX12_costOf 37 = .ok (.iload 6, 2) := by decide +kernel
theorem dX12_costOf_39 : decode cX12_costOf 39 = .ok (.imul, 1) := by decide +kernel
theorem dX12_costOf_40 : decode cX12_costOf 40 = .ok (.iadd, 1) := by decide +kernel
theorem dX12_costOf_41 : decode cX12_costOf 41 = .ok (.iaload, 1) := by decide +kernel
theorem dX12_costOf_42 : decode cX12_costOf 42 = .ok (.iadd, 1) := by decide +kernel
theorem dX12_costOf_43 : decode cX12_costOf 43 = .ok (.istore 4, 2) := by decide +kernel
theorem dX12_costOf_45 : decode cX12_costOf 45 = .ok (.iload 5, 2) := by decide +kernel
theorem dX12_costOf_47 : decode cX12_costOf 47 = .ok (.aload_n 0, 1) := by decide +kernel
theorem dX12_costOf_48 : decode cX12_costOf 48 = .ok (.getfield 9, 3) := by decide +kernel
theorem dX12_costOf_51 : decode cX12_costOf 51 = .ok (.sipush 436, 3) := by decide +kernel
theorem dX12_costOf_54 : decode cX12_costOf 54 = .ok (.iconst 3, 1) := by decide +kernel
theorem dX12_costOf_55 : decode cX12_costOf 55 = .ok (.iload 6, 2) := by decide +kernel
theorem dX12_costOf_57 : decode cX12_costOf 57 = .ok (.imul, 1) := by decide +kernel
theorem dX12_costOf_58 : decode cX12_costOf 58 = .ok (.iadd, 1) := by decide +kernel
theorem dX12_costOf_59 : decode cX12_costOf 59 = .ok (.iconst 2, 1) := by decide +kernel
theorem dX12_costOf_60 : decode cX12_costOf 60 = .ok (.iadd, 1) := by decide +kernel
theorem dX12_costOf_61 : decode cX12_costOf 61 = .ok (.iaload, 1) := by decide +kernel
theorem dX12_costOf_62 : decode cX12_costOf 62 = .ok (.iload_n 2, 1) := by decide +kernel
theorem dX12_costOf_63 : decode cX12_costOf 63 = .ok (.iload 6, 2) := by decide +kernel
theorem dX12_costOf_65 : decode cX12_costOf 65 = .ok (.ishr, 1) := by decide +kernel
theorem dX12_costOf_66 : decode cX12_costOf 66 = .ok (.iconst 1, 1) := by decide +kernel
theorem dX12_costOf_67 : decode cX12_costOf 67 = .ok (.iand, 1) := by decide +kernel
theorem dX12_costOf_68 : decode cX12_costOf 68 = .ok (.ifCond .ne 21, 3) := by decide +kernel
theorem dX12_costOf_71 : decode cX12_costOf 71 = .ok (.aload_n 0, 1) := by decide +kernel
theorem dX12_costOf_72 : decode cX12_costOf 72 = .ok (.getfield 9, 3) := by decide +kernel
theorem dX12_costOf_75 : decode cX12_costOf 75 = .ok (.sipush 436, 3) := by decide +kernel
theorem dX12_costOf_78 : decode cX12_costOf 78 = .ok (.iconst 3, 1) := by decide +kernel
theorem dX12_costOf_79 : decode cX12_costOf 79 = .ok (.iload 6, 2) := by decide +kernel
theorem dX12_costOf_81 : decode cX12_costOf 81 = .ok (.imul, 1) := by decide +kernel
theorem dX12_costOf_82 : decode cX12_costOf 82 = .ok (.iadd, 1) := by decide +kernel
theorem dX12_costOf_83 : decode cX12_costOf 83 = .ok (.iconst 1, 1) := by decide +kernel
theorem dX12_costOf_84 : decode cX12_costOf 84 = .ok (.iadd, 1) := by decide +kernel
theorem dX12_costOf_85 : decode cX12_costOf 85 = .ok (.iaload, 1) := by decide +kernel
theorem dX12_costOf_86 : decode cX12_costOf 86 = .ok (.goto 4, 3) := by decide +kernel
theorem dX12_costOf_89 : decode cX12_costOf 89 = .ok (.iconst 0, 1) := by decide +kernel
theorem dX12_costOf_90 : decode cX12_costOf 90 = .ok (.iadd, 1) := by decide +kernel
theorem dX12_costOf_91 : decode cX12_costOf 91 = .ok (.iadd, 1) := by decide +kernel
theorem dX12_costOf_92 : decode cX12_costOf 92 = .ok (.istore 5, 2) := by decide +kernel
theorem dX12_costOf_94 : decode cX12_costOf 94 = .ok (.iinc 6 1, 3) := by decide +kernel
theorem dX12_costOf_97 : decode cX12_costOf 97 = .ok (.goto (-88), 3) := by decide +kernel
theorem dX12_costOf_100 : decode cX12_costOf 100 = .ok (.iload 4, 2) := by decide +kernel
theorem dX12_costOf_102 : decode cX12_costOf 102 = .ok (.aload_n 0, 1) := by decide +kernel
theorem dX12_costOf_103 : decode cX12_costOf 103 = .ok (.getfield 9, 3) := by decide +kernel
theorem dX12_costOf_106 : decode cX12_costOf 106 = .ok (.sipush 412, 3) := by decide +kernel
theorem dX12_costOf_109 : decode cX12_costOf 109 = .ok (.iload_n 1, 1) := by decide +kernel
theorem dX12_costOf_110 : decode cX12_costOf 110 = .ok (.iadd, 1) := by decide +kernel
theorem dX12_costOf_111 : decode cX12_costOf 111 = .ok (.iaload, 1) := by decide +kernel
theorem dX12_costOf_112 : decode cX12_costOf 112 = .ok (.if_icmp .ge 7, 3) := by decide +kernel
theorem dX12_costOf_115 : decode cX12_costOf 115 = .ok (.iconst (-1), 1) := by decide +kernel
theorem dX12_costOf_116 : decode cX12_costOf 116 = .ok (.goto 5, 3) := by decide +kernel
theorem dX12_costOf_119 : decode cX12_costOf 119 = .ok (.iload 5, 2) := by decide +kernel
theorem dX12_costOf_121 : decode cX12_costOf 121 = .ok (.ireturn, 1) := by decide +kernel
set_option maxRecDepth 20000 in
theorem ggX12_costWith_X12_costOf : GoodIn wsX12_costWith wsX12_costOf := goodIn_r _ [6, 7, 8, 9, 10, 11, 12, 13, 14, 15, 16, 17, 18, 19, 20, 21, 22, 23] (by decide +kernel) (by decide +kernel)
set_option maxRecDepth 20000 in
theorem gX12_costWith_X12_costOf : GoodIn wsX12_costWith (wsV RX12 233 RX12 yX12_costOf wsX12_costOf) := goodIn_app (goodIn_of _ (by decide +kernel)) ggX12_costWith_X12_costOf
theorem dX12_costWith_0 : decode cX12_costWith 0 = .ok (.aload_n 0, 1) := by decide +kernel
theorem dX12_costWith_1 : decode cX12_costWith 1 = .ok (.iload_n 1, 1) := by decide +kernel
theorem dX12_costWith_2 : decode cX12_costWith 2 = .ok (.iload_n 2, 1) := by decide +kernel
theorem dX12_costWith_3 : decode cX12_costWith 3 = .ok (.iload_n 3, 1) := by decide +kernel
theorem dX12_costWith_4 : decode cX12_costWith 4 = .ok (.invokevirtual 233, 3) := by decide +kernel
theorem dX12_costWith_7 : decode cX12_costWith 7 = .ok (.istore 4, 2) := by decide +kernel
theorem dX12_costWith_9 : decode cX12_costWith 9 = .ok (.iload 4, 2) := by decide +kernel
theorem dX12_costWith_11 : decode cX12_costWith 11 = .ok (.iconst (-1), 1) := by decide +kernel
theorem dX12_costWith_12 : decode cX12_costWith 12 = .ok (.if_icmp .eq 17, 3) := by decide +kernel
theorem dX12_costWith_15 : decode cX12_costWith 15 = .ok (.aload_n 0, 1) := by decide +kernel
theorem dX12_costWith_16 : decode cX12_costWith 16 = .ok (.getfield 27, 3) := by decide +kernel
theorem dX12_costWith_19 : decode cX12_costWith 19 = .ok (.iload_n 1, 1) := by decide +kernel
theorem dX12_costWith_20 : decode cX12_costWith 20 = .ok (.iconst 1, 1) := by decide +kernel
theorem dX12_costWith_21 : decode cX12_costWith 21 = .ok (.iadd, 1) := by decide +kernel
theorem dX12_costWith_22 : decode cX12_costWith 22 = .ok (.aaload, 1) := by decide +kernel
theorem dX12_costWith_23 : decode cX12_costWith 23 = .ok (.iload_n 3, 1) := by decide +kernel
theorem dX12_costWith_24 : decode cX12_costWith 24 = .ok (.iaload, 1) := by decide +kernel
theorem dX12_costWith_25 : decode cX12_costWith 25 = .ok (.iconst (-1), 1) := by decide +kernel
theorem dX12_costWith_26 : decode cX12_costWith 26 = .ok (.if_icmp .ne 7, 3) := by decide +kernel
theorem dX12_costWith_29 : decode cX12_costWith 29 = .ok (.iconst (-1), 1) := by decide +kernel
theorem dX12_costWith_30 : decode cX12_costWith 30 = .ok (.goto 16, 3) := by decide +kernel
theorem dX12_costWith_33 : decode cX12_costWith 33 = .ok (.iload 4, 2) := by decide +kernel
theorem dX12_costWith_35 : decode cX12_costWith 35 = .ok (.aload_n 0, 1) := by decide +kernel
theorem dX12_costWith_36 : decode cX12_costWith 36 = .ok (.getfield 27, 3) := by decide +kernel
theorem dX12_costWith_39 : decode cX12_costWith 39 = .ok (.iload_n 1, 1) := by decide +kernel
theorem dX12_costWith_40 : decode cX12_costWith 40 = .ok (.iconst 1, 1) := by decide +kernel
theorem dX12_costWith_41 : decode cX12_costWith 41 = .ok (.iadd, 1) := by decide +kernel
theorem dX12_costWith_42 : decode cX12_costWith 42 = .ok (.aaload, 1) := by decide +kernel
theorem dX12_costWith_43 : decode cX12_costWith 43 = .ok (.iload_n 3, 1) := by decide +kernel
theorem dX12_costWith_44 : decode cX12_costWith 44 = .ok (.iaload, 1) := by decide +kernel
theorem dX12_costWith_45 : decode cX12_costWith 45 = .ok (.iadd, 1) := by decide +kernel
theorem dX12_costWith_46 : decode cX12_costWith 46 = .ok (.ireturn, 1) := by decide +kernel
set_option maxRecDepth 20000 in
theorem ggX12_cheapest_X12_costWith : GoodIn wsX12_cheapest wsX12_costWith := goodIn_r _ [5, 6, 7, 8, 9, 4, 10, 11, 12, 13, 14, 15, 16, 17, 18, 19, 20, 21, 22, 23, 24, 25, 26, 27] (by decide +kernel) (by decide +kernel)
set_option maxRecDepth 20000 in
theorem gX12_cheapest_X12_costWith : GoodIn wsX12_cheapest (wsV RX12 236 RX12 yX12_costWith wsX12_costWith) := goodIn_app (goodIn_of _ (by decide +kernel)) ggX12_cheapest_X12_costWith
theorem dX12_cheapest_0 : decode cX12_cheapest 0 = .ok (.iconst (-1), 1) := by decide +kernel
theorem dX12_cheapest_1 : decode cX12_cheapest 1 = .ok (.istore_n 3, 1) := by decide +kernel
theorem dX12_cheapest_2 : decode cX12_cheapest 2 = .ok (.iconst 0, 1) := by decide +kernel
theorem dX12_cheapest_3 : decode cX12_cheapest 3 = .ok (.istore 4, 2) := by decide +kernel
theorem dX12_cheapest_5 : decode cX12_cheapest 5 = .ok (.iload 4, 2) := by decide +kernel
theorem dX12_cheapest_7 : decode cX12_cheapest 7 = .ok (.bipush 16, 2) := by decide +kernel
theorem dX12_cheapest_9 : decode cX12_cheapest 9 = .ok (.if_icmp .ge 45, 3) := by decide +kernel
theorem dX12_cheapest_12 : decode cX12_cheapest 12 = .ok (.aload_n 0, 1) := by decide +kernel
theorem dX12_cheapest_13 : decode cX12_cheapest 13 = .ok (.iload_n 1, 1) := by decide +kernel
theorem dX12_cheapest_14 : decode cX12_cheapest 14 = .ok (.iload_n 2, 1) := by decide +kernel
theorem dX12_cheapest_15 : decode cX12_cheapest 15 = .ok (.iload 4, 2) := by decide +kernel
theorem dX12_cheapest_17 : decode cX12_cheapest 17 = .ok (.invokevirtual 236, 3) := by decide +kernel
theorem dX12_cheapest_20 : decode cX12_cheapest 20 = .ok (.istore 5, 2) := by decide +kernel
theorem dX12_cheapest_22 : decode cX12_cheapest 22 = .ok (.iload 5, 2) := by decide +kernel
theorem dX12_cheapest_24 : decode cX12_cheapest 24 = .ok (.iconst (-1), 1) := by decide +kernel
theorem dX12_cheapest_25 : decode cX12_cheapest 25 = .ok (.if_icmp .eq 23, 3) := by decide +kernel
theorem dX12_cheapest_28 : decode cX12_cheapest 28 = .ok (.iload_n 3, 1) := by decide +kernel
theorem dX12_cheapest_29 : decode cX12_cheapest 29 = .ok (.iconst (-1), 1) := by decide +kernel
theorem dX12_cheapest_30 : decode cX12_cheapest 30 = .ok (.if_icmp .eq 15, 3) := by decide +kernel
theorem dX12_cheapest_33 : decode cX12_cheapest 33 = .ok (.iload 5, 2) := by decide +kernel
theorem dX12_cheapest_35 : decode cX12_cheapest 35 = .ok (.aload_n 0, 1) := by decide +kernel
theorem dX12_cheapest_36 : decode cX12_cheapest 36 = .ok (.iload_n 1, 1) := by decide +kernel
theorem dX12_cheapest_37 : decode cX12_cheapest 37 = .ok (.iload_n 2, 1) := by decide +kernel
theorem dX12_cheapest_38 : decode cX12_cheapest 38 = .ok (.iload_n 3, 1) := by decide +kernel
theorem dX12_cheapest_39 : decode cX12_cheapest 39 = .ok (.invokevirtual 236, 3) := by decide +kernel
theorem dX12_cheapest_42 : decode cX12_cheapest 42 = .ok (.if_icmp .ge 6, 3) := by decide +kernel
theorem dX12_cheapest_45 : decode cX12_cheapest 45 = .ok (.iload 4, 2) := by decide +kernel
theorem dX12_cheapest_47 : decode cX12_cheapest 47 = .ok (.istore_n 3, 1) := by decide +kernel
theorem dX12_cheapest_48 : decode cX12_cheapest 48 = .ok (.iinc 4 1, 3) := by decide +kernel
theorem dX12_cheapest_51 : decode cX12_cheapest 51 = .ok (.goto (-46), 3) := by decide +kernel
theorem dX12_cheapest_54 : decode cX12_cheapest 54 = .ok (.iload_n 3, 1) := by decide +kernel
theorem dX12_cheapest_55 : decode cX12_cheapest 55 = .ok (.ireturn, 1) := by decide +kernel
set_option maxRecDepth 20000 in
theorem ggX12_costNow_X12_cheapest : GoodIn wsX12_costNow wsX12_cheapest := goodIn_r _ [6, 7, 8, 9, 5, 10, 1, 11, 12, 13, 14, 15, 16, 17, 18, 19, 20, 21, 22, 23, 24, 25, 26, 27, 28, 29, 30, 31] (by decide +kernel) (by decide +kernel)
set_option maxRecDepth 20000 in
theorem gX12_costNow_X12_cheapest : GoodIn wsX12_costNow (wsV RX12 239 RX12 yX12_cheapest wsX12_cheapest) := goodIn_app (goodIn_of _ (by decide +kernel)) ggX12_costNow_X12_cheapest
set_option maxRecDepth 20000 in
theorem ggX12_costNow_X12_costWith : GoodIn wsX12_costNow wsX12_costWith := goodIn_r _ [10, 1, 11, 12, 13, 5, 14, 15, 16, 17, 18, 19, 20, 21, 22, 23, 24, 25, 26, 27, 28, 29, 30, 31] (by decide +kernel) (by decide +kernel)
set_option maxRecDepth 20000 in
theorem gX12_costNow_X12_costWith : GoodIn wsX12_costNow (wsV RX12 236 RX12 yX12_costWith wsX12_costWith) := goodIn_app (goodIn_of _ (by decide +kernel)) ggX12_costNow_X12_costWith
theorem dX12_costNow_0 : decode cX12_costNow 0 = .ok (.iconst 0, 1) := by decide +kernel
theorem dX12_costNow_1 : decode cX12_costNow 1 = .ok (.istore_n 1, 1) := by decide +kernel
theorem dX12_costNow_2 : decode cX12_costNow 2 = .ok (.iload_n 1, 1) := by decide +kernel
theorem dX12_costNow_3 : decode cX12_costNow 3 = .ok (.bipush 16, 2) := by decide +kernel
theorem dX12_costNow_5 : decode cX12_costNow 5 = .ok (.if_icmp .ge 19, 3) := by decide +kernel
theorem dX12_costNow_8 : decode cX12_costNow 8 = .ok (.aload_n 0, 1) := by decide +kernel
theorem dX12_costNow_9 : decode cX12_costNow 9 = .ok (.getfield 27, 3) := by decide +kernel
theorem dX12_costNow_12 : decode cX12_costNow 12 = .ok (.bipush 24, 2) := by decide +kernel
theorem dX12_costNow_14 : decode cX12_costNow 14 = .ok (.aaload, 1) := by decide +kernel
theorem dX12_costNow_15 : decode cX12_costNow 15 = .ok (.iload_n 1, 1) := by decide +kernel
theorem dX12_costNow_16 : decode cX12_costNow 16 = .ok (.iconst 0, 1) := by decide +kernel
theorem dX12_costNow_17 : decode cX12_costNow 17 = .ok (.iastore, 1) := by decide +kernel
theorem dX12_costNow_18 : decode cX12_costNow 18 = .ok (.iinc 1 1, 3) := by decide +kernel
theorem dX12_costNow_21 : decode cX12_costNow 21 = .ok (.goto (-19), 3) := by decide +kernel
theorem dX12_costNow_24 : decode cX12_costNow 24 = .ok (.bipush 23, 2) := by decide +kernel
theorem dX12_costNow_26 : decode cX12_costNow 26 = .ok (.istore_n 1, 1) := by decide +kernel
theorem dX12_costNow_27 : decode cX12_costNow 27 = .ok (.iload_n 1, 1) := by decide +kernel
theorem dX12_costNow_28 : decode cX12_costNow 28 = .ok (.ifCond .lt 54, 3) := by decide +kernel
theorem dX12_costNow_31 : decode cX12_costNow 31 = .ok (.iconst 0, 1) := by decide +kernel
theorem dX12_costNow_32 : decode cX12_costNow 32 = .ok (.istore_n 2, 1) := by decide +kernel
theorem dX12_costNow_33 : decode cX12_costNow 33 = .ok (.iload_n 2, 1) := by decide +kernel
theorem dX12_costNow_34 : decode cX12_costNow 34 = .ok (.bipush 16, 2) := by decide +kernel
theorem dX12_costNow_36 : decode cX12_costNow 36 = .ok (.if_icmp .ge 40, 3) := by decide +kernel
theorem dX12_costNow_39 : decode cX12_costNow 39 = .ok (.aload_n 0, 1) := by decide +kernel
theorem dX12_costNow_40 : decode cX12_costNow 40 = .ok (.iload_n 1, 1) := by decide +kernel
theorem dX12_costNow_41 : decode cX12_costNow 41 = .ok (.iload_n 2, 1) := by decide +kernel
theorem dX12_costNow_42 : decode cX12_costNow 42 = .ok (.invokevirtual 239, 3) := by decide +kernel
theorem dX12_costNow_45 : decode cX12_costNow 45 = .ok (.istore_n 3, 1) := by decide +kernel
theorem dX12_costNow_46 : decode cX12_costNow 46 = .ok (.aload_n 0, 1) := by decide +kernel
theorem dX12_costNow_47 : decode cX12_costNow 47 = .ok (.getfield 27, 3) := by decide +kernel
theorem dX12_costNow_50 : decode cX12_costNow 50 = .ok (.iload_n 1, 1) := by decide +kernel
theorem dX12_costNow_51 : decode cX12_costNow 51 = .ok (.aaload, 1) := by decide +kernel
theorem dX12_costNow_52 : decode cX12_costNow 52 = .ok (.iload_n 2, 1) := by decide +kernel
theorem dX12_costNow_53 : decode cX12_costNow 53 = .ok (.iload_n 3, 1) := by decide +kernel
theorem dX12_costNow_54 : decode cX12_costNow 54 = .ok (.iconst (-1), 1) := by decide +kernel
theorem dX12_costNow_55 : decode cX12_costNow 55 = .ok (.if_icmp .ne 7, 3) := by decide +kernel
theorem dX12_costNow_58 : decode cX12_costNow 58 = .ok (.iconst (-1), 1) := by decide +kernel
theorem dX12_costNow_59 : decode cX12_costNow 59 = .ok (.goto 10, 3) := by decide +kernel
theorem dX12_costNow_62 : decode cX12_costNow 62 = .ok (.aload_n 0, 1) := by decide +kernel
theorem dX12_costNow_63 : decode cX12_costNow 63 = .ok (.iload_n 1, 1) := by decide +kernel
theorem dX12_costNow_64 : decode cX12_costNow 64 = .ok (.iload_n 2, 1) := by decide +kernel
theorem dX12_costNow_65 : decode cX12_costNow 65 = .ok (.iload_n 3, 1) := by decide +kernel
theorem dX12_costNow_66 : decode cX12_costNow 66 = .ok (.invokevirtual 236, 3) := by decide +kernel
theorem dX12_costNow_69 : decode cX12_costNow 69 = .ok (.iastore, 1) := by decide +kernel
theorem dX12_costNow_70 : decode cX12_costNow 70 = .ok (.iinc 2 1, 3) := by decide +kernel
theorem dX12_costNow_73 : decode cX12_costNow 73 = .ok (.goto (-40), 3) := by decide +kernel
theorem dX12_costNow_76 : decode cX12_costNow 76 = .ok (.iinc 1 (-1), 3) := by decide +kernel
theorem dX12_costNow_79 : decode cX12_costNow 79 = .ok (.goto (-52), 3) := by decide +kernel
theorem dX12_costNow_82 : decode cX12_costNow 82 = .ok (.aload_n 0, 1) := by decide +kernel
theorem dX12_costNow_83 : decode cX12_costNow 83 = .ok (.getfield 27, 3) := by decide +kernel
theorem dX12_costNow_86 : decode cX12_costNow 86 = .ok (.iconst 0, 1) := by decide +kernel
theorem dX12_costNow_87 : decode cX12_costNow 87 = .ok (.aaload, 1) := by decide +kernel
theorem dX12_costNow_88 : decode cX12_costNow 88 = .ok (.iconst 0, 1) := by decide +kernel
theorem dX12_costNow_89 : decode cX12_costNow 89 = .ok (.iaload, 1) := by decide +kernel
theorem dX12_costNow_90 : decode cX12_costNow 90 = .ok (.ireturn, 1) := by decide +kernel
set_option maxRecDepth 20000 in
theorem ggX12_cost_X12_costNow : GoodIn wsX12_cost wsX12_costNow := goodIn_r _ [6, 7, 8, 9, 10, 5, 11, 12, 13, 14, 15, 16, 17, 18, 19, 20, 21, 22, 23, 24, 25, 26, 27, 28, 29, 30, 31, 32, 33, 34, 35, 36] (by decide +kernel) (by decide +kernel)
set_option maxRecDepth 20000 in
theorem gX12_cost_X12_costNow : GoodIn wsX12_cost (wsV RX12 242 RX12 yX12_costNow wsX12_costNow) := goodIn_app (goodIn_of _ (by decide +kernel)) ggX12_cost_X12_costNow
theorem dX12_cost_0 : decode cX12_cost 0 = .ok (.aload_n 0, 1) := by decide +kernel
theorem dX12_cost_1 : decode cX12_cost 1 = .ok (.iconst 0, 1) := by decide +kernel
theorem dX12_cost_2 : decode cX12_cost 2 = .ok (.putfield 39, 3) := by decide +kernel
theorem dX12_cost_5 : decode cX12_cost 5 = .ok (.aload_n 0, 1) := by decide +kernel
theorem dX12_cost_6 : decode cX12_cost 6 = .ok (.invokevirtual 242, 3) := by decide +kernel
theorem dX12_cost_9 : decode cX12_cost 9 = .ok (.ireturn, 1) := by decide +kernel
set_option maxRecDepth 20000 in
theorem ggX12_isOn_X12_isHour : GoodIn wsX12_isOn wsX12_isHour := goodIn_r _ [4, 5, 6, 3, 7] (by decide +kernel) (by decide +kernel)
set_option maxRecDepth 20000 in
theorem gX12_isOn_X12_isHour : GoodIn wsX12_isOn (va_wsS RX12 217 yX12_isHour wsX12_isHour) := goodIn_app (goodIn_of _ (by decide +kernel)) ggX12_isOn_X12_isHour
set_option maxRecDepth 20000 in
theorem ggX12_isOn_X12_lacks : GoodIn wsX12_isOn wsX12_lacks := goodIn_r _ [11, 12, 13, 14, 15, 3, 16, 35, 36, 37, 38, 39, 40, 41, 42, 43, 44, 45, 46, 47, 48, 49, 50] (by decide +kernel) (by decide +kernel)
set_option maxRecDepth 20000 in
theorem gX12_isOn_X12_lacks : GoodIn wsX12_isOn (wsV RX12 78 RX12 yX12_lacks wsX12_lacks) := goodIn_app (goodIn_of _ (by decide +kernel)) ggX12_isOn_X12_lacks
set_option maxRecDepth 20000 in
theorem ggX12_isOn_X12_costNow : GoodIn wsX12_isOn wsX12_costNow := goodIn_r _ [20, 21, 22, 23, 24, 3, 25, 26, 27, 28, 29, 30, 31, 32, 33, 34, 35, 36, 37, 38, 39, 40, 41, 42, 43, 44, 45, 46, 47, 48, 49, 50] (by decide +kernel) (by decide +kernel)
set_option maxRecDepth 20000 in
theorem gX12_isOn_X12_costNow : GoodIn wsX12_isOn (wsV RX12 242 RX12 yX12_costNow wsX12_costNow) := goodIn_app (goodIn_of _ (by decide +kernel)) ggX12_isOn_X12_costNow
set_option maxRecDepth 20000 in
theorem ggX12_isOn_X12_no : GoodIn wsX12_isOn wsX12_no := goodIn_r _ [16, 12, 35, 36, 37, 38, 39, 40, 41, 42, 43, 44, 45, 46, 47, 48, 49, 50] (by decide +kernel) (by decide +kernel)
set_option maxRecDepth 20000 in
theorem gX12_isOn_X12_no : GoodIn wsX12_isOn (wsV RX12 43 RX12 yX12_no wsX12_no) := goodIn_app (goodIn_of _ (by decide +kernel)) ggX12_isOn_X12_no
set_option maxRecDepth 20000 in
theorem ggX12_isOn_X12_cheapest : GoodIn wsX12_isOn wsX12_cheapest := goodIn_r _ [25, 26, 27, 28, 3, 29, 21, 30, 31, 32, 33, 34, 35, 36, 37, 38, 39, 40, 41, 42, 43, 44, 45, 46, 47, 48, 49, 50] (by decide +kernel) (by decide +kernel)
set_option maxRecDepth 20000 in
theorem gX12_isOn_X12_cheapest : GoodIn wsX12_isOn (wsV RX12 239 RX12 yX12_cheapest wsX12_cheapest) := goodIn_app (goodIn_of _ (by decide +kernel)) ggX12_isOn_X12_cheapest
theorem dX12_isOn_0 : decode cX12_isOn 0 = .ok (.aload_n 0, 1) := by decide +kernel
theorem dX12_isOn_1 : decode cX12_isOn 1 = .ok (.iload_n 1, 1) := by decide +kernel
theorem dX12_isOn_2 : decode cX12_isOn 2 = .ok (.invokestatic 217, 3) := by decide +kernel
theorem dX12_isOn_5 : decode cX12_isOn 5 = .ok (.invokevirtual 78, 3) := by decide +kernel
theorem dX12_isOn_8 : decode cX12_isOn 8 = .ok (.ifCond .ne 24, 3) := by decide +kernel
theorem dX12_isOn_11 : decode cX12_isOn 11 = .ok (.aload_n 0, 1) := by decide +kernel
theorem dX12_isOn_12 : decode cX12_isOn 12 = .ok (.aload_n 0, 1) := by decide +kernel
theorem dX12_isOn_13 : decode cX12_isOn 13 = .ok (.invokevirtual 242, 3) := by decide +kernel
theorem dX12_isOn_16 : decode cX12_isOn 16 = .ok (.iconst (-1), 1) := by decide +kernel
theorem dX12_isOn_17 : decode cX12_isOn 17 = .ok (.if_icmp .eq 7, 3) := by decide +kernel
theorem dX12_isOn_20 : decode cX12_isOn 20 = .ok (.iconst 1, 1) := by decide +kernel
theorem dX12_isOn_21 : decode cX12_isOn 21 = .ok (.goto 4, 3) := by decide +kernel
theorem dX12_isOn_24 : decode cX12_isOn 24 = .ok (.iconst 0, 1) := by decide +kernel
theorem dX12_isOn_25 : decode cX12_isOn 25 = .ok (.iconst 2, 1) := by decide +kernel
theorem dX12_isOn_26 : decode cX12_isOn 26 = .ok (.invokevirtual 43, 3) := by decide +kernel
theorem dX12_isOn_29 : decode cX12_isOn 29 = .ok (.ifCond .eq 5, 3) := by decide +kernel
theorem dX12_isOn_32 : decode cX12_isOn 32 = .ok (.iconst 0, 1) := by decide +kernel
theorem dX12_isOn_33 : decode cX12_isOn 33 = .ok (.ireturn, 1) := by decide +kernel
theorem dX12_isOn_34 : decode cX12_isOn 34 = .ok (.iconst 0, 1) := by decide +kernel
theorem dX12_isOn_35 : decode cX12_isOn 35 = .ok (.istore_n 2, 1) := by decide +kernel
theorem dX12_isOn_36 : decode cX12_isOn 36 = .ok (.iconst 0, 1) := by decide +kernel
theorem dX12_isOn_37 : decode cX12_isOn 37 = .ok (.istore_n 3, 1) := by decide +kernel
theorem dX12_isOn_38 : decode cX12_isOn 38 = .ok (.iload_n 3, 1) := by decide +kernel
theorem dX12_isOn_39 : decode cX12_isOn 39 = .ok (.iload_n 1, 1) := by decide +kernel
theorem dX12_isOn_40 : decode cX12_isOn 40 = .ok (.if_icmp .gt 16, 3) := by decide +kernel
theorem dX12_isOn_43 : decode cX12_isOn 43 = .ok (.aload_n 0, 1) := by decide +kernel
theorem dX12_isOn_44 : decode cX12_isOn 44 = .ok (.iload_n 3, 1) := by decide +kernel
theorem dX12_isOn_45 : decode cX12_isOn 45 = .ok (.iload_n 2, 1) := by decide +kernel
theorem dX12_isOn_46 : decode cX12_isOn 46 = .ok (.invokevirtual 239, 3) := by decide +kernel
theorem dX12_isOn_49 : decode cX12_isOn 49 = .ok (.istore_n 2, 1) := by decide +kernel
theorem dX12_isOn_50 : decode cX12_isOn 50 = .ok (.iinc 3 1, 3) := by decide +kernel
theorem dX12_isOn_53 : decode cX12_isOn 53 = .ok (.goto (-15), 3) := by decide +kernel
theorem dX12_isOn_56 : decode cX12_isOn 56 = .ok (.iload_n 2, 1) := by decide +kernel
theorem dX12_isOn_57 : decode cX12_isOn 57 = .ok (.ireturn, 1) := by decide +kernel
set_option maxRecDepth 20000 in
theorem ggX12_isMet_X12_isAct : GoodIn wsX12_isMet wsX12_isAct := goodIn_r _ [6, 7, 8, 5, 9, 10, 11, 12, 13, 1, 18, 19, 20, 21, 22, 23, 24, 25, 26, 27, 28, 29, 30, 31, 32, 33] (by decide +kernel) (by decide +kernel)
set_option maxRecDepth 20000 in
theorem gX12_isMet_X12_isAct : GoodIn wsX12_isMet (wsV RX12 103 RX12 yX12_isAct wsX12_isAct) := goodIn_app (goodIn_of _ (by decide +kernel)) ggX12_isMet_X12_isAct
set_option maxRecDepth 20000 in
theorem ggX12_isMet_X12_its : GoodIn wsX12_isMet wsX12_its := goodIn_r _ [13, 1, 18, 19, 20, 21, 22, 23, 24, 25, 26, 27, 28, 29, 30, 31, 32, 33] (by decide +kernel) (by decide +kernel)
set_option maxRecDepth 20000 in
theorem gX12_isMet_X12_its : GoodIn wsX12_isMet (wsV RX12 51 RX12 yX12_its wsX12_its) := goodIn_app (goodIn_of _ (by decide +kernel)) ggX12_isMet_X12_its
set_option maxRecDepth 20000 in
theorem ggX12_isMet_X12_endOf : GoodIn wsX12_isMet wsX12_endOf := goodIn_r _ [17, 10, 11, 12, 5, 13, 1, 18, 19, 20, 21, 22, 23, 24, 25, 26, 27, 28, 29, 30, 31, 32, 33] (by decide +kernel) (by decide +kernel)
set_option maxRecDepth 20000 in
theorem gX12_isMet_X12_endOf : GoodIn wsX12_isMet (wsV RX12 117 RX12 yX12_endOf wsX12_endOf) := goodIn_app (goodIn_of _ (by decide +kernel)) ggX12_isMet_X12_endOf
theorem dX12_isMet_0 : decode cX12_isMet 0 = .ok (.aload_n 0, 1) := by decide +kernel
theorem dX12_isMet_1 : decode cX12_isMet 1 = .ok (.iload_n 1, 1) := by decide +kernel
theorem dX12_isMet_2 : decode cX12_isMet 2 = .ok (.invokevirtual 103, 3) := by decide +kernel
theorem dX12_isMet_5 : decode cX12_isMet 5 = .ok (.ifCond .eq 43, 3) := by decide +kernel
theorem dX12_isMet_8 : decode cX12_isMet 8 = .ok (.aload_n 0, 1) := by decide +kernel
theorem dX12_isMet_9 : decode cX12_isMet 9 = .ok (.getfield 9, 3) := by decide +kernel
theorem dX12_isMet_12 : decode cX12_isMet 12 = .ok (.iconst 3, 1) := by decide +kernel
theorem dX12_isMet_13 : decode cX12_isMet 13 = .ok (.aload_n 0, 1) := by decide +kernel
theorem dX12_isMet_14 : decode cX12_isMet 14 = .ok (.iload_n 1, 1) := by decide +kernel
theorem dX12_isMet_15 : decode cX12_isMet 15 = .ok (.iconst 1, 1) := by decide +kernel
theorem dX12_isMet_16 : decode cX12_isMet 16 = .ok (.invokevirtual 51, 3) := by decide +kernel
theorem dX12_isMet_19 : decode cX12_isMet 19 = .ok (.iadd, 1) := by decide +kernel
theorem dX12_isMet_20 : decode cX12_isMet 20 = .ok (.iaload, 1) := by decide +kernel
theorem dX12_isMet_21 : decode cX12_isMet 21 = .ok (.iconst 1, 1) := by decide +kernel
theorem dX12_isMet_22 : decode cX12_isMet 22 = .ok (.if_icmp .ne 26, 3) := by decide +kernel
theorem dX12_isMet_25 : decode cX12_isMet 25 = .ok (.aload_n 0, 1) := by decide +kernel
theorem dX12_isMet_26 : decode cX12_isMet 26 = .ok (.iload_n 1, 1) := by decide +kernel
theorem dX12_isMet_27 : decode cX12_isMet 27 = .ok (.iconst 2, 1) := by decide +kernel
theorem dX12_isMet_28 : decode cX12_isMet 28 = .ok (.invokevirtual 51, 3) := by decide +kernel
theorem dX12_isMet_31 : decode cX12_isMet 31 = .ok (.iload_n 3, 1) := by decide +kernel
theorem dX12_isMet_32 : decode cX12_isMet 32 = .ok (.if_icmp .ge 16, 3) := by decide +kernel
theorem dX12_isMet_35 : decode cX12_isMet 35 = .ok (.aload_n 0, 1) := by decide +kernel
theorem dX12_isMet_36 : decode cX12_isMet 36 = .ok (.iload_n 1, 1) := by decide +kernel
theorem dX12_isMet_37 : decode cX12_isMet 37 = .ok (.invokevirtual 117, 3) := by decide +kernel
theorem dX12_isMet_40 : decode cX12_isMet 40 = .ok (.iload_n 2, 1) := by decide +kernel
theorem dX12_isMet_41 : decode cX12_isMet 41 = .ok (.if_icmp .le 7, 3) := by decide +kernel
theorem dX12_isMet_44 : decode cX12_isMet 44 = .ok (.iconst 1, 1) := by decide +kernel
theorem dX12_isMet_45 : decode cX12_isMet 45 = .ok (.goto 4, 3) := by decide +kernel
theorem dX12_isMet_48 : decode cX12_isMet 48 = .ok (.iconst 0, 1) := by decide +kernel
theorem dX12_isMet_49 : decode cX12_isMet 49 = .ok (.ireturn, 1) := by decide +kernel
set_option maxRecDepth 20000 in
theorem ggX12_canGo_X12_isAct : GoodIn wsX12_canGo wsX12_isAct := goodIn_r _ [7, 8, 9, 6, 10, 11, 12, 13, 14, 1, 23, 24, 25, 26, 27, 28, 29, 30, 31, 32, 33, 34, 35, 36, 37, 38] (by decide +kernel) (by decide +kernel)
set_option maxRecDepth 20000 in
theorem gX12_canGo_X12_isAct : GoodIn wsX12_canGo (wsV RX12 103 RX12 yX12_isAct wsX12_isAct) := goodIn_app (goodIn_of _ (by decide +kernel)) ggX12_canGo_X12_isAct
set_option maxRecDepth 20000 in
theorem ggX12_canGo_X12_piecesMeet : GoodIn wsX12_canGo wsX12_piecesMeet := goodIn_r _ [18, 11, 12, 13, 6, 14, 1, 19, 20, 21, 22, 23, 24, 25, 26, 27, 28, 29, 30, 31, 32, 33, 34, 35, 36, 37, 38] (by decide +kernel) (by decide +kernel)
set_option maxRecDepth 20000 in
theorem gX12_canGo_X12_piecesMeet : GoodIn wsX12_canGo (wsV RX12 120 RX12 yX12_piecesMeet wsX12_piecesMeet) := goodIn_app (goodIn_of _ (by decide +kernel)) ggX12_canGo_X12_piecesMeet
set_option maxRecDepth 20000 in
theorem ggX12_canGo_X12_its : GoodIn wsX12_canGo wsX12_its := goodIn_r _ [14, 1, 23, 24, 25, 26, 27, 28, 29, 30, 31, 32, 33, 34, 35, 36, 37, 38] (by decide +kernel) (by decide +kernel)
set_option maxRecDepth 20000 in
theorem gX12_canGo_X12_its : GoodIn wsX12_canGo (wsV RX12 51 RX12 yX12_its wsX12_its) := goodIn_app (goodIn_of _ (by decide +kernel)) ggX12_canGo_X12_its
theorem dX12_canGo_0 : decode cX12_canGo 0 = .ok (.aload_n 0, 1) := by decide +kernel
theorem dX12_canGo_1 : decode cX12_canGo 1 = .ok (.getfield 9, 3) := by decide +kernel
theorem dX12_canGo_4 : decode cX12_canGo 4 = .ok (.iconst 3, 1) := by decide +kernel
theorem dX12_canGo_5 : decode cX12_canGo 5 = .ok (.iload_n 2, 1) := by decide +kernel
theorem dX12_canGo_6 : decode cX12_canGo 6 = .ok (.iadd, 1) := by decide +kernel
theorem dX12_canGo_7 : decode cX12_canGo 7 = .ok (.iaload, 1) := by decide +kernel
theorem dX12_canGo_8 : decode cX12_canGo 8 = .ok (.iconst 1, 1) := by decide +kernel
theorem dX12_canGo_9 : decode cX12_canGo 9 = .ok (.if_icmp .ne 5, 3) := by decide +kernel
theorem dX12_canGo_12 : decode cX12_canGo 12 = .ok (.iconst 0, 1) := by decide +kernel
theorem dX12_canGo_13 : decode cX12_canGo 13 = .ok (.ireturn, 1) := by decide +kernel
theorem dX12_canGo_14 : decode cX12_canGo 14 = .ok (.iconst 0, 1) := by decide +kernel
theorem dX12_canGo_15 : decode cX12_canGo 15 = .ok (.istore_n 3, 1) := by decide +kernel
theorem dX12_canGo_16 : decode cX12_canGo 16 = .ok (.iload_n 3, 1) := by decide +kernel
theorem dX12_canGo_17 : decode cX12_canGo 17 = .ok (.bipush 16, 2) := by decide +kernel
theorem dX12_canGo_19 : decode cX12_canGo 19 = .ok (.if_icmp .ge 86, 3) := by decide +kernel
theorem dX12_canGo_22 : decode cX12_canGo 22 = .ok (.iload_n 3, 1) := by decide +kernel
theorem dX12_canGo_23 : decode cX12_canGo 23 = .ok (.iload_n 1, 1) := by decide +kernel
theorem dX12_canGo_24 : decode cX12_canGo 24 = .ok (.if_icmp .eq 75, 3) := by decide +kernel
theorem dX12_canGo_27 : decode cX12_canGo 27 = .ok (.aload_n 0, 1) := by decide +kernel
theorem dX12_canGo_28 : decode cX12_canGo 28 = .ok (.iload_n 3, 1) := by decide +kernel
theorem dX12_canGo_29 : decode cX12_canGo 29 = .ok (.invokevirtual 103, 3) := by decide +kernel
theorem dX12_canGo_32 : decode cX12_canGo 32 = .ok (.ifCond .eq 67, 3) := by decide +kernel
theorem dX12_canGo_35 : decode cX12_canGo 35 = .ok (.aload_n 0, 1) := by decide +kernel
theorem dX12_canGo_36 : decode cX12_canGo 36 = .ok (.iload_n 3, 1) := by decide +kernel
theorem dX12_canGo_37 : decode cX12_canGo 37 = .ok (.iload_n 1, 1) := by decide +kernel
theorem dX12_canGo_38 : decode cX12_canGo 38 = .ok (.invokevirtual 120, 3) := by decide +kernel
theorem dX12_canGo_41 : decode cX12_canGo 41 = .ok (.ifCond .ne 6, 3) := by decide +kernel
theorem dX12_canGo_44 : decode cX12_canGo 44 = .ok (.goto 55, 3) := by decide +kernel
theorem dX12_canGo_47 : decode cX12_canGo 47 = .ok (.aload_n 0, 1) := by decide +kernel
theorem dX12_canGo_48 : decode cX12_canGo 48 = .ok (.getfield 33, 3) := by decide +kernel
theorem dX12_canGo_51 : decode cX12_canGo 51 = .ok (.iload_n 3, 1) := by decide +kernel
theorem dX12_canGo_52 : decode cX12_canGo 52 = .ok (.iaload, 1) := by decide +kernel
theorem dX12_canGo_53 : decode cX12_canGo 53 = .ok (.iconst (-1), 1) := by decide +kernel
theorem dX12_canGo_54 : decode cX12_canGo 54 = .ok (.if_icmp .eq 7, 3) := by decide +kernel
theorem dX12_canGo_57 : decode cX12_canGo 57 = .ok (.iconst 1, 1) := by decide +kernel
theorem dX12_canGo_58 : decode cX12_canGo 58 = .ok (.goto 4, 3) := by decide +kernel
theorem dX12_canGo_61 : decode cX12_canGo 61 = .ok (.iconst 0, 1) := by decide +kernel
theorem dX12_canGo_62 : decode cX12_canGo 62 = .ok (.istore 4, 2) := by decide +kernel
theorem dX12_canGo_64 : decode cX12_canGo 64 = .ok (.iload 4, 2) := by decide +kernel
theorem dX12_canGo_66 : decode cX12_canGo 66 = .ok (.ifCond .eq 21, 3) := by decide +kernel
theorem dX12_canGo_69 : decode cX12_canGo 69 = .ok (.iload_n 3, 1) := by decide +kernel
theorem dX12_canGo_70 : decode cX12_canGo 70 = .ok (.iload_n 1, 1) := by decide +kernel
theorem dX12_canGo_71 : decode cX12_canGo 71 = .ok (.if_icmp .ge 28, 3) := by decide +kernel
theorem dX12_canGo_74 : decode cX12_canGo 74 = .ok (.aload_n 0, 1) := by decide +kernel
theorem dX12_canGo_75 : decode cX12_canGo 75 = .ok (.getfield 33, 3) := by decide +kernel
theorem dX12_canGo_78 : decode cX12_canGo 78 = .ok (.iload_n 3, 1) := by decide +kernel
theorem dX12_canGo_79 : decode cX12_canGo 79 = .ok (.iaload, 1) := by decide +kernel
theorem dX12_canGo_80 : decode cX12_canGo 80 = .ok (.iload_n 2, 1) := by decide +kernel
theorem dX12_canGo_81 : decode cX12_canGo 81 = .ok (.if_icmp .ne 18, 3) := by decide +kernel
theorem dX12_canGo_84 : decode cX12_canGo 84 = .ok (.goto 13, 3) := by decide +kernel
theorem dX12_canGo_87 : decode cX12_canGo 87 = .ok (.aload_n 0, 1) := by decide +kernel
theorem dX12_canGo_88 : decode cX12_canGo 88 = .ok (.iload_n 3, 1) := by decide +kernel
theorem dX12_canGo_89 : decode cX12_canGo 89 = .ok (.iconst 1, 1) := by decide +kernel
theorem dX12_canGo_90 : decode cX12_canGo 90 = .ok (.invokevirtual 51, 3) := by decide +kernel
theorem dX12_canGo_93 : decode cX12_canGo 93 = .ok (.iload_n 2, 1) := by decide +kernel
theorem dX12_canGo_94 : decode cX12_canGo 94 = .ok (.if_icmp .ne 5, 3) := by decide +kernel
theorem dX12_canGo_97 : decode cX12_canGo 97 = .ok (.iconst 0, 1) := by decide +kernel
theorem dX12_canGo_98 : decode cX12_canGo 98 = .ok (.ireturn, 1) := by decide +kernel
theorem dX12_canGo_99 : decode cX12_canGo 99 = .ok (.iinc 3 1, 3) := by decide +kernel
theorem dX12_canGo_102 : decode cX12_canGo 102 = .ok (.goto (-86), 3) := by decide +kernel
theorem dX12_canGo_105 : decode cX12_canGo 105 = .ok (.iconst 1, 1) := by decide +kernel
theorem dX12_canGo_106 : decode cX12_canGo 106 = .ok (.ireturn, 1) := by decide +kernel
set_option maxRecDepth 20000 in
theorem ggX12_triesPlans_X12_triesPlans : GoodIn wsX12_triesPlans wsX12_triesPlans := goodIn_r _ [0, 1, 2, 3, 4, 5, 6, 7, 8, 9, 10, 11, 12, 13, 14, 15, 16, 17, 18, 19, 20, 21, 22, 23, 24, 25, 26, 27, 28, 29, 30, 31, 32, 33, 34, 35, 36, 37, 38, 39, 40, 41, 42, 43, 44, 45, 46, 47, 48, 49, 50, 51] (by decide +kernel) (by decide +kernel)
set_option maxRecDepth 20000 in
theorem gX12_triesPlans_X12_triesPlans : GoodIn wsX12_triesPlans (wsV RX12 248 RX12 yX12_triesPlans wsX12_triesPlans) := goodIn_app (goodIn_of _ (by decide +kernel)) ggX12_triesPlans_X12_triesPlans
set_option maxRecDepth 20000 in
theorem ggX12_triesPlans_X12_canGo : GoodIn wsX12_triesPlans wsX12_canGo := goodIn_r _ [15, 16, 2, 17, 18, 19, 11, 20, 21, 22, 23, 24, 25, 26, 27, 28, 29, 30, 31, 32, 33, 34, 35, 36, 37, 38, 39, 40, 41, 42, 43, 44, 45, 46, 47, 48, 49, 50, 51] (by decide +kernel) (by decide +kernel)
set_option maxRecDepth 20000 in
theorem gX12_triesPlans_X12_canGo : GoodIn wsX12_triesPlans (wsV RX12 251 RX12 yX12_canGo wsX12_canGo) := goodIn_app (goodIn_of _ (by decide +kernel)) ggX12_triesPlans_X12_canGo
theorem dX12_triesPlans_0 : decode cX12_triesPlans 0 = .ok (.iload_n 2, 1) := by decide +kernel
theorem dX12_triesPlans_1 : decode cX12_triesPlans 1 = .ok (.aload_n 0, 1) := by decide +kernel
theorem dX12_triesPlans_2 : decode cX12_triesPlans 2 = .ok (.getfield 245, 3) := by decide +kernel
theorem dX12_triesPlans_5 : decode cX12_triesPlans 5 = .ok (.if_icmp .lt 4, 3) := by decide +kernel
theorem dX12_triesPlans_8 : decode cX12_triesPlans 8 = .ok (.return_, 1) := by decide +kernel
theorem dX12_triesPlans_9 : decode cX12_triesPlans 9 = .ok (.iload_n 1, 1) := by decide +kernel
theorem dX12_triesPlans_10 : decode cX12_triesPlans 10 = .ok (.bipush 16, 2) := by decide +kernel
theorem dX12_triesPlans_12 : decode cX12_triesPlans 12 = .ok (.if_icmp .ne 24, 3) := by decide +kernel
theorem dX12_triesPlans_15 : decode cX12_triesPlans 15 = .ok (.aload_n 0, 1) := by decide +kernel
theorem dX12_triesPlans_16 : decode cX12_triesPlans 16 = .ok (.iload_n 2, 1) := by decide +kernel
theorem dX12_triesPlans_17 : decode cX12_triesPlans 17 = .ok (.putfield 245, 3) := by decide +kernel
theorem dX12_triesPlans_20 : decode cX12_triesPlans 20 = .ok (.aload_n 0, 1) := by decide +kernel
theorem dX12_triesPlans_21 : decode cX12_triesPlans 21 = .ok (.getfield 33, 3) := by decide +kernel
theorem dX12_triesPlans_24 : decode cX12_triesPlans 24 = .ok (.iconst 0, 1) := by decide +kernel
theorem dX12_triesPlans_25 : decode cX12_triesPlans 25 = .ok (.aload_n 0, 1) := by decide +kernel
theorem dX12_triesPlans_26 : decode cX12_triesPlans 26 = .ok (.getfield 36, 3) := by decide +kernel
theorem dX12_triesPlans_29 : decode cX12_triesPlans 29 = .ok (.iconst 0, 1) := by decide +kernel
theorem dX12_triesPlans_30 : decode cX12_triesPlans 30 = .ok (.bipush 16, 2) := by decide +kernel
theorem dX12_triesPlans_32 : decode cX12_triesPlans 32 = .ok (.invokestatic 58, 3) := by decide +kernel
theorem dX12_triesPlans_35 : decode cX12_triesPlans 35 = .ok (.return_, 1) := by decide +kernel
theorem dX12_triesPlans_36 : decode cX12_triesPlans 36 = .ok (.aload_n 0, 1) := by decide +kernel
theorem dX12_triesPlans_37 : decode cX12_triesPlans 37 = .ok (.getfield 33, 3) := by decide +kernel
theorem dX12_triesPlans_40 : decode cX12_triesPlans 40 = .ok (.iload_n 1, 1) := by decide +kernel
theorem dX12_triesPlans_41 : decode cX12_triesPlans 41 = .ok (.iaload, 1) := by decide +kernel
theorem dX12_triesPlans_42 : decode cX12_triesPlans 42 = .ok (.iconst (-1), 1) := by decide +kernel
theorem dX12_triesPlans_43 : decode cX12_triesPlans 43 = .ok (.if_icmp .ne 12, 3) := by decide +kernel
theorem dX12_triesPlans_46 : decode cX12_triesPlans 46 = .ok (.aload_n 0, 1) := by decide +kernel
theorem dX12_triesPlans_47 : decode cX12_triesPlans 47 = .ok (.iload_n 1, 1) := by decide +kernel
theorem dX12_triesPlans_48 : decode cX12_triesPlans 48 = .ok (.iconst 1, 1) := by decide +kernel
theorem dX12_triesPlans_49 : decode cX12_triesPlans 49 = .ok (.iadd, 1) := by decide +kernel
theorem dX12_triesPlans_50 : decode cX12_triesPlans 50 = .ok (.iload_n 2, 1) := by decide +kernel
theorem dX12_triesPlans_51 : decode cX12_triesPlans 51 = .ok (.invokevirtual 248, 3) := by decide +kernel
theorem dX12_triesPlans_54 : decode cX12_triesPlans 54 = .ok (.return_, 1) := by decide +kernel
theorem dX12_triesPlans_55 : decode cX12_triesPlans 55 = .ok (.iconst 0, 1) := by decide +kernel
theorem dX12_triesPlans_56 : decode cX12_triesPlans 56 = .ok (.istore_n 3, 1) := by decide +kernel
theorem dX12_triesPlans_57 : decode cX12_triesPlans 57 = .ok (.iload_n 3, 1) := by decide +kernel
theorem dX12_triesPlans_58 : decode cX12_triesPlans 58 = .ok (.iconst 4, 1) := by decide +kernel
theorem dX12_triesPlans_59 : decode cX12_triesPlans 59 = .ok (.if_icmp .ge 36, 3) := by decide +kernel
theorem dX12_triesPlans_62 : decode cX12_triesPlans 62 = .ok (.aload_n 0, 1) := by decide +kernel
theorem dX12_triesPlans_63 : decode cX12_triesPlans 63 = .ok (.iload_n 1, 1) := by decide +kernel
theorem dX12_triesPlans_64 : decode cX12_triesPlans 64 = .ok (.iload_n 3, 1) := by decide +kernel
theorem dX12_triesPlans_65 : decode cX12_triesPlans 65 = .ok (.invokevirtual 251, 3) := by decide +kernel
theorem dX12_triesPlans_68 : decode cX12_triesPlans 68 = .ok (.ifCond .ne 6, 3) := by decide +kernel
theorem dX12_triesPlans_71 : decode cX12_triesPlans 71 = .ok (.goto 18, 3) := by decide +kernel
theorem dX12_triesPlans_74 : decode cX12_triesPlans 74 = .ok (.aload_n 0, 1) := by decide +kernel
theorem dX12_triesPlans_75 : decode cX12_triesPlans 75 = .ok (.getfield 33, 3) := by decide +kernel
theorem dX12_triesPlans_78 : decode cX12_triesPlans 78 = .ok (.iload_n 1, 1) := by decide +kernel
theorem dX12_triesPlans_79 : decode cX12_triesPlans 79 = .ok (.iload_n 3, 1) := by decide +kernel
theorem dX12_triesPlans_80 : decode cX12_triesPlans 80 = .ok (.iastore, 1) := by decide +kernel
theorem dX12_triesPlans_81 : decode cX12_triesPlans 81 = .ok (.aload_n 0, 1) := by decide +kernel
theorem dX12_triesPlans_82 : decode cX12_triesPlans 82 = .ok (.iload_n 1, 1) := by decide +kernel
theorem dX12_triesPlans_83 : decode cX12_triesPlans 83 = .ok (.iconst 1, 1) := by decide +kernel
theorem dX12_triesPlans_84 : decode cX12_triesPlans 84 = .ok (.iadd, 1) := by decide +kernel
theorem dX12_triesPlans_85 : decode cX12_triesPlans 85 = .ok (.iload_n 2, 1) := by decide +kernel
theorem dX12_triesPlans_86 : decode cX12_triesPlans 86 = .ok (.invokevirtual 248, 3) := by decide +kernel
theorem dX12_triesPlans_89 : decode cX12_triesPlans 89 = .ok (.iinc 3 1, 3) := by decide +kernel
theorem dX12_triesPlans_92 : decode cX12_triesPlans 92 = .ok (.goto (-35), 3) := by decide +kernel
theorem dX12_triesPlans_95 : decode cX12_triesPlans 95 = .ok (.aload_n 0, 1) := by decide +kernel
theorem dX12_triesPlans_96 : decode cX12_triesPlans 96 = .ok (.getfield 33, 3) := by decide +kernel
theorem dX12_triesPlans_99 : decode cX12_triesPlans 99 = .ok (.iload_n 1, 1) := by decide +kernel
theorem dX12_triesPlans_100 : decode cX12_triesPlans 100 = .ok (.iconst 4, 1) := by decide +kernel
theorem dX12_triesPlans_101 : decode cX12_triesPlans 101 = .ok (.iastore, 1) := by decide +kernel
theorem dX12_triesPlans_102 : decode cX12_triesPlans 102 = .ok (.aload_n 0, 1) := by decide +kernel
theorem dX12_triesPlans_103 : decode cX12_triesPlans 103 = .ok (.iload_n 1, 1) := by decide +kernel
theorem dX12_triesPlans_104 : decode cX12_triesPlans 104 = .ok (.iconst 1, 1) := by decide +kernel
theorem dX12_triesPlans_105 : decode cX12_triesPlans 105 = .ok (.iadd, 1) := by decide +kernel
theorem dX12_triesPlans_106 : decode cX12_triesPlans 106 = .ok (.iload_n 2, 1) := by decide +kernel
theorem dX12_triesPlans_107 : decode cX12_triesPlans 107 = .ok (.iconst 1, 1) := by decide +kernel
theorem dX12_triesPlans_108 : decode cX12_triesPlans 108 = .ok (.iadd, 1) := by decide +kernel
theorem dX12_triesPlans_109 : decode cX12_triesPlans 109 = .ok (.invokevirtual 248, 3) := by decide +kernel
theorem dX12_triesPlans_112 : decode cX12_triesPlans 112 = .ok (.return_, 1) := by decide +kernel
set_option maxRecDepth 20000 in
theorem ggX12_rain_X12_in : GoodIn wsX12_rain wsX12_in := goodIn_r _ [13] (by decide +kernel) (by decide +kernel)
set_option maxRecDepth 20000 in
theorem gX12_rain_X12_in : GoodIn wsX12_rain (va_wsS RX12 47 yX12_in wsX12_in) := goodIn_app (goodIn_of _ (by decide +kernel)) ggX12_rain_X12_in
set_option maxRecDepth 20000 in
theorem ggX12_rain_X12_lacks : GoodIn wsX12_rain wsX12_lacks := goodIn_r _ [17, 18, 19, 20, 21, 12, 22, 52, 53, 54, 55, 56, 57, 58, 59, 60, 61, 62, 63, 64, 65, 66, 67] (by decide +kernel) (by decide +kernel)
set_option maxRecDepth 20000 in
theorem gX12_rain_X12_lacks : GoodIn wsX12_rain (wsV RX12 78 RX12 yX12_lacks wsX12_lacks) := goodIn_app (goodIn_of _ (by decide +kernel)) ggX12_rain_X12_lacks
set_option maxRecDepth 20000 in
theorem ggX12_rain_X12_isMet : GoodIn wsX12_rain wsX12_isMet := goodIn_r _ [26, 27, 28, 29, 30, 12, 31, 10, 11, 13, 32, 33, 34, 35, 36, 37, 38, 39, 52, 53, 54, 55, 56, 57, 58, 59, 60, 61, 62, 63, 64, 65, 66, 67] (by decide +kernel) (by decide +kernel)
set_option maxRecDepth 20000 in
theorem gX12_rain_X12_isMet : GoodIn wsX12_rain (wsV RX12 254 RX12 yX12_isMet wsX12_isMet) := goodIn_app (goodIn_of _ (by decide +kernel)) ggX12_rain_X12_isMet
set_option maxRecDepth 20000 in
theorem ggX12_rain_X12_no : GoodIn wsX12_rain wsX12_no := goodIn_r _ [22, 18, 52, 53, 54, 55, 56, 57, 58, 59, 60, 61, 62, 63, 64, 65, 66, 67] (by decide +kernel) (by decide +kernel)
set_option maxRecDepth 20000 in
theorem gX12_rain_X12_no : GoodIn wsX12_rain (wsV RX12 43 RX12 yX12_no wsX12_no) := goodIn_app (goodIn_of _ (by decide +kernel)) ggX12_rain_X12_no
set_option maxRecDepth 20000 in
theorem ggX12_rain_X12_triesPlans : GoodIn wsX12_rain wsX12_triesPlans := goodIn_r _ [43, 2, 1, 3, 5, 6, 7, 8, 40, 41, 42, 12, 44, 45, 46, 47, 27, 28, 29, 30, 31, 10, 11, 13, 32, 33, 34, 35, 48, 49, 50, 51, 36, 37, 38, 39, 52, 53, 54, 55, 56, 57, 58, 59, 60, 61, 62, 63, 64, 65, 66, 67] (by decide +kernel) (by decide +kernel)
set_option maxRecDepth 20000 in
theorem gX12_rain_X12_triesPlans : GoodIn wsX12_rain (wsV RX12 248 RX12 yX12_triesPlans wsX12_triesPlans) := goodIn_app (goodIn_of _ (by decide +kernel)) ggX12_rain_X12_triesPlans
theorem dX12_rain_0 : decode cX12_rain 0 = .ok (.aload_n 0, 1) := by decide +kernel
theorem dX12_rain_1 : decode cX12_rain 1 = .ok (.iload_n 1, 1) := by decide +kernel
theorem dX12_rain_2 : decode cX12_rain 2 = .ok (.iconst 0, 1) := by decide +kernel
theorem dX12_rain_3 : decode cX12_rain 3 = .ok (.sipush 5759, 3) := by decide +kernel
theorem dX12_rain_6 : decode cX12_rain 6 = .ok (.invokestatic 47, 3) := by decide +kernel
theorem dX12_rain_9 : decode cX12_rain 9 = .ok (.ifCond .eq 20, 3) := by decide +kernel
theorem dX12_rain_12 : decode cX12_rain 12 = .ok (.iload_n 2, 1) := by decide +kernel
theorem dX12_rain_13 : decode cX12_rain 13 = .ok (.iload_n 1, 1) := by decide +kernel
theorem dX12_rain_14 : decode cX12_rain 14 = .ok (.iconst 1, 1) := by decide +kernel
theorem dX12_rain_15 : decode cX12_rain 15 = .ok (.iadd, 1) := by decide +kernel
theorem dX12_rain_16 : decode cX12_rain 16 = .ok (.sipush 5760, 3) := by decide +kernel
theorem dX12_rain_19 : decode cX12_rain 19 = .ok (.invokestatic 47, 3) := by decide +kernel
theorem dX12_rain_22 : decode cX12_rain 22 = .ok (.ifCond .eq 7, 3) := by decide +kernel
theorem dX12_rain_25 : decode cX12_rain 25 = .ok (.iconst 1, 1) := by decide +kernel
theorem dX12_rain_26 : decode cX12_rain 26 = .ok (.goto 4, 3) := by decide +kernel
theorem dX12_rain_29 : decode cX12_rain 29 = .ok (.iconst 0, 1) := by decide +kernel
theorem dX12_rain_30 : decode cX12_rain 30 = .ok (.invokevirtual 78, 3) := by decide +kernel
theorem dX12_rain_33 : decode cX12_rain 33 = .ok (.ifCond .eq 5, 3) := by decide +kernel
theorem dX12_rain_36 : decode cX12_rain 36 = .ok (.iconst 0, 1) := by decide +kernel
theorem dX12_rain_37 : decode cX12_rain 37 = .ok (.ireturn, 1) := by decide +kernel
theorem dX12_rain_38 : decode cX12_rain 38 = .ok (.iconst 0, 1) := by decide +kernel
theorem dX12_rain_39 : decode cX12_rain 39 = .ok (.istore_n 3, 1) := by decide +kernel
theorem dX12_rain_40 : decode cX12_rain 40 = .ok (.iconst 0, 1) := by decide +kernel
theorem dX12_rain_41 : decode cX12_rain 41 = .ok (.istore 4, 2) := by decide +kernel
theorem dX12_rain_43 : decode cX12_rain 43 = .ok (.iload 4, 2) := by decide +kernel
theorem dX12_rain_45 : decode cX12_rain 45 = .ok (.bipush 16, 2) := by decide +kernel
theorem dX12_rain_47 : decode cX12_rain 47 = .ok (.if_icmp .ge 28, 3) := by decide +kernel
theorem dX12_rain_50 : decode cX12_rain 50 = .ok (.iload_n 3, 1) := by decide +kernel
theorem dX12_rain_51 : decode cX12_rain 51 = .ok (.aload_n 0, 1) := by decide +kernel
theorem dX12_rain_52 : decode cX12_rain 52 = .ok (.iload 4, 2) := by decide +kernel
theorem dX12_rain_54 : decode cX12_rain 54 = .ok (.iload_n 1, 1) := by decide +kernel
theorem dX12_rain_55 : decode cX12_rain 55 = .ok (.iload_n 2, 1) := by decide +kernel
theorem dX12_rain_56 : decode cX12_rain 56 = .ok (.invokevirtual 254, 3) := by decide +kernel
theorem dX12_rain_59 : decode cX12_rain 59 = .ok (.ifCond .eq 7, 3) := by decide +kernel
theorem dX12_rain_62 : decode cX12_rain 62 = .ok (.iconst 1, 1) := by decide +kernel
theorem dX12_rain_63 : decode cX12_rain 63 = .ok (.goto 4, 3) := by decide +kernel
theorem dX12_rain_66 : decode cX12_rain 66 = .ok (.iconst 0, 1) := by decide +kernel
theorem dX12_rain_67 : decode cX12_rain 67 = .ok (.iadd, 1) := by decide +kernel
theorem dX12_rain_68 : decode cX12_rain 68 = .ok (.istore_n 3, 1) := by decide +kernel
theorem dX12_rain_69 : decode cX12_rain 69 = .ok (.iinc 4 1, 3) := by decide +kernel
theorem dX12_rain_72 : decode cX12_rain 72 = .ok (.goto (-29), 3) := by decide +kernel
theorem dX12_rain_75 : decode cX12_rain 75 = .ok (.aload_n 0, 1) := by decide +kernel
theorem dX12_rain_76 : decode cX12_rain 76 = .ok (.iload_n 3, 1) := by decide +kernel
theorem dX12_rain_77 : decode cX12_rain 77 = .ok (.bipush 6, 2) := by decide +kernel
theorem dX12_rain_79 : decode cX12_rain 79 = .ok (.if_icmp .gt 7, 3) := by decide +kernel
theorem dX12_rain_82 : decode cX12_rain 82 = .ok (.iconst 1, 1) := by decide +kernel
theorem dX12_rain_83 : decode cX12_rain 83 = .ok (.goto 4, 3) := by decide +kernel
theorem dX12_rain_86 : decode cX12_rain 86 = .ok (.iconst 0, 1) := by decide +kernel
theorem dX12_rain_87 : decode cX12_rain 87 = .ok (.iconst 2, 1) := by decide +kernel
theorem dX12_rain_88 : decode cX12_rain 88 = .ok (.invokevirtual 43, 3) := by decide +kernel
theorem dX12_rain_91 : decode cX12_rain 91 = .ok (.ifCond .eq 5, 3) := by decide +kernel
theorem dX12_rain_94 : decode cX12_rain 94 = .ok (.iconst 0, 1) := by decide +kernel
theorem dX12_rain_95 : decode cX12_rain 95 = .ok (.ireturn, 1) := by decide +kernel
theorem dX12_rain_96 : decode cX12_rain 96 = .ok (.iconst 0, 1) := by decide +kernel
theorem dX12_rain_97 : decode cX12_rain 97 = .ok (.istore 4, 2) := by decide +kernel
theorem dX12_rain_99 : decode cX12_rain 99 = .ok (.iload 4, 2) := by decide +kernel
theorem dX12_rain_101 : decode cX12_rain 101 = .ok (.bipush 16, 2) := by decide +kernel
theorem dX12_rain_103 : decode cX12_rain 103 = .ok (.if_icmp .ge 32, 3) := by decide +kernel
theorem dX12_rain_106 : decode cX12_rain 106 = .ok (.aload_n 0, 1) := by decide +kernel
theorem dX12_rain_107 : decode cX12_rain 107 = .ok (.getfield 33, 3) := by decide +kernel
theorem dX12_rain_110 : decode cX12_rain 110 = .ok (.iload 4, 2) := by decide +kernel
theorem dX12_rain_112 : decode cX12_rain 112 = .ok (.aload_n 0, 1) := by decide +kernel
theorem dX12_rain_113 : decode cX12_rain 113 = .ok (.iload 4, 2) := by decide +kernel
theorem dX12_rain_115 : decode cX12_rain 115 = .ok (.iload_n 1, 1) := by decide +kernel
theorem dX12_rain_116 : decode cX12_rain 116 = .ok (.iload_n 2, 1) := by decide +kernel
theorem dX12_rain_117 : decode cX12_rain 117 = .ok (.invokevirtual 254, 3) := by decide +kernel
theorem dX12_rain_120 : decode cX12_rain 120 = .ok (.ifCond .eq 7, 3) := by decide +kernel
theorem dX12_rain_123 : decode cX12_rain 123 = .ok (.iconst 4, 1) := by decide +kernel
theorem dX12_rain_124 : decode cX12_rain 124 = .ok (.goto 4, 3) := by decide +kernel
theorem dX12_rain_127 : decode cX12_rain 127 = .ok (.iconst (-1), 1) := by decide +kernel
theorem dX12_rain_128 : decode cX12_rain 128 = .ok (.iastore, 1) := by decide +kernel
theorem dX12_rain_129 : decode cX12_rain 129 = .ok (.iinc 4 1, 3) := by decide +kernel
theorem dX12_rain_132 : decode cX12_rain 132 = .ok (.goto (-33), 3) := by decide +kernel
theorem dX12_rain_135 : decode cX12_rain 135 = .ok (.aload_n 0, 1) := by decide +kernel
theorem dX12_rain_136 : decode cX12_rain 136 = .ok (.iload_n 3, 1) := by decide +kernel
theorem dX12_rain_137 : decode cX12_rain 137 = .ok (.iconst 1, 1) := by decide +kernel
theorem dX12_rain_138 : decode cX12_rain 138 = .ok (.iadd, 1) := by decide +kernel
theorem dX12_rain_139 : decode cX12_rain 139 = .ok (.putfield 245, 3) := by decide +kernel
theorem dX12_rain_142 : decode cX12_rain 142 = .ok (.aload_n 0, 1) := by decide +kernel
theorem dX12_rain_143 : decode cX12_rain 143 = .ok (.iconst 0, 1) := by decide +kernel
theorem dX12_rain_144 : decode cX12_rain 144 = .ok (.iconst 0, 1) := by decide +kernel
theorem dX12_rain_145 : decode cX12_rain 145 = .ok (.invokevirtual 248, 3) := by decide +kernel
theorem dX12_rain_148 : decode cX12_rain 148 = .ok (.aload_n 0, 1) := by decide +kernel
theorem dX12_rain_149 : decode cX12_rain 149 = .ok (.getfield 36, 3) := by decide +kernel
theorem dX12_rain_152 : decode cX12_rain 152 = .ok (.iconst 0, 1) := by decide +kernel
theorem dX12_rain_153 : decode cX12_rain 153 = .ok (.aload_n 0, 1) := by decide +kernel
theorem dX12_rain_154 : decode cX12_rain 154 = .ok (.getfield 30, 3) := by decide +kernel
theorem dX12_rain_157 : decode cX12_rain 157 = .ok (.iconst 0, 1) := by decide +kernel
theorem dX12_rain_158 : decode cX12_rain 158 = .ok (.bipush 16, 2) := by decide +kernel
theorem dX12_rain_160 : decode cX12_rain 160 = .ok (.invokestatic 58, 3) := by decide +kernel
theorem dX12_rain_163 : decode cX12_rain 163 = .ok (.aload_n 0, 1) := by decide +kernel
theorem dX12_rain_164 : decode cX12_rain 164 = .ok (.iconst 1, 1) := by decide +kernel
theorem dX12_rain_165 : decode cX12_rain 165 = .ok (.putfield 64, 3) := by decide +kernel
theorem dX12_rain_168 : decode cX12_rain 168 = .ok (.aload_n 0, 1) := by decide +kernel
theorem dX12_rain_169 : decode cX12_rain 169 = .ok (.getfield 245, 3) := by decide +kernel
theorem dX12_rain_172 : decode cX12_rain 172 = .ok (.ireturn, 1) := by decide +kernel
set_option maxRecDepth 20000 in
theorem ggX12_movedTo_X12_isAct : GoodIn wsX12_movedTo wsX12_isAct := goodIn_r _ [7, 8, 9, 6, 10, 11, 12, 13, 14, 15, 25, 26, 27, 28, 29, 30, 31, 32, 33, 34, 35, 36, 37, 38, 39, 40] (by decide +kernel) (by decide +kernel)
set_option maxRecDepth 20000 in
theorem gX12_movedTo_X12_isAct : GoodIn wsX12_movedTo (wsV RX12 103 RX12 yX12_isAct wsX12_isAct) := goodIn_app (goodIn_of _ (by decide +kernel)) ggX12_movedTo_X12_isAct
set_option maxRecDepth 20000 in
theorem ggX12_movedTo_X12_lacks : GoodIn wsX12_movedTo wsX12_lacks := goodIn_r _ [19, 20, 21, 22, 23, 6, 24, 25, 26, 27, 28, 29, 30, 31, 32, 33, 34, 35, 36, 37, 38, 39, 40] (by decide +kernel) (by decide +kernel)
set_option maxRecDepth 20000 in
theorem gX12_movedTo_X12_lacks : GoodIn wsX12_movedTo (wsV RX12 78 RX12 yX12_lacks wsX12_lacks) := goodIn_app (goodIn_of _ (by decide +kernel)) ggX12_movedTo_X12_lacks
theorem dX12_movedTo_0 : decode cX12_movedTo 0 = .ok (.aload_n 0, 1) := by decide +kernel
theorem dX12_movedTo_1 : decode cX12_movedTo 1 = .ok (.aload_n 0, 1) := by decide +kernel
theorem dX12_movedTo_2 : decode cX12_movedTo 2 = .ok (.iload_n 1, 1) := by decide +kernel
theorem dX12_movedTo_3 : decode cX12_movedTo 3 = .ok (.invokevirtual 103, 3) := by decide +kernel
theorem dX12_movedTo_6 : decode cX12_movedTo 6 = .ok (.invokevirtual 78, 3) := by decide +kernel
theorem dX12_movedTo_9 : decode cX12_movedTo 9 = .ok (.ifCond .eq 7, 3) := by decide +kernel
theorem dX12_movedTo_12 : decode cX12_movedTo 12 = .ok (.iconst 0, 1) := by decide +kernel
theorem dX12_movedTo_13 : decode cX12_movedTo 13 = .ok (.goto 20, 3) := by decide +kernel
theorem dX12_movedTo_16 : decode cX12_movedTo 16 = .ok (.aload_n 0, 1) := by decide +kernel
theorem dX12_movedTo_17 : decode cX12_movedTo 17 = .ok (.getfield 64, 3) := by decide +kernel
theorem dX12_movedTo_20 : decode cX12_movedTo 20 = .ok (.ifCond .eq 12, 3) := by decide +kernel
theorem dX12_movedTo_23 : decode cX12_movedTo 23 = .ok (.aload_n 0, 1) := by decide +kernel
theorem dX12_movedTo_24 : decode cX12_movedTo 24 = .ok (.getfield 30, 3) := by decide +kernel
theorem dX12_movedTo_27 : decode cX12_movedTo 27 = .ok (.iload_n 1, 1) := by decide +kernel
theorem dX12_movedTo_28 : decode cX12_movedTo 28 = .ok (.iaload, 1) := by decide +kernel
theorem dX12_movedTo_29 : decode cX12_movedTo 29 = .ok (.goto 4, 3) := by decide +kernel
theorem dX12_movedTo_32 : decode cX12_movedTo 32 = .ok (.iconst (-1), 1) := by decide +kernel
theorem dX12_movedTo_33 : decode cX12_movedTo 33 = .ok (.ireturn, 1) := by decide +kernel
set_option maxRecDepth 20000 in
theorem ggX12_moveAll_X12_lacks : GoodIn wsX12_moveAll wsX12_lacks := goodIn_r _ [8, 9, 10, 11, 12, 7, 13, 31, 32, 33, 34, 35, 36, 37, 38, 39, 40, 41, 42, 43, 44, 45, 46] (by decide +kernel) (by decide +kernel)
set_option maxRecDepth 20000 in
theorem gX12_moveAll_X12_lacks : GoodIn wsX12_moveAll (wsV RX12 78 RX12 yX12_lacks wsX12_lacks) := goodIn_app (goodIn_of _ (by decide +kernel)) ggX12_moveAll_X12_lacks
set_option maxRecDepth 20000 in
theorem ggX12_moveAll_X12_keeps : GoodIn wsX12_moveAll wsX12_keeps := goodIn_r _ [17, 18, 19, 3, 20, 21, 22, 23, 1, 31, 32, 33, 34, 35, 36, 37, 38, 39, 40, 41, 42, 43, 44, 45, 46] (by decide +kernel) (by decide +kernel)
set_option maxRecDepth 20000 in
theorem gX12_moveAll_X12_keeps : GoodIn wsX12_moveAll (wsV RX12 68 RX12 yX12_keeps wsX12_keeps) := goodIn_app (goodIn_of _ (by decide +kernel)) ggX12_moveAll_X12_keeps
set_option maxRecDepth 20000 in
theorem ggX12_moveAll_X12_goes : GoodIn wsX12_moveAll wsX12_goes := goodIn_r _ [27, 3, 31, 32, 33, 34, 35, 36, 37, 38, 39, 40, 41, 42, 43, 44, 45, 46] (by decide +kernel) (by decide +kernel)
set_option maxRecDepth 20000 in
theorem gX12_moveAll_X12_goes : GoodIn wsX12_moveAll (wsV RX12 110 RX12 yX12_goes wsX12_goes) := goodIn_app (goodIn_of _ (by decide +kernel)) ggX12_moveAll_X12_goes
set_option maxRecDepth 20000 in
theorem ggX12_moveAll_X12_in : GoodIn wsX12_moveAll wsX12_in := goodIn_r _ [30] (by decide +kernel) (by decide +kernel)
set_option maxRecDepth 20000 in
theorem gX12_moveAll_X12_in : GoodIn wsX12_moveAll (va_wsS RX12 47 yX12_in wsX12_in) := goodIn_app (goodIn_of _ (by decide +kernel)) ggX12_moveAll_X12_in
theorem dX12_moveAll_0 : decode cX12_moveAll 0 = .ok (.aload_n 0, 1) := by decide +kernel
theorem dX12_moveAll_1 : decode cX12_moveAll 1 = .ok (.aload_n 0, 1) := by decide +kernel
theorem dX12_moveAll_2 : decode cX12_moveAll 2 = .ok (.getfield 64, 3) := by decide +kernel
theorem dX12_moveAll_5 : decode cX12_moveAll 5 = .ok (.invokevirtual 78, 3) := by decide +kernel
theorem dX12_moveAll_8 : decode cX12_moveAll 8 = .ok (.ifCond .eq 5, 3) := by decide +kernel
theorem dX12_moveAll_11 : decode cX12_moveAll 11 = .ok (.iconst 0, 1) := by decide +kernel
theorem dX12_moveAll_12 : decode cX12_moveAll 12 = .ok (.ireturn, 1) := by decide +kernel
theorem dX12_moveAll_13 : decode cX12_moveAll 13 = .ok (.aload_n 0, 1) := by decide +kernel
theorem dX12_moveAll_14 : decode cX12_moveAll 14 = .ok (.invokevirtual 68, 3) := by decide +kernel
theorem dX12_moveAll_17 : decode cX12_moveAll 17 = .ok (.iconst 0, 1) := by decide +kernel
theorem dX12_moveAll_18 : decode cX12_moveAll 18 = .ok (.istore_n 1, 1) := by decide +kernel
theorem dX12_moveAll_19 : decode cX12_moveAll 19 = .ok (.iconst 0, 1) := by decide +kernel
theorem dX12_moveAll_20 : decode cX12_moveAll 20 = .ok (.istore_n 2, 1) := by decide +kernel
theorem dX12_moveAll_21 : decode cX12_moveAll 21 = .ok (.iload_n 2, 1) := by decide +kernel
theorem dX12_moveAll_22 : decode cX12_moveAll 22 = .ok (.bipush 16, 2) := by decide +kernel
theorem dX12_moveAll_24 : decode cX12_moveAll 24 = .ok (.if_icmp .ge 64, 3) := by decide +kernel
theorem dX12_moveAll_27 : decode cX12_moveAll 27 = .ok (.aload_n 0, 1) := by decide +kernel
theorem dX12_moveAll_28 : decode cX12_moveAll 28 = .ok (.getfield 30, 3) := by decide +kernel
theorem dX12_moveAll_31 : decode cX12_moveAll 31 = .ok (.iload_n 2, 1) := by decide +kernel
theorem dX12_moveAll_32 : decode cX12_moveAll 32 = .ok (.iaload, 1) := by decide +kernel
theorem dX12_moveAll_33 : decode cX12_moveAll 33 = .ok (.iconst 4, 1) := by decide +kernel
theorem dX12_moveAll_34 : decode cX12_moveAll 34 = .ok (.if_icmp .ne 8, 3) := by decide +kernel
theorem dX12_moveAll_37 : decode cX12_moveAll 37 = .ok (.aload_n 0, 1) := by decide +kernel
theorem dX12_moveAll_38 : decode cX12_moveAll 38 = .ok (.iload_n 2, 1) := by decide +kernel
theorem dX12_moveAll_39 : decode cX12_moveAll 39 = .ok (.invokevirtual 110, 3) := by decide +kernel
theorem dX12_moveAll_42 : decode cX12_moveAll 42 = .ok (.aload_n 0, 1) := by decide +kernel
theorem dX12_moveAll_43 : decode cX12_moveAll 43 = .ok (.getfield 30, 3) := by decide +kernel
theorem dX12_moveAll_46 : decode cX12_moveAll 46 = .ok (.iload_n 2, 1) := by decide +kernel
theorem dX12_moveAll_47 : decode cX12_moveAll 47 = .ok (.iaload, 1) := by decide +kernel
theorem dX12_moveAll_48 : decode cX12_moveAll 48 = .ok (.iconst 0, 1) := by decide +kernel
theorem dX12_moveAll_49 : decode cX12_moveAll 49 = .ok (.iconst 3, 1) := by decide +kernel
theorem dX12_moveAll_50 : decode cX12_moveAll 50 = .ok (.invokestatic 47, 3) := by decide +kernel
theorem dX12_moveAll_53 : decode cX12_moveAll 53 = .ok (.ifCond .ne 6, 3) := by decide +kernel
theorem dX12_moveAll_56 : decode cX12_moveAll 56 = .ok (.goto 26, 3) := by decide +kernel
theorem dX12_moveAll_59 : decode cX12_moveAll 59 = .ok (.aload_n 0, 1) := by decide +kernel
theorem dX12_moveAll_60 : decode cX12_moveAll 60 = .ok (.getfield 9, 3) := by decide +kernel
theorem dX12_moveAll_63 : decode cX12_moveAll 63 = .ok (.bipush 23, 2) := by decide +kernel
theorem dX12_moveAll_65 : decode cX12_moveAll 65 = .ok (.bipush 6, 2) := by decide +kernel
theorem dX12_moveAll_67 : decode cX12_moveAll 67 = .ok (.iload_n 2, 1) := by decide +kernel
theorem dX12_moveAll_68 : decode cX12_moveAll 68 = .ok (.imul, 1) := by decide +kernel
theorem dX12_moveAll_69 : decode cX12_moveAll 69 = .ok (.iadd, 1) := by decide +kernel
theorem dX12_moveAll_70 : decode cX12_moveAll 70 = .ok (.iconst 1, 1) := by decide +kernel
theorem dX12_moveAll_71 : decode cX12_moveAll 71 = .ok (.iadd, 1) := by decide +kernel
theorem dX12_moveAll_72 : decode cX12_moveAll 72 = .ok (.aload_n 0, 1) := by decide +kernel
theorem dX12_moveAll_73 : decode cX12_moveAll 73 = .ok (.getfield 30, 3) := by decide +kernel
theorem dX12_moveAll_76 : decode cX12_moveAll 76 = .ok (.iload_n 2, 1) := by decide +kernel
theorem dX12_moveAll_77 : decode cX12_moveAll 77 = .ok (.iaload, 1) := by decide +kernel
theorem dX12_moveAll_78 : decode cX12_moveAll 78 = .ok (.iastore, 1) := by decide +kernel
theorem dX12_moveAll_79 : decode cX12_moveAll 79 = .ok (.iinc 1 1, 3) := by decide +kernel
theorem dX12_moveAll_82 : decode cX12_moveAll 82 = .ok (.iinc 2 1, 3) := by decide +kernel
theorem dX12_moveAll_85 : decode cX12_moveAll 85 = .ok (.goto (-64), 3) := by decide +kernel
theorem dX12_moveAll_88 : decode cX12_moveAll 88 = .ok (.iload_n 1, 1) := by decide +kernel
theorem dX12_moveAll_89 : decode cX12_moveAll 89 = .ok (.ireturn, 1) := by decide +kernel
set_option maxRecDepth 20000 in
theorem ggX12_setPrice_X12_isDay : GoodIn wsX12_setPrice wsX12_isDay := goodIn_r _ [4, 5, 6, 3, 7] (by decide +kernel) (by decide +kernel)
set_option maxRecDepth 20000 in
theorem gX12_setPrice_X12_isDay : GoodIn wsX12_setPrice (va_wsS RX12 166 yX12_isDay wsX12_isDay) := goodIn_app (goodIn_of _ (by decide +kernel)) ggX12_setPrice_X12_isDay
set_option maxRecDepth 20000 in
theorem ggX12_setPrice_X12_lacks : GoodIn wsX12_setPrice wsX12_lacks := goodIn_r _ [11, 12, 13, 14, 15, 3, 16, 33, 34, 35, 36, 37, 38, 39, 40, 41, 42, 43, 44, 45, 46, 47, 48] (by decide +kernel) (by decide +kernel)
set_option maxRecDepth 20000 in
theorem gX12_setPrice_X12_lacks : GoodIn wsX12_setPrice (wsV RX12 78 RX12 yX12_lacks wsX12_lacks) := goodIn_app (goodIn_of _ (by decide +kernel)) ggX12_setPrice_X12_lacks
set_option maxRecDepth 20000 in
theorem ggX12_setPrice_X12_in : GoodIn wsX12_setPrice wsX12_in := goodIn_r _ [7] (by decide +kernel) (by decide +kernel)
set_option maxRecDepth 20000 in
theorem gX12_setPrice_X12_in : GoodIn wsX12_setPrice (va_wsS RX12 47 yX12_in wsX12_in) := goodIn_app (goodIn_of _ (by decide +kernel)) ggX12_setPrice_X12_in
set_option maxRecDepth 20000 in
theorem ggX12_setPrice_X12_no : GoodIn wsX12_setPrice wsX12_no := goodIn_r _ [16, 12, 33, 34, 35, 36, 37, 38, 39, 40, 41, 42, 43, 44, 45, 46, 47, 48] (by decide +kernel) (by decide +kernel)
set_option maxRecDepth 20000 in
theorem gX12_setPrice_X12_no : GoodIn wsX12_setPrice (wsV RX12 43 RX12 yX12_no wsX12_no) := goodIn_app (goodIn_of _ (by decide +kernel)) ggX12_setPrice_X12_no
set_option maxRecDepth 20000 in
theorem ggX12_setPrice_X12_sets : GoodIn wsX12_setPrice wsX12_sets := goodIn_r _ [20, 21, 22, 23, 24, 3, 25, 26, 27, 28, 29, 30, 31, 32, 33, 34, 35, 36, 37, 38, 39, 40, 41, 42, 43, 44, 45, 46, 47, 48] (by decide +kernel) (by decide +kernel)
set_option maxRecDepth 20000 in
theorem gX12_setPrice_X12_sets : GoodIn wsX12_setPrice (wsV RX12 89 RX12 yX12_sets wsX12_sets) := goodIn_app (goodIn_of _ (by decide +kernel)) ggX12_setPrice_X12_sets
theorem dX12_setPrice_0 : decode cX12_setPrice 0 = .ok (.aload_n 0, 1) := by decide +kernel
theorem dX12_setPrice_1 : decode cX12_setPrice 1 = .ok (.iload_n 1, 1) := by decide +kernel
theorem dX12_setPrice_2 : decode cX12_setPrice 2 = .ok (.invokestatic 166, 3) := by decide +kernel
theorem dX12_setPrice_5 : decode cX12_setPrice 5 = .ok (.invokevirtual 78, 3) := by decide +kernel
theorem dX12_setPrice_8 : decode cX12_setPrice 8 = .ok (.ifCond .ne 19, 3) := by decide +kernel
theorem dX12_setPrice_11 : decode cX12_setPrice 11 = .ok (.aload_n 0, 1) := by decide +kernel
theorem dX12_setPrice_12 : decode cX12_setPrice 12 = .ok (.iload_n 2, 1) := by decide +kernel
theorem dX12_setPrice_13 : decode cX12_setPrice 13 = .ok (.iconst 0, 1) := by decide +kernel
theorem dX12_setPrice_14 : decode cX12_setPrice 14 = .ok (.sipush 500, 3) := by decide +kernel
theorem dX12_setPrice_17 : decode cX12_setPrice 17 = .ok (.invokestatic 47, 3) := by decide +kernel
theorem dX12_setPrice_20 : decode cX12_setPrice 20 = .ok (.iconst 2, 1) := by decide +kernel
theorem dX12_setPrice_21 : decode cX12_setPrice 21 = .ok (.invokevirtual 43, 3) := by decide +kernel
theorem dX12_setPrice_24 : decode cX12_setPrice 24 = .ok (.ifCond .eq 7, 3) := by decide +kernel
theorem dX12_setPrice_27 : decode cX12_setPrice 27 = .ok (.iconst 0, 1) := by decide +kernel
theorem dX12_setPrice_28 : decode cX12_setPrice 28 = .ok (.goto 13, 3) := by decide +kernel
theorem dX12_setPrice_31 : decode cX12_setPrice 31 = .ok (.aload_n 0, 1) := by decide +kernel
theorem dX12_setPrice_32 : decode cX12_setPrice 32 = .ok (.sipush 448, 3) := by decide +kernel
theorem dX12_setPrice_35 : decode cX12_setPrice 35 = .ok (.iload_n 1, 1) := by decide +kernel
theorem dX12_setPrice_36 : decode cX12_setPrice 36 = .ok (.iadd, 1) := by decide +kernel
theorem dX12_setPrice_37 : decode cX12_setPrice 37 = .ok (.iload_n 2, 1) := by decide +kernel
theorem dX12_setPrice_38 : decode cX12_setPrice 38 = .ok (.invokevirtual 89, 3) := by decide +kernel
theorem dX12_setPrice_41 : decode cX12_setPrice 41 = .ok (.ireturn, 1) := by decide +kernel
theorem dX12_pays_0 : decode cX12_pays 0 = .ok (.aload_n 0, 1) := by decide +kernel
theorem dX12_pays_1 : decode cX12_pays 1 = .ok (.getfield 9, 3) := by decide +kernel
theorem dX12_pays_4 : decode cX12_pays 4 = .ok (.sipush 500, 3) := by decide +kernel
theorem dX12_pays_7 : decode cX12_pays 7 = .ok (.iload_n 1, 1) := by decide +kernel
theorem dX12_pays_8 : decode cX12_pays 8 = .ok (.iadd, 1) := by decide +kernel
theorem dX12_pays_9 : decode cX12_pays 9 = .ok (.dup2, 1) := by decide +kernel
theorem dX12_pays_10 : decode cX12_pays 10 = .ok (.iaload, 1) := by decide +kernel
theorem dX12_pays_11 : decode cX12_pays 11 = .ok (.iload_n 3, 1) := by decide +kernel
theorem dX12_pays_12 : decode cX12_pays 12 = .ok (.isub, 1) := by decide +kernel
theorem dX12_pays_13 : decode cX12_pays 13 = .ok (.iastore, 1) := by decide +kernel
theorem dX12_pays_14 : decode cX12_pays 14 = .ok (.aload_n 0, 1) := by decide +kernel
theorem dX12_pays_15 : decode cX12_pays 15 = .ok (.getfield 9, 3) := by decide +kernel
theorem dX12_pays_18 : decode cX12_pays 18 = .ok (.sipush 500, 3) := by decide +kernel
theorem dX12_pays_21 : decode cX12_pays 21 = .ok (.iload_n 2, 1) := by decide +kernel
theorem dX12_pays_22 : decode cX12_pays 22 = .ok (.iadd, 1) := by decide +kernel
theorem dX12_pays_23 : decode cX12_pays 23 = .ok (.dup2, 1) := by decide +kernel
theorem dX12_pays_24 : decode cX12_pays 24 = .ok (.iaload, 1) := by decide +kernel
theorem dX12_pays_25 : decode cX12_pays 25 = .ok (.iload_n 3, 1) := by decide +kernel
theorem dX12_pays_26 : decode cX12_pays 26 = .ok (.iadd, 1) := by decide +kernel
theorem dX12_pays_27 : decode cX12_pays 27 = .ok (.iastore, 1) := by decide +kernel
theorem dX12_pays_28 : decode cX12_pays 28 = .ok (.return_, 1) := by decide +kernel
set_option maxRecDepth 20000 in
theorem ggX12_ticket_X12_isVisitor : GoodIn wsX12_ticket wsX12_isVisitor := goodIn_r _ [5, 6, 7, 4, 8] (by decide +kernel) (by decide +kernel)
set_option maxRecDepth 20000 in
theorem gX12_ticket_X12_isVisitor : GoodIn wsX12_ticket (va_wsS RX12 114 yX12_isVisitor wsX12_isVisitor) := goodIn_app (goodIn_of _ (by decide +kernel)) ggX12_ticket_X12_isVisitor
set_option maxRecDepth 20000 in
theorem ggX12_ticket_X12_isDay : GoodIn wsX12_ticket wsX12_isDay := goodIn_r _ [11, 6, 7, 4, 8] (by decide +kernel) (by decide +kernel)
set_option maxRecDepth 20000 in
theorem gX12_ticket_X12_isDay : GoodIn wsX12_ticket (va_wsS RX12 166 yX12_isDay wsX12_isDay) := goodIn_app (goodIn_of _ (by decide +kernel)) ggX12_ticket_X12_isDay
set_option maxRecDepth 20000 in
theorem ggX12_ticket_X12_lacks : GoodIn wsX12_ticket wsX12_lacks := goodIn_r _ [15, 16, 17, 18, 19, 4, 20, 36, 37, 38, 39, 40, 41, 42, 43, 44, 45, 46, 47, 48, 49, 50, 51] (by decide +kernel) (by decide +kernel)
set_option maxRecDepth 20000 in
theorem gX12_ticket_X12_lacks : GoodIn wsX12_ticket (wsV RX12 78 RX12 yX12_lacks wsX12_lacks) := goodIn_app (goodIn_of _ (by decide +kernel)) ggX12_ticket_X12_lacks
set_option maxRecDepth 20000 in
theorem ggX12_ticket_X12_in : GoodIn wsX12_ticket wsX12_in := goodIn_r _ [8] (by decide +kernel) (by decide +kernel)
set_option maxRecDepth 20000 in
theorem gX12_ticket_X12_in : GoodIn wsX12_ticket (va_wsS RX12 47 yX12_in wsX12_in) := goodIn_app (goodIn_of _ (by decide +kernel)) ggX12_ticket_X12_in
set_option maxRecDepth 20000 in
theorem ggX12_ticket_X12_no : GoodIn wsX12_ticket wsX12_no := goodIn_r _ [20, 16, 36, 37, 38, 39, 40, 41, 42, 43, 44, 45, 46, 47, 48, 49, 50, 51] (by decide +kernel) (by decide +kernel)
set_option maxRecDepth 20000 in
theorem gX12_ticket_X12_no : GoodIn wsX12_ticket (wsV RX12 43 RX12 yX12_no wsX12_no) := goodIn_app (goodIn_of _ (by decide +kernel)) ggX12_ticket_X12_no
set_option maxRecDepth 20000 in
theorem ggX12_ticket_X12_keeps : GoodIn wsX12_ticket wsX12_keeps := goodIn_r _ [24, 25, 26, 1, 27, 28, 29, 30, 31, 36, 37, 38, 39, 40, 41, 42, 43, 44, 45, 46, 47, 48, 49, 50, 51] (by decide +kernel) (by decide +kernel)
set_option maxRecDepth 20000 in
theorem gX12_ticket_X12_keeps : GoodIn wsX12_ticket (wsV RX12 68 RX12 yX12_keeps wsX12_keeps) := goodIn_app (goodIn_of _ (by decide +kernel)) ggX12_ticket_X12_keeps
set_option maxRecDepth 20000 in
theorem ggX12_ticket_X12_pays : GoodIn wsX12_ticket wsX12_pays := goodIn_r _ [35, 1, 36, 37, 38, 39, 40, 41, 42, 43, 44, 45, 46, 47, 48, 49, 50, 51] (by decide +kernel) (by decide +kernel)
set_option maxRecDepth 20000 in
theorem gX12_ticket_X12_pays : GoodIn wsX12_ticket (wsV RX12 257 RX12 yX12_pays wsX12_pays) := goodIn_app (goodIn_of _ (by decide +kernel)) ggX12_ticket_X12_pays
theorem dX12_ticket_0 : decode cX12_ticket 0 = .ok (.sipush 452, 3) := by decide +kernel
theorem dX12_ticket_3 : decode cX12_ticket 3 = .ok (.iconst 4, 1) := by decide +kernel
theorem dX12_ticket_4 : decode cX12_ticket 4 = .ok (.iload_n 1, 1) := by decide +kernel
theorem dX12_ticket_5 : decode cX12_ticket 5 = .ok (.imul, 1) := by decide +kernel
theorem dX12_ticket_6 : decode cX12_ticket 6 = .ok (.iadd, 1) := by decide +kernel
theorem dX12_ticket_7 : decode cX12_ticket 7 = .ok (.iload_n 2, 1) := by decide +kernel
theorem dX12_ticket_8 : decode cX12_ticket 8 = .ok (.iadd, 1) := by decide +kernel
theorem dX12_ticket_9 : decode cX12_ticket 9 = .ok (.istore 4, 2) := by decide +kernel
theorem dX12_ticket_11 : decode cX12_ticket 11 = .ok (.aload_n 0, 1) := by decide +kernel
theorem dX12_ticket_12 : decode cX12_ticket 12 = .ok (.iload_n 1, 1) := by decide +kernel
theorem dX12_ticket_13 : decode cX12_ticket 13 = .ok (.invokestatic 114, 3) := by decide +kernel
theorem dX12_ticket_16 : decode cX12_ticket 16 = .ok (.ifCond .eq 14, 3) := by decide +kernel
theorem dX12_ticket_19 : decode cX12_ticket 19 = .ok (.iload_n 2, 1) := by decide +kernel
theorem dX12_ticket_20 : decode cX12_ticket 20 = .ok (.invokestatic 166, 3) := by decide +kernel
theorem dX12_ticket_23 : decode cX12_ticket 23 = .ok (.ifCond .eq 7, 3) := by decide +kernel
theorem dX12_ticket_26 : decode cX12_ticket 26 = .ok (.iconst 1, 1) := by decide +kernel
theorem dX12_ticket_27 : decode cX12_ticket 27 = .ok (.goto 4, 3) := by decide +kernel
theorem dX12_ticket_30 : decode cX12_ticket 30 = .ok (.iconst 0, 1) := by decide +kernel
theorem dX12_ticket_31 : decode cX12_ticket 31 = .ok (.invokevirtual 78, 3) := by decide +kernel
theorem dX12_ticket_34 : decode cX12_ticket 34 = .ok (.ifCond .ne 42, 3) := by decide +kernel
theorem dX12_ticket_37 : decode cX12_ticket 37 = .ok (.aload_n 0, 1) := by decide +kernel
theorem dX12_ticket_38 : decode cX12_ticket 38 = .ok (.iload_n 3, 1) := by decide +kernel
theorem dX12_ticket_39 : decode cX12_ticket 39 = .ok (.iconst 0, 1) := by decide +kernel
theorem dX12_ticket_40 : decode cX12_ticket 40 = .ok (.bipush 120, 2) := by decide +kernel
theorem dX12_ticket_42 : decode cX12_ticket 42 = .ok (.invokestatic 47, 3) := by decide +kernel
theorem dX12_ticket_45 : decode cX12_ticket 45 = .ok (.iconst 2, 1) := by decide +kernel
theorem dX12_ticket_46 : decode cX12_ticket 46 = .ok (.invokevirtual 43, 3) := by decide +kernel
theorem dX12_ticket_49 : decode cX12_ticket 49 = .ok (.ifCond .ne 27, 3) := by decide +kernel
theorem dX12_ticket_52 : decode cX12_ticket 52 = .ok (.aload_n 0, 1) := by decide +kernel
theorem dX12_ticket_53 : decode cX12_ticket 53 = .ok (.aload_n 0, 1) := by decide +kernel
theorem dX12_ticket_54 : decode cX12_ticket 54 = .ok (.getfield 9, 3) := by decide +kernel
theorem dX12_ticket_57 : decode cX12_ticket 57 = .ok (.iload 4, 2) := by decide +kernel
theorem dX12_ticket_59 : decode cX12_ticket 59 = .ok (.iaload, 1) := by decide +kernel
theorem dX12_ticket_60 : decode cX12_ticket 60 = .ok (.iconst (-1), 1) := by decide +kernel
theorem dX12_ticket_61 : decode cX12_ticket 61 = .ok (.if_icmp .ne 7, 3) := by decide +kernel
theorem dX12_ticket_64 : decode cX12_ticket 64 = .ok (.iconst 1, 1) := by decide +kernel
theorem dX12_ticket_65 : decode cX12_ticket 65 = .ok (.goto 4, 3) := by decide +kernel
theorem dX12_ticket_68 : decode cX12_ticket 68 = .ok (.iconst 0, 1) := by decide +kernel
theorem dX12_ticket_69 : decode cX12_ticket 69 = .ok (.iconst 3, 1) := by decide +kernel
theorem dX12_ticket_70 : decode cX12_ticket 70 = .ok (.invokevirtual 43, 3) := by decide +kernel
theorem dX12_ticket_73 : decode cX12_ticket 73 = .ok (.ifCond .eq 5, 3) := by decide +kernel
theorem dX12_ticket_76 : decode cX12_ticket 76 = .ok (.iconst 0, 1) := by decide +kernel
theorem dX12_ticket_77 : decode cX12_ticket 77 = .ok (.ireturn, 1) := by decide +kernel
theorem dX12_ticket_78 : decode cX12_ticket 78 = .ok (.aload_n 0, 1) := by decide +kernel
theorem dX12_ticket_79 : decode cX12_ticket 79 = .ok (.invokevirtual 68, 3) := by decide +kernel
theorem dX12_ticket_82 : decode cX12_ticket 82 = .ok (.aload_n 0, 1) := by decide +kernel
theorem dX12_ticket_83 : decode cX12_ticket 83 = .ok (.getfield 9, 3) := by decide +kernel
theorem dX12_ticket_86 : decode cX12_ticket 86 = .ok (.sipush 448, 3) := by decide +kernel
theorem dX12_ticket_89 : decode cX12_ticket 89 = .ok (.iload_n 2, 1) := by decide +kernel
theorem dX12_ticket_90 : decode cX12_ticket 90 = .ok (.iadd, 1) := by decide +kernel
theorem dX12_ticket_91 : decode cX12_ticket 91 = .ok (.iaload, 1) := by decide +kernel
theorem dX12_ticket_92 : decode cX12_ticket 92 = .ok (.istore 5, 2) := by decide +kernel
theorem dX12_ticket_94 : decode cX12_ticket 94 = .ok (.iload_n 3, 1) := by decide +kernel
theorem dX12_ticket_95 : decode cX12_ticket 95 = .ok (.bipush 6, 2) := by decide +kernel
theorem dX12_ticket_97 : decode cX12_ticket 97 = .ok (.if_icmp .ge 7, 3) := by decide +kernel
theorem dX12_ticket_100 : decode cX12_ticket 100 = .ok (.iconst 0, 1) := by decide +kernel
theorem dX12_ticket_101 : decode cX12_ticket 101 = .ok (.goto 39, 3) := by decide +kernel
theorem dX12_ticket_104 : decode cX12_ticket 104 = .ok (.iload_n 3, 1) := by decide +kernel
theorem dX12_ticket_105 : decode cX12_ticket 105 = .ok (.bipush 14, 2) := by decide +kernel
theorem dX12_ticket_107 : decode cX12_ticket 107 = .ok (.if_icmp .ge 12, 3) := by decide +kernel
theorem dX12_ticket_110 : decode cX12_ticket 110 = .ok (.iload 5, 2) := by decide +kernel
theorem dX12_ticket_112 : decode cX12_ticket 112 = .ok (.iconst 1, 1) := by decide +kernel
theorem dX12_ticket_113 : decode cX12_ticket 113 = .ok (.iadd, 1) := by decide +kernel
theorem dX12_ticket_114 : decode cX12_ticket 114 = .ok (.iconst 2, 1) := by decide +kernel
theorem dX12_ticket_115 : decode cX12_ticket 115 = .ok (.idiv, 1) := by decide +kernel
theorem dX12_ticket_116 : decode cX12_ticket 116 = .ok (.goto 24, 3) := by decide +kernel
theorem dX12_ticket_119 : decode cX12_ticket 119 = .ok (.iload_n 3, 1) := by decide +kernel
theorem dX12_ticket_120 : decode cX12_ticket 120 = .ok (.bipush 65, 2) := by decide +kernel
theorem dX12_ticket_122 : decode cX12_ticket 122 = .ok (.if_icmp .ge 8, 3) := by decide +kernel
theorem dX12_ticket_125 : decode cX12_ticket 125 = .ok (.iload 5, 2) := by decide +kernel
theorem dX12_ticket_127 : decode cX12_ticket 127 = .ok (.goto 13, 3) := by decide +kernel
theorem dX12_ticket_130 : decode cX12_ticket 130 = .ok (.bipush 8, 2) := by decide +kernel
theorem dX12_ticket_132 : decode cX12_ticket 132 = .ok (.iload 5, 2) := by decide +kernel
theorem dX12_ticket_134 : decode cX12_ticket 134 = .ok (.imul, 1) := by decide +kernel
theorem dX12_ticket_135 : decode cX12_ticket 135 = .ok (.iconst 5, 1) := by decide +kernel
theorem dX12_ticket_136 : decode cX12_ticket 136 = .ok (.iadd, 1) := by decide +kernel
theorem dX12_ticket_137 : decode cX12_ticket 137 = .ok (.bipush 10, 2) := by decide +kernel
theorem dX12_ticket_139 : decode cX12_ticket 139 = .ok (.idiv, 1) := by decide +kernel
theorem dX12_ticket_140 : decode cX12_ticket 140 = .ok (.istore 6, 2) := by decide +kernel
theorem dX12_ticket_142 : decode cX12_ticket 142 = .ok (.aload_n 0, 1) := by decide +kernel
theorem dX12_ticket_143 : decode cX12_ticket 143 = .ok (.getfield 9, 3) := by decide +kernel
theorem dX12_ticket_146 : decode cX12_ticket 146 = .ok (.iload 4, 2) := by decide +kernel
theorem dX12_ticket_148 : decode cX12_ticket 148 = .ok (.iload 6, 2) := by decide +kernel
theorem dX12_ticket_150 : decode cX12_ticket 150 = .ok (.iastore, 1) := by decide +kernel
theorem dX12_ticket_151 : decode cX12_ticket 151 = .ok (.aload_n 0, 1) := by decide +kernel
theorem dX12_ticket_152 : decode cX12_ticket 152 = .ok (.iconst 1, 1) := by decide +kernel
theorem dX12_ticket_153 : decode cX12_ticket 153 = .ok (.iload_n 1, 1) := by decide +kernel
theorem dX12_ticket_154 : decode cX12_ticket 154 = .ok (.iadd, 1) := by decide +kernel
theorem dX12_ticket_155 : decode cX12_ticket 155 = .ok (.iconst 0, 1) := by decide +kernel
theorem dX12_ticket_156 : decode cX12_ticket 156 = .ok (.iload 6, 2) := by decide +kernel
theorem dX12_ticket_158 : decode cX12_ticket 158 = .ok (.invokevirtual 257, 3) := by decide +kernel
theorem dX12_ticket_161 : decode cX12_ticket 161 = .ok (.iload 6, 2) := by decide +kernel
theorem dX12_ticket_163 : decode cX12_ticket 163 = .ok (.ireturn, 1) := by decide +kernel
set_option maxRecDepth 20000 in
theorem ggX12_refund_X12_isVisitor : GoodIn wsX12_refund wsX12_isVisitor := goodIn_r _ [5, 6, 7, 4, 8] (by decide +kernel) (by decide +kernel)
set_option maxRecDepth 20000 in
theorem gX12_refund_X12_isVisitor : GoodIn wsX12_refund (va_wsS RX12 114 yX12_isVisitor wsX12_isVisitor) := goodIn_app (goodIn_of _ (by decide +kernel)) ggX12_refund_X12_isVisitor
set_option maxRecDepth 20000 in
theorem ggX12_refund_X12_isDay : GoodIn wsX12_refund wsX12_isDay := goodIn_r _ [11, 6, 7, 4, 8] (by decide +kernel) (by decide +kernel)
set_option maxRecDepth 20000 in
theorem gX12_refund_X12_isDay : GoodIn wsX12_refund (va_wsS RX12 166 yX12_isDay wsX12_isDay) := goodIn_app (goodIn_of _ (by decide +kernel)) ggX12_refund_X12_isDay
set_option maxRecDepth 20000 in
theorem ggX12_refund_X12_lacks : GoodIn wsX12_refund wsX12_lacks := goodIn_r _ [15, 16, 17, 18, 19, 4, 20, 36, 37, 38, 39, 40, 41, 42, 43, 44, 45, 46, 47, 48, 49, 50, 51] (by decide +kernel) (by decide +kernel)
set_option maxRecDepth 20000 in
theorem gX12_refund_X12_lacks : GoodIn wsX12_refund (wsV RX12 78 RX12 yX12_lacks wsX12_lacks) := goodIn_app (goodIn_of _ (by decide +kernel)) ggX12_refund_X12_lacks
set_option maxRecDepth 20000 in
theorem ggX12_refund_X12_no : GoodIn wsX12_refund wsX12_no := goodIn_r _ [20, 16, 36, 37, 38, 39, 40, 41, 42, 43, 44, 45, 46, 47, 48, 49, 50, 51] (by decide +kernel) (by decide +kernel)
set_option maxRecDepth 20000 in
theorem gX12_refund_X12_no : GoodIn wsX12_refund (wsV RX12 43 RX12 yX12_no wsX12_no) := goodIn_app (goodIn_of _ (by decide +kernel)) ggX12_refund_X12_no
set_option maxRecDepth 20000 in
theorem ggX12_refund_X12_keeps : GoodIn wsX12_refund wsX12_keeps := goodIn_r _ [24, 25, 26, 1, 27, 28, 29, 30, 31, 36, 37, 38, 39, 40, 41, 42, 43, 44, 45, 46, 47, 48, 49, 50, 51] (by decide +kernel) (by decide +kernel)
set_option maxRecDepth 20000 in
theorem gX12_refund_X12_keeps : GoodIn wsX12_refund (wsV RX12 68 RX12 yX12_keeps wsX12_keeps) := goodIn_app (goodIn_of _ (by decide +kernel)) ggX12_refund_X12_keeps
set_option maxRecDepth 20000 in
theorem ggX12_refund_X12_pays : GoodIn wsX12_refund wsX12_pays := goodIn_r _ [35, 1, 36, 37, 38, 39, 40, 41, 42, 43, 44, 45, 46, 47, 48, 49, 50, 51] (by decide +kernel) (by decide +kernel)
set_option maxRecDepth 20000 in
theorem gX12_refund_X12_pays : GoodIn wsX12_refund (wsV RX12 257 RX12 yX12_pays wsX12_pays) := goodIn_app (goodIn_of _ (by decide +kernel)) ggX12_refund_X12_pays
theorem dX12_refund_0 : decode cX12_refund 0 = .ok (.sipush 452, 3) := by decide +kernel
theorem dX12_refund_3 : decode cX12_refund 3 = .ok (.iconst 4, 1) := by decide +kernel
theorem dX12_refund_4 : decode cX12_refund 4 = .ok (.iload_n 1, 1) := by decide +kernel
theorem dX12_refund_5 : decode cX12_refund 5 = .ok (.imul, 1) := by decide +kernel
theorem dX12_refund_6 : decode cX12_refund 6 = .ok (.iadd, 1) := by decide +kernel
theorem dX12_refund_7 : decode cX12_refund 7 = .ok (.iload_n 2, 1) := by decide +kernel
theorem dX12_refund_8 : decode cX12_refund 8 = .ok (.iadd, 1) := by decide +kernel
theorem dX12_refund_9 : decode cX12_refund 9 = .ok (.istore_n 3, 1) := by decide +kernel
theorem dX12_refund_10 : decode cX12_refund 10 = .ok (.aload_n 0, 1) := by decide +kernel
theorem dX12_refund_11 : decode cX12_refund 11 = .ok (.iload_n 1, 1) := by decide +kernel
theorem dX12_refund_12 : decode cX12_refund 12 = .ok (.invokestatic 114, 3) := by decide +kernel
theorem dX12_refund_15 : decode cX12_refund 15 = .ok (.ifCond .eq 14, 3) := by decide +kernel
theorem dX12_refund_18 : decode cX12_refund 18 = .ok (.iload_n 2, 1) := by decide +kernel
theorem dX12_refund_19 : decode cX12_refund 19 = .ok (.invokestatic 166, 3) := by decide +kernel
theorem dX12_refund_22 : decode cX12_refund 22 = .ok (.ifCond .eq 7, 3) := by decide +kernel
theorem dX12_refund_25 : decode cX12_refund 25 = .ok (.iconst 1, 1) := by decide +kernel
theorem dX12_refund_26 : decode cX12_refund 26 = .ok (.goto 4, 3) := by decide +kernel
theorem dX12_refund_29 : decode cX12_refund 29 = .ok (.iconst 0, 1) := by decide +kernel
theorem dX12_refund_30 : decode cX12_refund 30 = .ok (.invokevirtual 78, 3) := by decide +kernel
theorem dX12_refund_33 : decode cX12_refund 33 = .ok (.ifCond .ne 26, 3) := by decide +kernel
theorem dX12_refund_36 : decode cX12_refund 36 = .ok (.aload_n 0, 1) := by decide +kernel
theorem dX12_refund_37 : decode cX12_refund 37 = .ok (.aload_n 0, 1) := by decide +kernel
theorem dX12_refund_38 : decode cX12_refund 38 = .ok (.getfield 9, 3) := by decide +kernel
theorem dX12_refund_41 : decode cX12_refund 41 = .ok (.iload_n 3, 1) := by decide +kernel
theorem dX12_refund_42 : decode cX12_refund 42 = .ok (.iaload, 1) := by decide +kernel
theorem dX12_refund_43 : decode cX12_refund 43 = .ok (.iconst (-1), 1) := by decide +kernel
theorem dX12_refund_44 : decode cX12_refund 44 = .ok (.if_icmp .eq 7, 3) := by decide +kernel
theorem dX12_refund_47 : decode cX12_refund 47 = .ok (.iconst 1, 1) := by decide +kernel
theorem dX12_refund_48 : decode cX12_refund 48 = .ok (.goto 4, 3) := by decide +kernel
theorem dX12_refund_51 : decode cX12_refund 51 = .ok (.iconst 0, 1) := by decide +kernel
theorem dX12_refund_52 : decode cX12_refund 52 = .ok (.iconst 2, 1) := by decide +kernel
theorem dX12_refund_53 : decode cX12_refund 53 = .ok (.invokevirtual 43, 3) := by decide +kernel
theorem dX12_refund_56 : decode cX12_refund 56 = .ok (.ifCond .eq 5, 3) := by decide +kernel
theorem dX12_refund_59 : decode cX12_refund 59 = .ok (.iconst 0, 1) := by decide +kernel
theorem dX12_refund_60 : decode cX12_refund 60 = .ok (.ireturn, 1) := by decide +kernel
theorem dX12_refund_61 : decode cX12_refund 61 = .ok (.aload_n 0, 1) := by decide +kernel
theorem dX12_refund_62 : decode cX12_refund 62 = .ok (.invokevirtual 68, 3) := by decide +kernel
theorem dX12_refund_65 : decode cX12_refund 65 = .ok (.bipush 9, 2) := by decide +kernel
theorem dX12_refund_67 : decode cX12_refund 67 = .ok (.aload_n 0, 1) := by decide +kernel
theorem dX12_refund_68 : decode cX12_refund 68 = .ok (.getfield 9, 3) := by decide +kernel
theorem dX12_refund_71 : decode cX12_refund 71 = .ok (.iload_n 3, 1) := by decide +kernel
theorem dX12_refund_72 : decode cX12_refund 72 = .ok (.iaload, 1) := by decide +kernel
theorem dX12_refund_73 : decode cX12_refund 73 = .ok (.imul, 1) := by decide +kernel
theorem dX12_refund_74 : decode cX12_refund 74 = .ok (.bipush 10, 2) := by decide +kernel
theorem dX12_refund_76 : decode cX12_refund 76 = .ok (.idiv, 1) := by decide +kernel
theorem dX12_refund_77 : decode cX12_refund 77 = .ok (.istore 4, 2) := by decide +kernel
theorem dX12_refund_79 : decode cX12_refund 79 = .ok (.aload_n 0, 1) := by decide +kernel
theorem dX12_refund_80 : decode cX12_refund 80 = .ok (.getfield 9, 3) := by decide +kernel
theorem dX12_refund_83 : decode cX12_refund 83 = .ok (.iload_n 3, 1) := by decide +kernel
theorem dX12_refund_84 : decode cX12_refund 84 = .ok (.iconst (-1), 1) := by decide +kernel
theorem dX12_refund_85 : decode cX12_refund 85 = .ok (.iastore, 1) := by decide +kernel
theorem dX12_refund_86 : decode cX12_refund 86 = .ok (.aload_n 0, 1) := by decide +kernel
theorem dX12_refund_87 : decode cX12_refund 87 = .ok (.iconst 0, 1) := by decide +kernel
theorem dX12_refund_88 : decode cX12_refund 88 = .ok (.iconst 1, 1) := by decide +kernel
theorem dX12_refund_89 : decode cX12_refund 89 = .ok (.iload_n 1, 1) := by decide +kernel
theorem dX12_refund_90 : decode cX12_refund 90 = .ok (.iadd, 1) := by decide +kernel
theorem dX12_refund_91 : decode cX12_refund 91 = .ok (.iload 4, 2) := by decide +kernel
theorem dX12_refund_93 : decode cX12_refund 93 = .ok (.invokevirtual 257, 3) := by decide +kernel
theorem dX12_refund_96 : decode cX12_refund 96 = .ok (.iload 4, 2) := by decide +kernel
theorem dX12_refund_98 : decode cX12_refund 98 = .ok (.ireturn, 1) := by decide +kernel
set_option maxRecDepth 20000 in
theorem ggX12_resell_X12_isVisitor : GoodIn wsX12_resell wsX12_isVisitor := goodIn_r _ [5, 6, 7, 4, 8] (by decide +kernel) (by decide +kernel)
set_option maxRecDepth 20000 in
theorem gX12_resell_X12_isVisitor : GoodIn wsX12_resell (va_wsS RX12 114 yX12_isVisitor wsX12_isVisitor) := goodIn_app (goodIn_of _ (by decide +kernel)) ggX12_resell_X12_isVisitor
set_option maxRecDepth 20000 in
theorem ggX12_resell_X12_isDay : GoodIn wsX12_resell wsX12_isDay := goodIn_r _ [11, 6, 7, 4, 8] (by decide +kernel) (by decide +kernel)
set_option maxRecDepth 20000 in
theorem gX12_resell_X12_isDay : GoodIn wsX12_resell (va_wsS RX12 166 yX12_isDay wsX12_isDay) := goodIn_app (goodIn_of _ (by decide +kernel)) ggX12_resell_X12_isDay
set_option maxRecDepth 20000 in
theorem ggX12_resell_X12_lacks : GoodIn wsX12_resell wsX12_lacks := goodIn_r _ [15, 16, 17, 18, 19, 4, 20, 36, 37, 38, 39, 40, 41, 42, 43, 44, 45, 46, 47, 48, 49, 50, 51] (by decide +kernel) (by decide +kernel)
set_option maxRecDepth 20000 in
theorem gX12_resell_X12_lacks : GoodIn wsX12_resell (wsV RX12 78 RX12 yX12_lacks wsX12_lacks) := goodIn_app (goodIn_of _ (by decide +kernel)) ggX12_resell_X12_lacks
set_option maxRecDepth 20000 in
theorem ggX12_resell_X12_no : GoodIn wsX12_resell wsX12_no := goodIn_r _ [20, 16, 36, 37, 38, 39, 40, 41, 42, 43, 44, 45, 46, 47, 48, 49, 50, 51] (by decide +kernel) (by decide +kernel)
set_option maxRecDepth 20000 in
theorem gX12_resell_X12_no : GoodIn wsX12_resell (wsV RX12 43 RX12 yX12_no wsX12_no) := goodIn_app (goodIn_of _ (by decide +kernel)) ggX12_resell_X12_no
set_option maxRecDepth 20000 in
theorem ggX12_resell_X12_keeps : GoodIn wsX12_resell wsX12_keeps := goodIn_r _ [24, 25, 26, 1, 27, 28, 29, 30, 31, 36, 37, 38, 39, 40, 41, 42, 43, 44, 45, 46, 47, 48, 49, 50, 51] (by decide +kernel) (by decide +kernel)
set_option maxRecDepth 20000 in
theorem gX12_resell_X12_keeps : GoodIn wsX12_resell (wsV RX12 68 RX12 yX12_keeps wsX12_keeps) := goodIn_app (goodIn_of _ (by decide +kernel)) ggX12_resell_X12_keeps
set_option maxRecDepth 20000 in
theorem ggX12_resell_X12_pays : GoodIn wsX12_resell wsX12_pays := goodIn_r _ [35, 1, 36, 37, 38, 39, 40, 41, 42, 43, 44, 45, 46, 47, 48, 49, 50, 51] (by decide +kernel) (by decide +kernel)
set_option maxRecDepth 20000 in
theorem gX12_resell_X12_pays : GoodIn wsX12_resell (wsV RX12 257 RX12 yX12_pays wsX12_pays) := goodIn_app (goodIn_of _ (by decide +kernel)) ggX12_resell_X12_pays
theorem dX12_resell_0 : decode cX12_resell 0 = .ok (.sipush 452, 3) := by decide +kernel
theorem dX12_resell_3 : decode cX12_resell 3 = .ok (.iconst 4, 1) := by decide +kernel
theorem dX12_resell_4 : decode cX12_resell 4 = .ok (.iload_n 1, 1) := by decide +kernel
theorem dX12_resell_5 : decode cX12_resell 5 = .ok (.imul, 1) := by decide +kernel
theorem dX12_resell_6 : decode cX12_resell 6 = .ok (.iadd, 1) := by decide +kernel
theorem dX12_resell_7 : decode cX12_resell 7 = .ok (.iload_n 3, 1) := by decide +kernel
theorem dX12_resell_8 : decode cX12_resell 8 = .ok (.iadd, 1) := by decide +kernel
theorem dX12_resell_9 : decode cX12_resell 9 = .ok (.istore 4, 2) := by decide +kernel
theorem dX12_resell_11 : decode cX12_resell 11 = .ok (.sipush 452, 3) := by decide +kernel
theorem dX12_resell_14 : decode cX12_resell 14 = .ok (.iconst 4, 1) := by decide +kernel
theorem dX12_resell_15 : decode cX12_resell 15 = .ok (.iload_n 2, 1) := by decide +kernel
theorem dX12_resell_16 : decode cX12_resell 16 = .ok (.imul, 1) := by decide +kernel
theorem dX12_resell_17 : decode cX12_resell 17 = .ok (.iadd, 1) := by decide +kernel
theorem dX12_resell_18 : decode cX12_resell 18 = .ok (.iload_n 3, 1) := by decide +kernel
theorem dX12_resell_19 : decode cX12_resell 19 = .ok (.iadd, 1) := by decide +kernel
theorem dX12_resell_20 : decode cX12_resell 20 = .ok (.istore 5, 2) := by decide +kernel
theorem dX12_resell_22 : decode cX12_resell 22 = .ok (.aload_n 0, 1) := by decide +kernel
theorem dX12_resell_23 : decode cX12_resell 23 = .ok (.iload_n 1, 1) := by decide +kernel
theorem dX12_resell_24 : decode cX12_resell 24 = .ok (.invokestatic 114, 3) := by decide +kernel
theorem dX12_resell_27 : decode cX12_resell 27 = .ok (.ifCond .eq 21, 3) := by decide +kernel
theorem dX12_resell_30 : decode cX12_resell 30 = .ok (.iload_n 2, 1) := by decide +kernel
theorem dX12_resell_31 : decode cX12_resell 31 = .ok (.invokestatic 114, 3) := by decide +kernel
theorem dX12_resell_34 : decode cX12_resell 34 = .ok (.ifCond .eq 14, 3) := by decide +kernel
theorem dX12_resell_37 : decode cX12_resell 37 = .ok (.iload_n 3, 1) := by decide +kernel
theorem dX12_resell_38 : decode cX12_resell 38 = .ok (.invokestatic 166, 3) := by decide +kernel
theorem dX12_resell_41 : decode cX12_resell 41 = .ok (.ifCond .eq 7, 3) := by decide +kernel
theorem dX12_resell_44 : decode cX12_resell 44 = .ok (.iconst 1, 1) := by decide +kernel
theorem dX12_resell_45 : decode cX12_resell 45 = .ok (.goto 4, 3) := by decide +kernel
theorem dX12_resell_48 : decode cX12_resell 48 = .ok (.iconst 0, 1) := by decide +kernel
theorem dX12_resell_49 : decode cX12_resell 49 = .ok (.invokevirtual 78, 3) := by decide +kernel
theorem dX12_resell_52 : decode cX12_resell 52 = .ok (.ifCond .ne 51, 3) := by decide +kernel
theorem dX12_resell_55 : decode cX12_resell 55 = .ok (.aload_n 0, 1) := by decide +kernel
theorem dX12_resell_56 : decode cX12_resell 56 = .ok (.aload_n 0, 1) := by decide +kernel
theorem dX12_resell_57 : decode cX12_resell 57 = .ok (.getfield 9, 3) := by decide +kernel
theorem dX12_resell_60 : decode cX12_resell 60 = .ok (.iload 4, 2) := by decide +kernel
theorem dX12_resell_62 : decode cX12_resell 62 = .ok (.iaload, 1) := by decide +kernel
theorem dX12_resell_63 : decode cX12_resell 63 = .ok (.iconst (-1), 1) := by decide +kernel
theorem dX12_resell_64 : decode cX12_resell 64 = .ok (.if_icmp .eq 7, 3) := by decide +kernel
theorem dX12_resell_67 : decode cX12_resell 67 = .ok (.iconst 1, 1) := by decide +kernel
theorem dX12_resell_68 : decode cX12_resell 68 = .ok (.goto 4, 3) := by decide +kernel
theorem dX12_resell_71 : decode cX12_resell 71 = .ok (.iconst 0, 1) := by decide +kernel
theorem dX12_resell_72 : decode cX12_resell 72 = .ok (.iconst 2, 1) := by decide +kernel
theorem dX12_resell_73 : decode cX12_resell 73 = .ok (.invokevirtual 43, 3) := by decide +kernel
theorem dX12_resell_76 : decode cX12_resell 76 = .ok (.ifCond .ne 27, 3) := by decide +kernel
theorem dX12_resell_79 : decode cX12_resell 79 = .ok (.aload_n 0, 1) := by decide +kernel
theorem dX12_resell_80 : decode cX12_resell 80 = .ok (.aload_n 0, 1) := by decide +kernel
theorem dX12_resell_81 : decode cX12_resell 81 = .ok (.getfield 9, 3) := by decide +kernel
theorem dX12_resell_84 : decode cX12_resell 84 = .ok (.iload 5, 2) := by decide +kernel
theorem dX12_resell_86 : decode cX12_resell 86 = .ok (.iaload, 1) := by decide +kernel
theorem dX12_resell_87 : decode cX12_resell 87 = .ok (.iconst (-1), 1) := by decide +kernel
theorem dX12_resell_88 : decode cX12_resell 88 = .ok (.if_icmp .ne 7, 3) := by decide +kernel
theorem dX12_resell_91 : decode cX12_resell 91 = .ok (.iconst 1, 1) := by decide +kernel
theorem dX12_resell_92 : decode cX12_resell 92 = .ok (.goto 4, 3) := by decide +kernel
theorem dX12_resell_95 : decode cX12_resell 95 = .ok (.iconst 0, 1) := by decide +kernel
theorem dX12_resell_96 : decode cX12_resell 96 = .ok (.iconst 3, 1) := by decide +kernel
theorem dX12_resell_97 : decode cX12_resell 97 = .ok (.invokevirtual 43, 3) := by decide +kernel
theorem dX12_resell_100 : decode cX12_resell 100 = .ok (.ifCond .eq 5, 3) := by decide +kernel
theorem dX12_resell_103 : decode cX12_resell 103 = .ok (.iconst 0, 1) := by decide +kernel
theorem dX12_resell_104 : decode cX12_resell 104 = .ok (.ireturn, 1) := by decide +kernel
theorem dX12_resell_105 : decode cX12_resell 105 = .ok (.aload_n 0, 1) := by decide +kernel
theorem dX12_resell_106 : decode cX12_resell 106 = .ok (.invokevirtual 68, 3) := by decide +kernel
theorem dX12_resell_109 : decode cX12_resell 109 = .ok (.aload_n 0, 1) := by decide +kernel
theorem dX12_resell_110 : decode cX12_resell 110 = .ok (.getfield 9, 3) := by decide +kernel
theorem dX12_resell_113 : decode cX12_resell 113 = .ok (.iload 4, 2) := by decide +kernel
theorem dX12_resell_115 : decode cX12_resell 115 = .ok (.iaload, 1) := by decide +kernel
theorem dX12_resell_116 : decode cX12_resell 116 = .ok (.istore 6, 2) := by decide +kernel
theorem dX12_resell_118 : decode cX12_resell 118 = .ok (.aload_n 0, 1) := by decide +kernel
theorem dX12_resell_119 : decode cX12_resell 119 = .ok (.getfield 9, 3) := by decide +kernel
theorem dX12_resell_122 : decode cX12_resell 122 = .ok (.iload 5, 2) := by decide +kernel
theorem dX12_resell_124 : decode cX12_resell 124 = .ok (.iload 6, 2) := by decide +kernel
theorem dX12_resell_126 : decode cX12_resell 126 = .ok (.iastore, 1) := by decide +kernel
theorem dX12_resell_127 : decode cX12_resell 127 = .ok (.aload_n 0, 1) := by decide +kernel
theorem dX12_resell_128 : decode cX12_resell 128 = .ok (.getfield 9, 3) := by decide +kernel
theorem dX12_resell_131 : decode cX12_resell 131 = .ok (.iload 4, 2) := by decide +kernel
theorem dX12_resell_133 : decode cX12_resell 133 = .ok (.iconst (-1), 1) := by decide +kernel
theorem dX12_resell_134 : decode cX12_resell 134 = .ok (.iastore, 1) := by decide +kernel
theorem dX12_resell_135 : decode cX12_resell 135 = .ok (.aload_n 0, 1) := by decide +kernel
theorem dX12_resell_136 : decode cX12_resell 136 = .ok (.iconst 1, 1) := by decide +kernel
theorem dX12_resell_137 : decode cX12_resell 137 = .ok (.iload_n 2, 1) := by decide +kernel
theorem dX12_resell_138 : decode cX12_resell 138 = .ok (.iadd, 1) := by decide +kernel
theorem dX12_resell_139 : decode cX12_resell 139 = .ok (.iconst 1, 1) := by decide +kernel
theorem dX12_resell_140 : decode cX12_resell 140 = .ok (.iload_n 1, 1) := by decide +kernel
theorem dX12_resell_141 : decode cX12_resell 141 = .ok (.iadd, 1) := by decide +kernel
theorem dX12_resell_142 : decode cX12_resell 142 = .ok (.iload 6, 2) := by decide +kernel
theorem dX12_resell_144 : decode cX12_resell 144 = .ok (.invokevirtual 257, 3) := by decide +kernel
theorem dX12_resell_147 : decode cX12_resell 147 = .ok (.iload 6, 2) := by decide +kernel
theorem dX12_resell_149 : decode cX12_resell 149 = .ok (.ireturn, 1) := by decide +kernel
set_option maxRecDepth 20000 in
theorem ggX12_payBands_X12_keeps : GoodIn wsX12_payBands wsX12_keeps := goodIn_r _ [7, 8, 9, 2, 10, 11, 12, 13, 14, 67, 68, 69, 70, 71, 72, 73, 74, 75, 76, 77, 78, 79, 80, 81, 82] (by decide +kernel) (by decide +kernel)
set_option maxRecDepth 20000 in
theorem gX12_payBands_X12_keeps : GoodIn wsX12_payBands (wsV RX12 68 RX12 yX12_keeps wsX12_keeps) := goodIn_app (goodIn_of _ (by decide +kernel)) ggX12_payBands_X12_keeps
set_option maxRecDepth 20000 in
theorem ggX12_payBands_X12_lineup : GoodIn wsX12_payBands wsX12_lineup := goodIn_r _ [18, 19, 20, 21, 22, 23, 6, 24, 25, 26, 27, 28, 29, 30, 31, 32, 33, 34, 35, 2, 36, 37, 38, 39, 40, 41, 42, 43, 44, 45, 46, 47, 48, 49, 50, 51, 52, 53, 54, 55, 67, 68, 69, 70, 71, 72, 73, 74, 75, 76, 77, 78, 79, 80, 81, 82] (by decide +kernel) (by decide +kernel)
set_option maxRecDepth 20000 in
theorem gX12_payBands_X12_lineup : GoodIn wsX12_payBands (wsV RX12 147 RX12 yX12_lineup wsX12_lineup) := goodIn_app (goodIn_of _ (by decide +kernel)) ggX12_payBands_X12_lineup
set_option maxRecDepth 20000 in
theorem ggX12_payBands_X12_its : GoodIn wsX12_payBands wsX12_its := goodIn_r _ [35, 2, 67, 68, 69, 70, 71, 72, 73, 74, 75, 76, 77, 78, 79, 80, 81, 82] (by decide +kernel) (by decide +kernel)
set_option maxRecDepth 20000 in
theorem gX12_payBands_X12_its : GoodIn wsX12_payBands (wsV RX12 51 RX12 yX12_its wsX12_its) := goodIn_app (goodIn_of _ (by decide +kernel)) ggX12_payBands_X12_its
set_option maxRecDepth 20000 in
theorem ggX12_payBands_J6_bitCount_0f7a4 : GoodIn wsX12_payBands wsJ6_bitCount_0f7a4 := goodIn_r _ [59, 60, 61, 62] (by decide +kernel) (by decide +kernel)
set_option maxRecDepth 20000 in
theorem gX12_payBands_J6_bitCount_0f7a4 : GoodIn wsX12_payBands (va_wsS RX12 260 yJ6_bitCount_0f7a4 wsJ6_bitCount_0f7a4) := goodIn_app (goodIn_of _ (by decide +kernel)) ggX12_payBands_J6_bitCount_0f7a4
set_option maxRecDepth 20000 in
theorem ggX12_payBands_X12_pays : GoodIn wsX12_payBands wsX12_pays := goodIn_r _ [66, 2, 67, 68, 69, 70, 71, 72, 73, 74, 75, 76, 77, 78, 79, 80, 81, 82] (by decide +kernel) (by decide +kernel)
set_option maxRecDepth 20000 in
theorem gX12_payBands_X12_pays : GoodIn wsX12_payBands (wsV RX12 257 RX12 yX12_pays wsX12_pays) := goodIn_app (goodIn_of _ (by decide +kernel)) ggX12_payBands_X12_pays
theorem dX12_payBands_0 : decode cX12_payBands 0 = .ok (.aload_n 0, 1) := by decide +kernel
theorem dX12_payBands_1 : decode cX12_payBands 1 = .ok (.iconst 0, 1) := by decide +kernel
theorem dX12_payBands_2 : decode cX12_payBands 2 = .ok (.putfield 39, 3) := by decide +kernel
theorem dX12_payBands_5 : decode cX12_payBands 5 = .ok (.aload_n 0, 1) := by decide +kernel
theorem dX12_payBands_6 : decode cX12_payBands 6 = .ok (.invokevirtual 68, 3) := by decide +kernel
theorem dX12_payBands_9 : decode cX12_payBands 9 = .ok (.aload_n 0, 1) := by decide +kernel
theorem dX12_payBands_10 : decode cX12_payBands 10 = .ok (.invokevirtual 147, 3) := by decide +kernel
theorem dX12_payBands_13 : decode cX12_payBands 13 = .ok (.istore_n 1, 1) := by decide +kernel
theorem dX12_payBands_14 : decode cX12_payBands 14 = .ok (.iconst 0, 1) := by decide +kernel
theorem dX12_payBands_15 : decode cX12_payBands 15 = .ok (.istore_n 2, 1) := by decide +kernel
theorem dX12_payBands_16 : decode cX12_payBands 16 = .ok (.iconst 0, 1) := by decide +kernel
theorem dX12_payBands_17 : decode cX12_payBands 17 = .ok (.istore_n 3, 1) := by decide +kernel
theorem dX12_payBands_18 : decode cX12_payBands 18 = .ok (.iload_n 3, 1) := by decide +kernel
theorem dX12_payBands_19 : decode cX12_payBands 19 = .ok (.bipush 16, 2) := by decide +kernel
theorem dX12_payBands_21 : decode cX12_payBands 21 = .ok (.if_icmp .ge 34, 3) := by decide +kernel
theorem dX12_payBands_24 : decode cX12_payBands 24 = .ok (.iload_n 2, 1) := by decide +kernel
theorem dX12_payBands_25 : decode cX12_payBands 25 = .ok (.iload_n 1, 1) := by decide +kernel
theorem dX12_payBands_26 : decode cX12_payBands 26 = .ok (.iload_n 3, 1) := by decide +kernel
theorem dX12_payBands_27 : decode cX12_payBands 27 = .ok (.ishr, 1) := by decide +kernel
theorem dX12_payBands_28 : decode cX12_payBands 28 = .ok (.iconst 1, 1) := by decide +kernel
theorem dX12_payBands_29 : decode cX12_payBands 29 = .ok (.iand, 1) := by decide +kernel
theorem dX12_payBands_30 : decode cX12_payBands 30 = .ok (.iconst 1, 1) := by decide +kernel
theorem dX12_payBands_31 : decode cX12_payBands 31 = .ok (.if_icmp .ne 15, 3) := by decide +kernel
theorem dX12_payBands_34 : decode cX12_payBands 34 = .ok (.aload_n 0, 1) := by decide +kernel
theorem dX12_payBands_35 : decode cX12_payBands 35 = .ok (.iload_n 3, 1) := by decide +kernel
theorem dX12_payBands_36 : decode cX12_payBands 36 = .ok (.iconst 5, 1) := by decide +kernel
theorem dX12_payBands_37 : decode cX12_payBands 37 = .ok (.invokevirtual 51, 3) := by decide +kernel
theorem dX12_payBands_40 : decode cX12_payBands 40 = .ok (.invokestatic 260, 3) := by decide +kernel
theorem dX12_payBands_43 : decode cX12_payBands 43 = .ok (.goto 4, 3) := by decide +kernel
theorem dX12_payBands_46 : decode cX12_payBands 46 = .ok (.iconst 0, 1) := by decide +kernel
theorem dX12_payBands_47 : decode cX12_payBands 47 = .ok (.iadd, 1) := by decide +kernel
theorem dX12_payBands_48 : decode cX12_payBands 48 = .ok (.istore_n 2, 1) := by decide +kernel
theorem dX12_payBands_49 : decode cX12_payBands 49 = .ok (.iinc 3 1, 3) := by decide +kernel
theorem dX12_payBands_52 : decode cX12_payBands 52 = .ok (.goto (-34), 3) := by decide +kernel
theorem dX12_payBands_55 : decode cX12_payBands 55 = .ok (.iload_n 2, 1) := by decide +kernel
theorem dX12_payBands_56 : decode cX12_payBands 56 = .ok (.ifCond .le 27, 3) := by decide +kernel
theorem dX12_payBands_59 : decode cX12_payBands 59 = .ok (.aload_n 0, 1) := by decide +kernel
theorem dX12_payBands_60 : decode cX12_payBands 60 = .ok (.getfield 9, 3) := by decide +kernel
theorem dX12_payBands_63 : decode cX12_payBands 63 = .ok (.sipush 500, 3) := by decide +kernel
theorem dX12_payBands_66 : decode cX12_payBands 66 = .ok (.iaload, 1) := by decide +kernel
theorem dX12_payBands_67 : decode cX12_payBands 67 = .ok (.ifCond .le 16, 3) := by decide +kernel
theorem dX12_payBands_70 : decode cX12_payBands 70 = .ok (.aload_n 0, 1) := by decide +kernel
theorem dX12_payBands_71 : decode cX12_payBands 71 = .ok (.getfield 9, 3) := by decide +kernel
theorem dX12_payBands_74 : decode cX12_payBands 74 = .ok (.sipush 500, 3) := by decide +kernel
theorem dX12_payBands_77 : decode cX12_payBands 77 = .ok (.iaload, 1) := by decide +kernel
theorem dX12_payBands_78 : decode cX12_payBands 78 = .ok (.iload_n 2, 1) := by decide +kernel
theorem dX12_payBands_79 : decode cX12_payBands 79 = .ok (.idiv, 1) := by decide +kernel
theorem dX12_payBands_80 : decode cX12_payBands 80 = .ok (.goto 4, 3) := by decide +kernel
theorem dX12_payBands_83 : decode cX12_payBands 83 = .ok (.iconst 0, 1) := by decide +kernel
theorem dX12_payBands_84 : decode cX12_payBands 84 = .ok (.istore_n 3, 1) := by decide +kernel
theorem dX12_payBands_85 : decode cX12_payBands 85 = .ok (.iconst 0, 1) := by decide +kernel
theorem dX12_payBands_86 : decode cX12_payBands 86 = .ok (.istore 4, 2) := by decide +kernel
theorem dX12_payBands_88 : decode cX12_payBands 88 = .ok (.iload 4, 2) := by decide +kernel
theorem dX12_payBands_90 : decode cX12_payBands 90 = .ok (.bipush 16, 2) := by decide +kernel
theorem dX12_payBands_92 : decode cX12_payBands 92 = .ok (.if_icmp .ge 62, 3) := by decide +kernel
theorem dX12_payBands_95 : decode cX12_payBands 95 = .ok (.iconst 0, 1) := by decide +kernel
theorem dX12_payBands_96 : decode cX12_payBands 96 = .ok (.istore 5, 2) := by decide +kernel
theorem dX12_payBands_98 : decode cX12_payBands 98 = .ok (.iload 5, 2) := by decide +kernel
theorem dX12_payBands_100 : decode cX12_payBands 100 = .ok (.bipush 12, 2) := by decide +kernel
theorem dX12_payBands_102 : decode cX12_payBands 102 = .ok (.if_icmp .ge 46, 3) := by decide +kernel
theorem dX12_payBands_105 : decode cX12_payBands 105 = .ok (.iload_n 1, 1) := by decide +kernel
theorem dX12_payBands_106 : decode cX12_payBands 106 = .ok (.iload 4, 2) := by decide +kernel
theorem dX12_payBands_108 : decode cX12_payBands 108 = .ok (.ishr, 1) := by decide +kernel
theorem dX12_payBands_109 : decode cX12_payBands 109 = .ok (.iconst 1, 1) := by decide +kernel
theorem dX12_payBands_110 : decode cX12_payBands 110 = .ok (.iand, 1) := by decide +kernel
theorem dX12_payBands_111 : decode cX12_payBands 111 = .ok (.iconst 1, 1) := by decide +kernel
theorem dX12_payBands_112 : decode cX12_payBands 112 = .ok (.if_icmp .ne 30, 3) := by decide +kernel
theorem dX12_payBands_115 : decode cX12_payBands 115 = .ok (.aload_n 0, 1) := by decide +kernel
theorem dX12_payBands_116 : decode cX12_payBands 116 = .ok (.iload 4, 2) := by decide +kernel
theorem dX12_payBands_118 : decode cX12_payBands 118 = .ok (.iconst 5, 1) := by decide +kernel
theorem dX12_payBands_119 : decode cX12_payBands 119 = .ok (.invokevirtual 51, 3) := by decide +kernel
theorem dX12_payBands_122 : decode cX12_payBands 122 = .ok (.iload 5, 2) := by decide +kernel
theorem dX12_payBands_124 : decode cX12_payBands 124 = .ok (.ishr, 1) := by decide +kernel
theorem dX12_payBands_125 : decode cX12_payBands 125 = .ok (.iconst 1, 1) := by decide +kernel
theorem dX12_payBands_126 : decode cX12_payBands 126 = .ok (.iand, 1) := by decide +kernel
theorem dX12_payBands_127 : decode cX12_payBands 127 = .ok (.iconst 1, 1) := by decide +kernel
theorem dX12_payBands_128 : decode cX12_payBands 128 = .ok (.if_icmp .ne 14, 3) := by decide +kernel
theorem dX12_payBands_131 : decode cX12_payBands 131 = .ok (.aload_n 0, 1) := by decide +kernel
theorem dX12_payBands_132 : decode cX12_payBands 132 = .ok (.iconst 0, 1) := by decide +kernel
theorem dX12_payBands_133 : decode cX12_payBands 133 = .ok (.bipush 13, 2) := by decide +kernel
theorem dX12_payBands_135 : decode cX12_payBands 135 = .ok (.iload 5, 2) := by decide +kernel
theorem dX12_payBands_137 : decode cX12_payBands 137 = .ok (.iadd, 1) := by decide +kernel
theorem dX12_payBands_138 : decode cX12_payBands 138 = .ok (.iload_n 3, 1) := by decide +kernel
theorem dX12_payBands_139 : decode cX12_payBands 139 = .ok (.invokevirtual 257, 3) := by decide +kernel
theorem dX12_payBands_142 : decode cX12_payBands 142 = .ok (.iinc 5 1, 3) := by decide +kernel
theorem dX12_payBands_145 : decode cX12_payBands 145 = .ok (.goto (-47), 3) := by decide +kernel
theorem dX12_payBands_148 : decode cX12_payBands 148 = .ok (.iinc 4 1, 3) := by decide +kernel
theorem dX12_payBands_151 : decode cX12_payBands 151 = .ok (.goto (-63), 3) := by decide +kernel
theorem dX12_payBands_154 : decode cX12_payBands 154 = .ok (.iload_n 3, 1) := by decide +kernel
theorem dX12_payBands_155 : decode cX12_payBands 155 = .ok (.ireturn, 1) := by decide +kernel
theorem dX12_lostNow_0 : decode cX12_lostNow 0 = .ok (.iconst 0, 1) := by decide +kernel
theorem dX12_lostNow_1 : decode cX12_lostNow 1 = .ok (.istore_n 1, 1) := by decide +kernel
theorem dX12_lostNow_2 : decode cX12_lostNow 2 = .ok (.iconst 0, 1) := by decide +kernel
theorem dX12_lostNow_3 : decode cX12_lostNow 3 = .ok (.istore_n 2, 1) := by decide +kernel
theorem dX12_lostNow_4 : decode cX12_lostNow 4 = .ok (.iload_n 2, 1) := by decide +kernel
theorem dX12_lostNow_5 : decode cX12_lostNow 5 = .ok (.bipush 100, 2) := by decide +kernel
theorem dX12_lostNow_7 : decode cX12_lostNow 7 = .ok (.if_icmp .ge 31, 3) := by decide +kernel
theorem dX12_lostNow_10 : decode cX12_lostNow 10 = .ok (.iload_n 1, 1) := by decide +kernel
theorem dX12_lostNow_11 : decode cX12_lostNow 11 = .ok (.aload_n 0, 1) := by decide +kernel
theorem dX12_lostNow_12 : decode cX12_lostNow 12 = .ok (.getfield 9, 3) := by decide +kernel
theorem dX12_lostNow_15 : decode cX12_lostNow 15 = .ok (.sipush 525, 3) := by decide +kernel
theorem dX12_lostNow_18 : decode cX12_lostNow 18 = .ok (.iload_n 2, 1) := by decide +kernel
theorem dX12_lostNow_19 : decode cX12_lostNow 19 = .ok (.iadd, 1) := by decide +kernel
theorem dX12_lostNow_20 : decode cX12_lostNow 20 = .ok (.iaload, 1) := by decide +kernel
theorem dX12_lostNow_21 : decode cX12_lostNow 21 = .ok (.iconst (-1), 1) := by decide +kernel
theorem dX12_lostNow_22 : decode cX12_lostNow 22 = .ok (.if_icmp .ne 7, 3) := by decide +kernel
theorem dX12_lostNow_25 : decode cX12_lostNow 25 = .ok (.iconst 0, 1) := by decide +kernel
theorem dX12_lostNow_26 : decode cX12_lostNow 26 = .ok (.goto 4, 3) := by decide +kernel
theorem dX12_lostNow_29 : decode cX12_lostNow 29 = .ok (.iconst 1, 1) := by decide +kernel
theorem dX12_lostNow_30 : decode cX12_lostNow 30 = .ok (.iadd, 1) := by decide +kernel
theorem dX12_lostNow_31 : decode cX12_lostNow 31 = .ok (.istore_n 1, 1) := by decide +kernel
theorem dX12_lostNow_32 : decode cX12_lostNow 32 = .ok (.iinc 2 1, 3) := by decide +kernel
theorem dX12_lostNow_35 : decode cX12_lostNow 35 = .ok (.goto (-31), 3) := by decide +kernel
theorem dX12_lostNow_38 : decode cX12_lostNow 38 = .ok (.iload_n 1, 1) := by decide +kernel
theorem dX12_lostNow_39 : decode cX12_lostNow 39 = .ok (.ireturn, 1) := by decide +kernel
set_option maxRecDepth 20000 in
theorem ggX12_lose_X12_isStage : GoodIn wsX12_lose wsX12_isStage := goodIn_r _ [5, 6, 7, 4, 8] (by decide +kernel) (by decide +kernel)
set_option maxRecDepth 20000 in
theorem gX12_lose_X12_isStage : GoodIn wsX12_lose (va_wsS RX12 86 yX12_isStage wsX12_isStage) := goodIn_app (goodIn_of _ (by decide +kernel)) ggX12_lose_X12_isStage
set_option maxRecDepth 20000 in
theorem ggX12_lose_X12_lacks : GoodIn wsX12_lose wsX12_lacks := goodIn_r _ [12, 13, 14, 15, 16, 4, 17, 33, 34, 35, 36, 37, 38, 39, 40, 41, 42, 43, 44, 45, 46, 47, 48] (by decide +kernel) (by decide +kernel)
set_option maxRecDepth 20000 in
theorem gX12_lose_X12_lacks : GoodIn wsX12_lose (wsV RX12 78 RX12 yX12_lacks wsX12_lacks) := goodIn_app (goodIn_of _ (by decide +kernel)) ggX12_lose_X12_lacks
set_option maxRecDepth 20000 in
theorem ggX12_lose_X12_in : GoodIn wsX12_lose wsX12_in := goodIn_r _ [8] (by decide +kernel) (by decide +kernel)
set_option maxRecDepth 20000 in
theorem gX12_lose_X12_in : GoodIn wsX12_lose (va_wsS RX12 47 yX12_in wsX12_in) := goodIn_app (goodIn_of _ (by decide +kernel)) ggX12_lose_X12_in
set_option maxRecDepth 20000 in
theorem ggX12_lose_X12_no : GoodIn wsX12_lose wsX12_no := goodIn_r _ [17, 13, 33, 34, 35, 36, 37, 38, 39, 40, 41, 42, 43, 44, 45, 46, 47, 48] (by decide +kernel) (by decide +kernel)
set_option maxRecDepth 20000 in
theorem gX12_lose_X12_no : GoodIn wsX12_lose (wsV RX12 43 RX12 yX12_no wsX12_no) := goodIn_app (goodIn_of _ (by decide +kernel)) ggX12_lose_X12_no
set_option maxRecDepth 20000 in
theorem ggX12_lose_X12_keeps : GoodIn wsX12_lose wsX12_keeps := goodIn_r _ [21, 22, 23, 1, 24, 25, 26, 27, 28, 33, 34, 35, 36, 37, 38, 39, 40, 41, 42, 43, 44, 45, 46, 47, 48] (by decide +kernel) (by decide +kernel)
set_option maxRecDepth 20000 in
theorem gX12_lose_X12_keeps : GoodIn wsX12_lose (wsV RX12 68 RX12 yX12_keeps wsX12_keeps) := goodIn_app (goodIn_of _ (by decide +kernel)) ggX12_lose_X12_keeps
set_option maxRecDepth 20000 in
theorem ggX12_lose_X12_lostNow : GoodIn wsX12_lose wsX12_lostNow := goodIn_r _ [32, 1, 33, 34, 35, 36, 37, 38, 39, 40, 41, 42, 43, 44, 45, 46, 47, 48] (by decide +kernel) (by decide +kernel)
set_option maxRecDepth 20000 in
theorem gX12_lose_X12_lostNow : GoodIn wsX12_lose (wsV RX12 265 RX12 yX12_lostNow wsX12_lostNow) := goodIn_app (goodIn_of _ (by decide +kernel)) ggX12_lose_X12_lostNow
theorem dX12_lose_0 : decode cX12_lose 0 = .ok (.aload_n 0, 1) := by decide +kernel
theorem dX12_lose_1 : decode cX12_lose 1 = .ok (.iload_n 2, 1) := by decide +kernel
theorem dX12_lose_2 : decode cX12_lose 2 = .ok (.invokestatic 86, 3) := by decide +kernel
theorem dX12_lose_5 : decode cX12_lose 5 = .ok (.invokevirtual 78, 3) := by decide +kernel
theorem dX12_lose_8 : decode cX12_lose 8 = .ok (.ifCond .ne 18, 3) := by decide +kernel
theorem dX12_lose_11 : decode cX12_lose 11 = .ok (.aload_n 0, 1) := by decide +kernel
theorem dX12_lose_12 : decode cX12_lose 12 = .ok (.iload_n 1, 1) := by decide +kernel
theorem dX12_lose_13 : decode cX12_lose 13 = .ok (.iconst 0, 1) := by decide +kernel
theorem dX12_lose_14 : decode cX12_lose 14 = .ok (.bipush 99, 2) := by decide +kernel
theorem dX12_lose_16 : decode cX12_lose 16 = .ok (.invokestatic 47, 3) := by decide +kernel
theorem dX12_lose_19 : decode cX12_lose 19 = .ok (.iconst 2, 1) := by decide +kernel
theorem dX12_lose_20 : decode cX12_lose 20 = .ok (.invokevirtual 43, 3) := by decide +kernel
theorem dX12_lose_23 : decode cX12_lose 23 = .ok (.ifCond .eq 5, 3) := by decide +kernel
theorem dX12_lose_26 : decode cX12_lose 26 = .ok (.iconst 0, 1) := by decide +kernel
theorem dX12_lose_27 : decode cX12_lose 27 = .ok (.ireturn, 1) := by decide +kernel
theorem dX12_lose_28 : decode cX12_lose 28 = .ok (.aload_n 0, 1) := by decide +kernel
theorem dX12_lose_29 : decode cX12_lose 29 = .ok (.invokevirtual 68, 3) := by decide +kernel
theorem dX12_lose_32 : decode cX12_lose 32 = .ok (.aload_n 0, 1) := by decide +kernel
theorem dX12_lose_33 : decode cX12_lose 33 = .ok (.getfield 9, 3) := by decide +kernel
theorem dX12_lose_36 : decode cX12_lose 36 = .ok (.sipush 525, 3) := by decide +kernel
theorem dX12_lose_39 : decode cX12_lose 39 = .ok (.iload_n 1, 1) := by decide +kernel
theorem dX12_lose_40 : decode cX12_lose 40 = .ok (.iadd, 1) := by decide +kernel
theorem dX12_lose_41 : decode cX12_lose 41 = .ok (.iload_n 2, 1) := by decide +kernel
theorem dX12_lose_42 : decode cX12_lose 42 = .ok (.iastore, 1) := by decide +kernel
theorem dX12_lose_43 : decode cX12_lose 43 = .ok (.aload_n 0, 1) := by decide +kernel
theorem dX12_lose_44 : decode cX12_lose 44 = .ok (.invokevirtual 265, 3) := by decide +kernel
theorem dX12_lose_47 : decode cX12_lose 47 = .ok (.ireturn, 1) := by decide +kernel
set_option maxRecDepth 20000 in
theorem ggX12_find_X12_isStage : GoodIn wsX12_find wsX12_isStage := goodIn_r _ [5, 6, 7, 4, 8] (by decide +kernel) (by decide +kernel)
set_option maxRecDepth 20000 in
theorem gX12_find_X12_isStage : GoodIn wsX12_find (va_wsS RX12 86 yX12_isStage wsX12_isStage) := goodIn_app (goodIn_of _ (by decide +kernel)) ggX12_find_X12_isStage
set_option maxRecDepth 20000 in
theorem ggX12_find_X12_lacks : GoodIn wsX12_find wsX12_lacks := goodIn_r _ [12, 13, 14, 15, 16, 4, 17, 29, 30, 31, 32, 33, 34, 35, 36, 37, 38, 39, 40, 41, 42, 43, 44] (by decide +kernel) (by decide +kernel)
set_option maxRecDepth 20000 in
theorem gX12_find_X12_lacks : GoodIn wsX12_find (wsV RX12 78 RX12 yX12_lacks wsX12_lacks) := goodIn_app (goodIn_of _ (by decide +kernel)) ggX12_find_X12_lacks
set_option maxRecDepth 20000 in
theorem ggX12_find_X12_no : GoodIn wsX12_find wsX12_no := goodIn_r _ [17, 13, 29, 30, 31, 32, 33, 34, 35, 36, 37, 38, 39, 40, 41, 42, 43, 44] (by decide +kernel) (by decide +kernel)
set_option maxRecDepth 20000 in
theorem gX12_find_X12_no : GoodIn wsX12_find (wsV RX12 43 RX12 yX12_no wsX12_no) := goodIn_app (goodIn_of _ (by decide +kernel)) ggX12_find_X12_no
set_option maxRecDepth 20000 in
theorem ggX12_find_X12_keeps : GoodIn wsX12_find wsX12_keeps := goodIn_r _ [21, 22, 23, 1, 24, 25, 26, 27, 28, 29, 30, 31, 32, 33, 34, 35, 36, 37, 38, 39, 40, 41, 42, 43, 44] (by decide +kernel) (by decide +kernel)
set_option maxRecDepth 20000 in
theorem gX12_find_X12_keeps : GoodIn wsX12_find (wsV RX12 68 RX12 yX12_keeps wsX12_keeps) := goodIn_app (goodIn_of _ (by decide +kernel)) ggX12_find_X12_keeps
theorem dX12_find_0 : decode cX12_find 0 = .ok (.aload_n 0, 1) := by decide +kernel
theorem dX12_find_1 : decode cX12_find 1 = .ok (.iload_n 1, 1) := by decide +kernel
theorem dX12_find_2 : decode cX12_find 2 = .ok (.iconst (-1), 1) := by decide +kernel
theorem dX12_find_3 : decode cX12_find 3 = .ok (.if_icmp .eq 10, 3) := by decide +kernel
theorem dX12_find_6 : decode cX12_find 6 = .ok (.iload_n 1, 1) := by decide +kernel
theorem dX12_find_7 : decode cX12_find 7 = .ok (.invokestatic 86, 3) := by decide +kernel
theorem dX12_find_10 : decode cX12_find 10 = .ok (.ifCond .eq 7, 3) := by decide +kernel
theorem dX12_find_13 : decode cX12_find 13 = .ok (.iconst 1, 1) := by decide +kernel
theorem dX12_find_14 : decode cX12_find 14 = .ok (.goto 4, 3) := by decide +kernel
theorem dX12_find_17 : decode cX12_find 17 = .ok (.iconst 0, 1) := by decide +kernel
theorem dX12_find_18 : decode cX12_find 18 = .ok (.invokevirtual 78, 3) := by decide +kernel
theorem dX12_find_21 : decode cX12_find 21 = .ok (.ifCond .eq 5, 3) := by decide +kernel
theorem dX12_find_24 : decode cX12_find 24 = .ok (.iconst 0, 1) := by decide +kernel
theorem dX12_find_25 : decode cX12_find 25 = .ok (.ireturn, 1) := by decide +kernel
theorem dX12_find_26 : decode cX12_find 26 = .ok (.iconst 0, 1) := by decide +kernel
theorem dX12_find_27 : decode cX12_find 27 = .ok (.istore_n 2, 1) := by decide +kernel
theorem dX12_find_28 : decode cX12_find 28 = .ok (.iload_n 2, 1) := by decide +kernel
theorem dX12_find_29 : decode cX12_find 29 = .ok (.bipush 100, 2) := by decide +kernel
theorem dX12_find_31 : decode cX12_find 31 = .ok (.if_icmp .ge 42, 3) := by decide +kernel
theorem dX12_find_34 : decode cX12_find 34 = .ok (.aload_n 0, 1) := by decide +kernel
theorem dX12_find_35 : decode cX12_find 35 = .ok (.getfield 9, 3) := by decide +kernel
theorem dX12_find_38 : decode cX12_find 38 = .ok (.sipush 525, 3) := by decide +kernel
theorem dX12_find_41 : decode cX12_find 41 = .ok (.iload_n 2, 1) := by decide +kernel
theorem dX12_find_42 : decode cX12_find 42 = .ok (.iadd, 1) := by decide +kernel
theorem dX12_find_43 : decode cX12_find 43 = .ok (.iaload, 1) := by decide +kernel
theorem dX12_find_44 : decode cX12_find 44 = .ok (.iconst (-1), 1) := by decide +kernel
theorem dX12_find_45 : decode cX12_find 45 = .ok (.if_icmp .eq 22, 3) := by decide +kernel
theorem dX12_find_48 : decode cX12_find 48 = .ok (.iload_n 1, 1) := by decide +kernel
theorem dX12_find_49 : decode cX12_find 49 = .ok (.iconst (-1), 1) := by decide +kernel
theorem dX12_find_50 : decode cX12_find 50 = .ok (.if_icmp .eq 23, 3) := by decide +kernel
theorem dX12_find_53 : decode cX12_find 53 = .ok (.aload_n 0, 1) := by decide +kernel
theorem dX12_find_54 : decode cX12_find 54 = .ok (.getfield 9, 3) := by decide +kernel
theorem dX12_find_57 : decode cX12_find 57 = .ok (.sipush 525, 3) := by decide +kernel
theorem dX12_find_60 : decode cX12_find 60 = .ok (.iload_n 2, 1) := by decide +kernel
theorem dX12_find_61 : decode cX12_find 61 = .ok (.iadd, 1) := by decide +kernel
theorem dX12_find_62 : decode cX12_find 62 = .ok (.iaload, 1) := by decide +kernel
theorem dX12_find_63 : decode cX12_find 63 = .ok (.iload_n 1, 1) := by decide +kernel
theorem dX12_find_64 : decode cX12_find 64 = .ok (.if_icmp .eq 9, 3) := by decide +kernel
theorem dX12_find_67 : decode cX12_find 67 = .ok (.iinc 2 1, 3) := by decide +kernel
theorem dX12_find_70 : decode cX12_find 70 = .ok (.goto (-42), 3) := by decide +kernel
theorem dX12_find_73 : decode cX12_find 73 = .ok (.aload_n 0, 1) := by decide +kernel
theorem dX12_find_74 : decode cX12_find 74 = .ok (.iload_n 2, 1) := by decide +kernel
theorem dX12_find_75 : decode cX12_find 75 = .ok (.bipush 100, 2) := by decide +kernel
theorem dX12_find_77 : decode cX12_find 77 = .ok (.if_icmp .ge 7, 3) := by decide +kernel
theorem dX12_find_80 : decode cX12_find 80 = .ok (.iconst 1, 1) := by decide +kernel
theorem dX12_find_81 : decode cX12_find 81 = .ok (.goto 4, 3) := by decide +kernel
theorem dX12_find_84 : decode cX12_find 84 = .ok (.iconst 0, 1) := by decide +kernel
theorem dX12_find_85 : decode cX12_find 85 = .ok (.iconst 2, 1) := by decide +kernel
theorem dX12_find_86 : decode cX12_find 86 = .ok (.invokevirtual 43, 3) := by decide +kernel
theorem dX12_find_89 : decode cX12_find 89 = .ok (.ifCond .eq 5, 3) := by decide +kernel
theorem dX12_find_92 : decode cX12_find 92 = .ok (.iconst 0, 1) := by decide +kernel
theorem dX12_find_93 : decode cX12_find 93 = .ok (.ireturn, 1) := by decide +kernel
theorem dX12_find_94 : decode cX12_find 94 = .ok (.aload_n 0, 1) := by decide +kernel
theorem dX12_find_95 : decode cX12_find 95 = .ok (.invokevirtual 68, 3) := by decide +kernel
theorem dX12_find_98 : decode cX12_find 98 = .ok (.aload_n 0, 1) := by decide +kernel
theorem dX12_find_99 : decode cX12_find 99 = .ok (.getfield 9, 3) := by decide +kernel
theorem dX12_find_102 : decode cX12_find 102 = .ok (.sipush 525, 3) := by decide +kernel
theorem dX12_find_105 : decode cX12_find 105 = .ok (.iload_n 2, 1) := by decide +kernel
theorem dX12_find_106 : decode cX12_find 106 = .ok (.iadd, 1) := by decide +kernel
theorem dX12_find_107 : decode cX12_find 107 = .ok (.iconst (-1), 1) := by decide +kernel
theorem dX12_find_108 : decode cX12_find 108 = .ok (.iastore, 1) := by decide +kernel
theorem dX12_find_109 : decode cX12_find 109 = .ok (.iload_n 2, 1) := by decide +kernel
theorem dX12_find_110 : decode cX12_find 110 = .ok (.ireturn, 1) := by decide +kernel
set_option maxRecDepth 20000 in
theorem ggX12_lost_X12_lostNow : GoodIn wsX12_lost wsX12_lostNow := goodIn_r _ [6, 7, 8, 9, 10, 11, 12, 13, 14, 15, 16, 17, 18, 19, 20, 21, 22, 23] (by decide +kernel) (by decide +kernel)
set_option maxRecDepth 20000 in
theorem gX12_lost_X12_lostNow : GoodIn wsX12_lost (wsV RX12 265 RX12 yX12_lostNow wsX12_lostNow) := goodIn_app (goodIn_of _ (by decide +kernel)) ggX12_lost_X12_lostNow
theorem dX12_lost_0 : decode cX12_lost 0 = .ok (.aload_n 0, 1) := by decide +kernel
theorem dX12_lost_1 : decode cX12_lost 1 = .ok (.iconst 0, 1) := by decide +kernel
theorem dX12_lost_2 : decode cX12_lost 2 = .ok (.putfield 39, 3) := by decide +kernel
theorem dX12_lost_5 : decode cX12_lost 5 = .ok (.aload_n 0, 1) := by decide +kernel
theorem dX12_lost_6 : decode cX12_lost 6 = .ok (.invokevirtual 265, 3) := by decide +kernel
theorem dX12_lost_9 : decode cX12_lost 9 = .ok (.ireturn, 1) := by decide +kernel
set_option maxRecDepth 20000 in
theorem ggX12_ticketAt_X12_isVisitor : GoodIn wsX12_ticketAt wsX12_isVisitor := goodIn_r _ [5, 6, 7, 4, 8] (by decide +kernel) (by decide +kernel)
set_option maxRecDepth 20000 in
theorem gX12_ticketAt_X12_isVisitor : GoodIn wsX12_ticketAt (va_wsS RX12 114 yX12_isVisitor wsX12_isVisitor) := goodIn_app (goodIn_of _ (by decide +kernel)) ggX12_ticketAt_X12_isVisitor
set_option maxRecDepth 20000 in
theorem ggX12_ticketAt_X12_isDay : GoodIn wsX12_ticketAt wsX12_isDay := goodIn_r _ [11, 6, 7, 4, 8] (by decide +kernel) (by decide +kernel)
set_option maxRecDepth 20000 in
theorem gX12_ticketAt_X12_isDay : GoodIn wsX12_ticketAt (va_wsS RX12 166 yX12_isDay wsX12_isDay) := goodIn_app (goodIn_of _ (by decide +kernel)) ggX12_ticketAt_X12_isDay
set_option maxRecDepth 20000 in
theorem ggX12_ticketAt_X12_lacks : GoodIn wsX12_ticketAt wsX12_lacks := goodIn_r _ [15, 16, 17, 18, 19, 4, 20, 21, 22, 23, 24, 25, 26, 27, 28, 29, 30, 31, 32, 33, 34, 35, 36] (by decide +kernel) (by decide +kernel)
set_option maxRecDepth 20000 in
theorem gX12_ticketAt_X12_lacks : GoodIn wsX12_ticketAt (wsV RX12 78 RX12 yX12_lacks wsX12_lacks) := goodIn_app (goodIn_of _ (by decide +kernel)) ggX12_ticketAt_X12_lacks
theorem dX12_ticketAt_0 : decode cX12_ticketAt 0 = .ok (.aload_n 0, 1) := by decide +kernel
theorem dX12_ticketAt_1 : decode cX12_ticketAt 1 = .ok (.iload_n 1, 1) := by decide +kernel
theorem dX12_ticketAt_2 : decode cX12_ticketAt 2 = .ok (.invokestatic 114, 3) := by decide +kernel
theorem dX12_ticketAt_5 : decode cX12_ticketAt 5 = .ok (.ifCond .eq 14, 3) := by decide +kernel
theorem dX12_ticketAt_8 : decode cX12_ticketAt 8 = .ok (.iload_n 2, 1) := by decide +kernel
theorem dX12_ticketAt_9 : decode cX12_ticketAt 9 = .ok (.invokestatic 166, 3) := by decide +kernel
theorem dX12_ticketAt_12 : decode cX12_ticketAt 12 = .ok (.ifCond .eq 7, 3) := by decide +kernel
theorem dX12_ticketAt_15 : decode cX12_ticketAt 15 = .ok (.iconst 1, 1) := by decide +kernel
theorem dX12_ticketAt_16 : decode cX12_ticketAt 16 = .ok (.goto 4, 3) := by decide +kernel
theorem dX12_ticketAt_19 : decode cX12_ticketAt 19 = .ok (.iconst 0, 1) := by decide +kernel
theorem dX12_ticketAt_20 : decode cX12_ticketAt 20 = .ok (.invokevirtual 78, 3) := by decide +kernel
theorem dX12_ticketAt_23 : decode cX12_ticketAt 23 = .ok (.ifCond .eq 7, 3) := by decide +kernel
theorem dX12_ticketAt_26 : decode cX12_ticketAt 26 = .ok (.iconst 0, 1) := by decide +kernel
theorem dX12_ticketAt_27 : decode cX12_ticketAt 27 = .ok (.goto 17, 3) := by decide +kernel
theorem dX12_ticketAt_30 : decode cX12_ticketAt 30 = .ok (.aload_n 0, 1) := by decide +kernel
theorem dX12_ticketAt_31 : decode cX12_ticketAt 31 = .ok (.getfield 9, 3) := by decide +kernel
theorem dX12_ticketAt_34 : decode cX12_ticketAt 34 = .ok (.sipush 452, 3) := by decide +kernel
theorem dX12_ticketAt_37 : decode cX12_ticketAt 37 = .ok (.iconst 4, 1) := by decide +kernel
theorem dX12_ticketAt_38 : decode cX12_ticketAt 38 = .ok (.iload_n 1, 1) := by decide +kernel
theorem dX12_ticketAt_39 : decode cX12_ticketAt 39 = .ok (.imul, 1) := by decide +kernel
theorem dX12_ticketAt_40 : decode cX12_ticketAt 40 = .ok (.iadd, 1) := by decide +kernel
theorem dX12_ticketAt_41 : decode cX12_ticketAt 41 = .ok (.iload_n 2, 1) := by decide +kernel
theorem dX12_ticketAt_42 : decode cX12_ticketAt 42 = .ok (.iadd, 1) := by decide +kernel
theorem dX12_ticketAt_43 : decode cX12_ticketAt 43 = .ok (.iaload, 1) := by decide +kernel
theorem dX12_ticketAt_44 : decode cX12_ticketAt 44 = .ok (.ireturn, 1) := by decide +kernel
set_option maxRecDepth 20000 in
theorem ggX12_balance_X12_in : GoodIn wsX12_balance wsX12_in := goodIn_r _ [5] (by decide +kernel) (by decide +kernel)
set_option maxRecDepth 20000 in
theorem gX12_balance_X12_in : GoodIn wsX12_balance (va_wsS RX12 47 yX12_in wsX12_in) := goodIn_app (goodIn_of _ (by decide +kernel)) ggX12_balance_X12_in
set_option maxRecDepth 20000 in
theorem ggX12_balance_X12_lacks : GoodIn wsX12_balance wsX12_lacks := goodIn_r _ [9, 10, 11, 12, 13, 4, 14, 15, 16, 17, 18, 19, 20, 21, 22, 23, 24, 25, 26, 27, 28, 29, 30] (by decide +kernel) (by decide +kernel)
set_option maxRecDepth 20000 in
theorem gX12_balance_X12_lacks : GoodIn wsX12_balance (wsV RX12 78 RX12 yX12_lacks wsX12_lacks) := goodIn_app (goodIn_of _ (by decide +kernel)) ggX12_balance_X12_lacks
set_option maxRecDepth 20000 in
theorem ggX12_balance_X12_no : GoodIn wsX12_balance wsX12_no := goodIn_r _ [14, 10, 15, 16, 17, 18, 19, 20, 21, 22, 23, 24, 25, 26, 27, 28, 29, 30] (by decide +kernel) (by decide +kernel)
set_option maxRecDepth 20000 in
theorem gX12_balance_X12_no : GoodIn wsX12_balance (wsV RX12 43 RX12 yX12_no wsX12_no) := goodIn_app (goodIn_of _ (by decide +kernel)) ggX12_balance_X12_no
theorem dX12_balance_0 : decode cX12_balance 0 = .ok (.aload_n 0, 1) := by decide +kernel
theorem dX12_balance_1 : decode cX12_balance 1 = .ok (.iload_n 1, 1) := by decide +kernel
theorem dX12_balance_2 : decode cX12_balance 2 = .ok (.iconst 0, 1) := by decide +kernel
theorem dX12_balance_3 : decode cX12_balance 3 = .ok (.iconst 2, 1) := by decide +kernel
theorem dX12_balance_4 : decode cX12_balance 4 = .ok (.invokestatic 47, 3) := by decide +kernel
theorem dX12_balance_7 : decode cX12_balance 7 = .ok (.ifCond .eq 15, 3) := by decide +kernel
theorem dX12_balance_10 : decode cX12_balance 10 = .ok (.iload_n 1, 1) := by decide +kernel
theorem dX12_balance_11 : decode cX12_balance 11 = .ok (.ifCond .gt 7, 3) := by decide +kernel
theorem dX12_balance_14 : decode cX12_balance 14 = .ok (.iload_n 2, 1) := by decide +kernel
theorem dX12_balance_15 : decode cX12_balance 15 = .ok (.ifCond .ne 7, 3) := by decide +kernel
theorem dX12_balance_18 : decode cX12_balance 18 = .ok (.iconst 1, 1) := by decide +kernel
theorem dX12_balance_19 : decode cX12_balance 19 = .ok (.goto 4, 3) := by decide +kernel
theorem dX12_balance_22 : decode cX12_balance 22 = .ok (.iconst 0, 1) := by decide +kernel
theorem dX12_balance_23 : decode cX12_balance 23 = .ok (.invokevirtual 78, 3) := by decide +kernel
theorem dX12_balance_26 : decode cX12_balance 26 = .ok (.ifCond .ne 18, 3) := by decide +kernel
theorem dX12_balance_29 : decode cX12_balance 29 = .ok (.aload_n 0, 1) := by decide +kernel
theorem dX12_balance_30 : decode cX12_balance 30 = .ok (.iload_n 2, 1) := by decide +kernel
theorem dX12_balance_31 : decode cX12_balance 31 = .ok (.iconst 0, 1) := by decide +kernel
theorem dX12_balance_32 : decode cX12_balance 32 = .ok (.bipush 11, 2) := by decide +kernel
theorem dX12_balance_34 : decode cX12_balance 34 = .ok (.invokestatic 47, 3) := by decide +kernel
theorem dX12_balance_37 : decode cX12_balance 37 = .ok (.iconst 2, 1) := by decide +kernel
theorem dX12_balance_38 : decode cX12_balance 38 = .ok (.invokevirtual 43, 3) := by decide +kernel
theorem dX12_balance_41 : decode cX12_balance 41 = .ok (.ifCond .eq 5, 3) := by decide +kernel
theorem dX12_balance_44 : decode cX12_balance 44 = .ok (.lconst 0, 1) := by decide +kernel
theorem dX12_balance_45 : decode cX12_balance 45 = .ok (.lreturn, 1) := by decide +kernel
theorem dX12_balance_46 : decode cX12_balance 46 = .ok (.aload_n 0, 1) := by decide +kernel
theorem dX12_balance_47 : decode cX12_balance 47 = .ok (.getfield 9, 3) := by decide +kernel
theorem dX12_balance_50 : decode cX12_balance 50 = .ok (.sipush 500, 3) := by decide +kernel
theorem dX12_balance_53 : decode cX12_balance 53 = .ok (.iload_n 1, 1) := by decide +kernel
theorem dX12_balance_54 : decode cX12_balance 54 = .ok (.ifCond .ne 7, 3) := by decide +kernel
theorem dX12_balance_57 : decode cX12_balance 57 = .ok (.iconst 0, 1) := by decide +kernel
theorem dX12_balance_58 : decode cX12_balance 58 = .ok (.goto 18, 3) := by decide +kernel
theorem dX12_balance_61 : decode cX12_balance 61 = .ok (.iload_n 1, 1) := by decide +kernel
theorem dX12_balance_62 : decode cX12_balance 62 = .ok (.iconst 1, 1) := by decide +kernel
theorem dX12_balance_63 : decode cX12_balance 63 = .ok (.if_icmp .ne 9, 3) := by decide +kernel
theorem dX12_balance_66 : decode cX12_balance 66 = .ok (.iconst 1, 1) := by decide +kernel
theorem dX12_balance_67 : decode cX12_balance 67 = .ok (.iload_n 2, 1) := by decide +kernel
theorem dX12_balance_68 : decode cX12_balance 68 = .ok (.iadd, 1) := by decide +kernel
theorem dX12_balance_69 : decode cX12_balance 69 = .ok (.goto 7, 3) := by decide +kernel
theorem dX12_balance_72 : decode cX12_balance 72 = .ok (.bipush 13, 2) := by decide +kernel
theorem dX12_balance_74 : decode cX12_balance 74 = .ok (.iload_n 2, 1) := by decide +kernel
theorem dX12_balance_75 : decode cX12_balance 75 = .ok (.iadd, 1) := by decide +kernel
theorem dX12_balance_76 : decode cX12_balance 76 = .ok (.iadd, 1) := by decide +kernel
theorem dX12_balance_77 : decode cX12_balance 77 = .ok (.iaload, 1) := by decide +kernel
theorem dX12_balance_78 : decode cX12_balance 78 = .ok (.i2l, 1) := by decide +kernel
theorem dX12_balance_79 : decode cX12_balance 79 = .ok (.lreturn, 1) := by decide +kernel
set_option maxRecDepth 20000 in
theorem ggX12_undo_X12_lacks : GoodIn wsX12_undo wsX12_lacks := goodIn_r _ [13, 14, 15, 16, 17, 12, 18, 19, 20, 21, 22, 23, 24, 25, 26, 27, 28, 29, 30, 31, 32, 33, 34] (by decide +kernel) (by decide +kernel)
set_option maxRecDepth 20000 in
theorem gX12_undo_X12_lacks : GoodIn wsX12_undo (wsV RX12 78 RX12 yX12_lacks wsX12_lacks) := goodIn_app (goodIn_of _ (by decide +kernel)) ggX12_undo_X12_lacks
theorem dX12_undo_0 : decode cX12_undo 0 = .ok (.aload_n 0, 1) := by decide +kernel
theorem dX12_undo_1 : decode cX12_undo 1 = .ok (.aload_n 0, 1) := by decide +kernel
theorem dX12_undo_2 : decode cX12_undo 2 = .ok (.getfield 55, 3) := by decide +kernel
theorem dX12_undo_5 : decode cX12_undo 5 = .ok (.ifCond .le 7, 3) := by decide +kernel
theorem dX12_undo_8 : decode cX12_undo 8 = .ok (.iconst 1, 1) := by decide +kernel
theorem dX12_undo_9 : decode cX12_undo 9 = .ok (.goto 4, 3) := by decide +kernel
theorem dX12_undo_12 : decode cX12_undo 12 = .ok (.iconst 0, 1) := by decide +kernel
theorem dX12_undo_13 : decode cX12_undo 13 = .ok (.invokevirtual 78, 3) := by decide +kernel
theorem dX12_undo_16 : decode cX12_undo 16 = .ok (.ifCond .eq 5, 3) := by decide +kernel
theorem dX12_undo_19 : decode cX12_undo 19 = .ok (.iconst 0, 1) := by decide +kernel
theorem dX12_undo_20 : decode cX12_undo 20 = .ok (.ireturn, 1) := by decide +kernel
theorem dX12_undo_21 : decode cX12_undo 21 = .ok (.aload_n 0, 1) := by decide +kernel
theorem dX12_undo_22 : decode cX12_undo 22 = .ok (.dup, 1) := by decide +kernel
theorem dX12_undo_23 : decode cX12_undo 23 = .ok (.getfield 55, 3) := by decide +kernel
theorem dX12_undo_26 : decode cX12_undo 26 = .ok (.iconst 1, 1) := by decide +kernel
theorem dX12_undo_27 : decode cX12_undo 27 = .ok (.isub, 1) := by decide +kernel
theorem dX12_undo_28 : decode cX12_undo 28 = .ok (.putfield 55, 3) := by decide +kernel
theorem dX12_undo_31 : decode cX12_undo 31 = .ok (.aload_n 0, 1) := by decide +kernel
theorem dX12_undo_32 : decode cX12_undo 32 = .ok (.getfield 15, 3) := by decide +kernel
theorem dX12_undo_35 : decode cX12_undo 35 = .ok (.aload_n 0, 1) := by decide +kernel
theorem dX12_undo_36 : decode cX12_undo 36 = .ok (.getfield 55, 3) := by decide +kernel
theorem dX12_undo_39 : decode cX12_undo 39 = .ok (.aaload, 1) := by decide +kernel
theorem dX12_undo_40 : decode cX12_undo 40 = .ok (.iconst 0, 1) := by decide +kernel
theorem dX12_undo_41 : decode cX12_undo 41 = .ok (.aload_n 0, 1) := by decide +kernel
theorem dX12_undo_42 : decode cX12_undo 42 = .ok (.getfield 9, 3) := by decide +kernel
theorem dX12_undo_45 : decode cX12_undo 45 = .ok (.iconst 0, 1) := by decide +kernel
theorem dX12_undo_46 : decode cX12_undo 46 = .ok (.sipush 625, 3) := by decide +kernel
theorem dX12_undo_49 : decode cX12_undo 49 = .ok (.invokestatic 58, 3) := by decide +kernel
theorem dX12_undo_52 : decode cX12_undo 52 = .ok (.aload_n 0, 1) := by decide +kernel
theorem dX12_undo_53 : decode cX12_undo 53 = .ok (.iconst 0, 1) := by decide +kernel
theorem dX12_undo_54 : decode cX12_undo 54 = .ok (.putfield 64, 3) := by decide +kernel
theorem dX12_undo_57 : decode cX12_undo 57 = .ok (.aload_n 0, 1) := by decide +kernel
theorem dX12_undo_58 : decode cX12_undo 58 = .ok (.getfield 55, 3) := by decide +kernel
theorem dX12_undo_61 : decode cX12_undo 61 = .ok (.ireturn, 1) := by decide +kernel
set_option maxRecDepth 20000 in
theorem ggX12_meanEvening_X12_isDay : GoodIn wsX12_meanEvening wsX12_isDay := goodIn_r _ [5, 6, 7, 4, 8] (by decide +kernel) (by decide +kernel)
set_option maxRecDepth 20000 in
theorem gX12_meanEvening_X12_isDay : GoodIn wsX12_meanEvening (va_wsS RX12 166 yX12_isDay wsX12_isDay) := goodIn_app (goodIn_of _ (by decide +kernel)) ggX12_meanEvening_X12_isDay
set_option maxRecDepth 20000 in
theorem ggX12_meanEvening_X12_lacks : GoodIn wsX12_meanEvening wsX12_lacks := goodIn_r _ [12, 13, 14, 15, 16, 4, 17, 65, 66, 67, 68, 69, 70, 71, 72, 73, 74, 75, 76, 77, 78, 79, 80] (by decide +kernel) (by decide +kernel)
set_option maxRecDepth 20000 in
theorem gX12_meanEvening_X12_lacks : GoodIn wsX12_meanEvening (wsV RX12 78 RX12 yX12_lacks wsX12_lacks) := goodIn_app (goodIn_of _ (by decide +kernel)) ggX12_meanEvening_X12_lacks
set_option maxRecDepth 20000 in
theorem ggX12_meanEvening_X12_findsEvening : GoodIn wsX12_meanEvening wsX12_findsEvening := goodIn_r _ [21, 22, 23, 24, 25, 26, 27, 28, 29, 30, 31, 4, 32, 33, 34, 35, 36, 37, 38, 39, 40, 6, 7, 8, 41, 42, 43, 44, 45, 46, 47, 48, 49, 50, 51, 52, 53, 54, 55, 56, 57, 58, 59, 60, 61, 62, 63, 64, 65, 66, 67, 68, 69, 70, 71, 72, 73, 74, 75, 76, 77, 78, 79, 80] (by decide +kernel) (by decide +kernel)
set_option maxRecDepth 20000 in
theorem gX12_meanEvening_X12_findsEvening : GoodIn wsX12_meanEvening (wsV RX12 169 RX12 yX12_findsEvening wsX12_findsEvening) := goodIn_app (goodIn_of _ (by decide +kernel)) ggX12_meanEvening_X12_findsEvening
theorem dX12_meanEvening_0 : decode cX12_meanEvening 0 = .ok (.aload_n 0, 1) := by decide +kernel
theorem dX12_meanEvening_1 : decode cX12_meanEvening 1 = .ok (.iload_n 1, 1) := by decide +kernel
theorem dX12_meanEvening_2 : decode cX12_meanEvening 2 = .ok (.invokestatic 166, 3) := by decide +kernel
theorem dX12_meanEvening_5 : decode cX12_meanEvening 5 = .ok (.invokevirtual 78, 3) := by decide +kernel
theorem dX12_meanEvening_8 : decode cX12_meanEvening 8 = .ok (.ifCond .eq 5, 3) := by decide +kernel
theorem dX12_meanEvening_11 : decode cX12_meanEvening 11 = .ok (.dconst 0, 1) := by decide +kernel
theorem dX12_meanEvening_12 : decode cX12_meanEvening 12 = .ok (.dreturn, 1) := by decide +kernel
theorem dX12_meanEvening_13 : decode cX12_meanEvening 13 = .ok (.iconst 0, 1) := by decide +kernel
theorem dX12_meanEvening_14 : decode cX12_meanEvening 14 = .ok (.istore_n 2, 1) := by decide +kernel
theorem dX12_meanEvening_15 : decode cX12_meanEvening 15 = .ok (.iconst 0, 1) := by decide +kernel
theorem dX12_meanEvening_16 : decode cX12_meanEvening 16 = .ok (.istore_n 3, 1) := by decide +kernel
theorem dX12_meanEvening_17 : decode cX12_meanEvening 17 = .ok (.iload_n 3, 1) := by decide +kernel
theorem dX12_meanEvening_18 : decode cX12_meanEvening 18 = .ok (.bipush 12, 2) := by decide +kernel
theorem dX12_meanEvening_20 : decode cX12_meanEvening 20 = .ok (.if_icmp .ge 18, 3) := by decide +kernel
theorem dX12_meanEvening_23 : decode cX12_meanEvening 23 = .ok (.iload_n 2, 1) := by decide +kernel
theorem dX12_meanEvening_24 : decode cX12_meanEvening 24 = .ok (.aload_n 0, 1) := by decide +kernel
theorem dX12_meanEvening_25 : decode cX12_meanEvening 25 = .ok (.iload_n 3, 1) := by decide +kernel
theorem dX12_meanEvening_26 : decode cX12_meanEvening 26 = .ok (.iload_n 1, 1) := by decide +kernel
theorem dX12_meanEvening_27 : decode cX12_meanEvening 27 = .ok (.invokevirtual 169, 3) := by decide +kernel
theorem dX12_meanEvening_30 : decode cX12_meanEvening 30 = .ok (.iadd, 1) := by decide +kernel
theorem dX12_meanEvening_31 : decode cX12_meanEvening 31 = .ok (.istore_n 2, 1) := by decide +kernel
theorem dX12_meanEvening_32 : decode cX12_meanEvening 32 = .ok (.iinc 3 1, 3) := by decide +kernel
theorem dX12_meanEvening_35 : decode cX12_meanEvening 35 = .ok (.goto (-18), 3) := by decide +kernel
theorem dX12_meanEvening_38 : decode cX12_meanEvening 38 = .ok (.iload_n 2, 1) := by decide +kernel
theorem dX12_meanEvening_39 : decode cX12_meanEvening 39 = .ok (.i2d, 1) := by decide +kernel
theorem dX12_meanEvening_40 : decode cX12_meanEvening 40 = .ok (.ldc2_w 268, 3) := by decide +kernel
theorem dX12_meanEvening_43 : decode cX12_meanEvening 43 = .ok (.ddiv, 1) := by decide +kernel
theorem dX12_meanEvening_44 : decode cX12_meanEvening 44 = .ok (.dreturn, 1) := by decide +kernel
set_option maxRecDepth 20000 in
theorem ggX12_lineupShare_X12_actsNow : GoodIn wsX12_lineupShare wsX12_actsNow := goodIn_r _ [6, 7, 8, 9, 5, 10, 11, 56, 57, 58, 59, 60, 61, 62, 63, 64, 65, 66, 67, 68, 69, 70, 71] (by decide +kernel) (by decide +kernel)
set_option maxRecDepth 20000 in
theorem gX12_lineupShare_X12_actsNow : GoodIn wsX12_lineupShare (wsV RX12 150 RX12 yX12_actsNow wsX12_actsNow) := goodIn_app (goodIn_of _ (by decide +kernel)) ggX12_lineupShare_X12_actsNow
set_option maxRecDepth 20000 in
theorem ggX12_lineupShare_X12_lineup : GoodIn wsX12_lineupShare wsX12_lineup := goodIn_r _ [15, 16, 17, 18, 19, 20, 5, 21, 22, 23, 24, 25, 26, 27, 28, 7, 8, 9, 10, 11, 29, 30, 31, 32, 33, 34, 35, 36, 37, 38, 39, 40, 41, 42, 43, 44, 45, 46, 47, 48, 56, 57, 58, 59, 60, 61, 62, 63, 64, 65, 66, 67, 68, 69, 70, 71] (by decide +kernel) (by decide +kernel)
set_option maxRecDepth 20000 in
theorem gX12_lineupShare_X12_lineup : GoodIn wsX12_lineupShare (wsV RX12 147 RX12 yX12_lineup wsX12_lineup) := goodIn_app (goodIn_of _ (by decide +kernel)) ggX12_lineupShare_X12_lineup
set_option maxRecDepth 20000 in
theorem ggX12_lineupShare_J6_bitCount_0f7a4 : GoodIn wsX12_lineupShare wsJ6_bitCount_0f7a4 := goodIn_r _ [52, 53, 54, 55] (by decide +kernel) (by decide +kernel)
set_option maxRecDepth 20000 in
theorem gX12_lineupShare_J6_bitCount_0f7a4 : GoodIn wsX12_lineupShare (va_wsS RX12 260 yJ6_bitCount_0f7a4 wsJ6_bitCount_0f7a4) := goodIn_app (goodIn_of _ (by decide +kernel)) ggX12_lineupShare_J6_bitCount_0f7a4
theorem dX12_lineupShare_0 : decode cX12_lineupShare 0 = .ok (.aload_n 0, 1) := by decide +kernel
theorem dX12_lineupShare_1 : decode cX12_lineupShare 1 = .ok (.iconst 0, 1) := by decide +kernel
theorem dX12_lineupShare_2 : decode cX12_lineupShare 2 = .ok (.putfield 39, 3) := by decide +kernel
theorem dX12_lineupShare_5 : decode cX12_lineupShare 5 = .ok (.aload_n 0, 1) := by decide +kernel
theorem dX12_lineupShare_6 : decode cX12_lineupShare 6 = .ok (.invokevirtual 150, 3) := by decide +kernel
theorem dX12_lineupShare_9 : decode cX12_lineupShare 9 = .ok (.istore_n 1, 1) := by decide +kernel
theorem dX12_lineupShare_10 : decode cX12_lineupShare 10 = .ok (.iload_n 1, 1) := by decide +kernel
theorem dX12_lineupShare_11 : decode cX12_lineupShare 11 = .ok (.ifCond .ne 7, 3) := by decide +kernel
theorem dX12_lineupShare_14 : decode cX12_lineupShare 14 = .ok (.fconst 0, 1) := by decide +kernel
theorem dX12_lineupShare_15 : decode cX12_lineupShare 15 = .ok (.goto 14, 3) := by decide +kernel
theorem dX12_lineupShare_18 : decode cX12_lineupShare 18 = .ok (.aload_n 0, 1) := by decide +kernel
theorem dX12_lineupShare_19 : decode cX12_lineupShare 19 = .ok (.invokevirtual 147, 3) := by decide +kernel
theorem dX12_lineupShare_22 : decode cX12_lineupShare 22 = .ok (.invokestatic 260, 3) := by decide +kernel
theorem dX12_lineupShare_25 : decode cX12_lineupShare 25 = .ok (.i2f, 1) := by decide +kernel
theorem dX12_lineupShare_26 : decode cX12_lineupShare 26 = .ok (.iload_n 1, 1) := by decide +kernel
theorem dX12_lineupShare_27 : decode cX12_lineupShare 27 = .ok (.i2f, 1) := by decide +kernel
theorem dX12_lineupShare_28 : decode cX12_lineupShare 28 = .ok (.fdiv, 1) := by decide +kernel
theorem dX12_lineupShare_29 : decode cX12_lineupShare 29 = .ok (.freturn, 1) := by decide +kernel
set_option maxRecDepth 20000 in
theorem ggX12_checksum_X12_isAct : GoodIn wsX12_checksum wsX12_isAct := goodIn_r _ [10, 11, 12, 9, 13, 14, 15, 16, 17, 5, 18, 19, 20, 21, 22, 23, 24, 25, 26, 27, 28, 29, 30, 31, 32, 33] (by decide +kernel) (by decide +kernel)
set_option maxRecDepth 20000 in
theorem gX12_checksum_X12_isAct : GoodIn wsX12_checksum (wsV RX12 103 RX12 yX12_isAct wsX12_isAct) := goodIn_app (goodIn_of _ (by decide +kernel)) ggX12_checksum_X12_isAct
set_option maxRecDepth 20000 in
theorem ggX12_checksum_X12_its : GoodIn wsX12_checksum wsX12_its := goodIn_r _ [17, 5, 18, 19, 20, 21, 22, 23, 24, 25, 26, 27, 28, 29, 30, 31, 32, 33] (by decide +kernel) (by decide +kernel)
set_option maxRecDepth 20000 in
theorem gX12_checksum_X12_its : GoodIn wsX12_checksum (wsV RX12 51 RX12 yX12_its wsX12_its) := goodIn_app (goodIn_of _ (by decide +kernel)) ggX12_checksum_X12_its
theorem dX12_checksum_0 : decode cX12_checksum 0 = .ok (.aload_n 0, 1) := by decide +kernel
theorem dX12_checksum_1 : decode cX12_checksum 1 = .ok (.iconst 0, 1) := by decide +kernel
theorem dX12_checksum_2 : decode cX12_checksum 2 = .ok (.putfield 39, 3) := by decide +kernel
theorem dX12_checksum_5 : decode cX12_checksum 5 = .ok (.ldc2_w 270, 3) := by decide +kernel
theorem dX12_checksum_8 : decode cX12_checksum 8 = .ok (.lstore_n 1, 1) := by decide +kernel
theorem dX12_checksum_9 : decode cX12_checksum 9 = .ok (.iconst 0, 1) := by decide +kernel
theorem dX12_checksum_10 : decode cX12_checksum 10 = .ok (.istore_n 3, 1) := by decide +kernel
theorem dX12_checksum_11 : decode cX12_checksum 11 = .ok (.iload_n 3, 1) := by decide +kernel
theorem dX12_checksum_12 : decode cX12_checksum 12 = .ok (.bipush 16, 2) := by decide +kernel
theorem dX12_checksum_14 : decode cX12_checksum 14 = .ok (.if_icmp .ge 43, 3) := by decide +kernel
theorem dX12_checksum_17 : decode cX12_checksum 17 = .ok (.aload_n 0, 1) := by decide +kernel
theorem dX12_checksum_18 : decode cX12_checksum 18 = .ok (.iload_n 3, 1) := by decide +kernel
theorem dX12_checksum_19 : decode cX12_checksum 19 = .ok (.invokevirtual 103, 3) := by decide +kernel
theorem dX12_checksum_22 : decode cX12_checksum 22 = .ok (.ifCond .eq 29, 3) := by decide +kernel
theorem dX12_checksum_25 : decode cX12_checksum 25 = .ok (.ldc2_w 272, 3) := by decide +kernel
theorem dX12_checksum_28 : decode cX12_checksum 28 = .ok (.lload_n 1, 1) := by decide +kernel
theorem dX12_checksum_29 : decode cX12_checksum 29 = .ok (.lmul, 1) := by decide +kernel
theorem dX12_checksum_30 : decode cX12_checksum 30 = .ok (.aload_n 0, 1) := by decide +kernel
theorem dX12_checksum_31 : decode cX12_checksum 31 = .ok (.iload_n 3, 1) := by decide +kernel
theorem dX12_checksum_32 : decode cX12_checksum 32 = .ok (.iconst 2, 1) := by decide +kernel
theorem dX12_checksum_33 : decode cX12_checksum 33 = .ok (.invokevirtual 51, 3) := by decide +kernel
theorem dX12_checksum_36 : decode cX12_checksum 36 = .ok (.i2l, 1) := by decide +kernel
theorem dX12_checksum_37 : decode cX12_checksum 37 = .ok (.ladd, 1) := by decide +kernel
theorem dX12_checksum_38 : decode cX12_checksum 38 = .ok (.ldc2_w 274, 3) := by decide +kernel
theorem dX12_checksum_41 : decode cX12_checksum 41 = .ok (.aload_n 0, 1) := by decide +kernel
theorem dX12_checksum_42 : decode cX12_checksum 42 = .ok (.iload_n 3, 1) := by decide +kernel
theorem dX12_checksum_43 : decode cX12_checksum 43 = .ok (.iconst 1, 1) := by decide +kernel
theorem dX12_checksum_44 : decode cX12_checksum 44 = .ok (.invokevirtual 51, 3) := by decide +kernel
theorem dX12_checksum_47 : decode cX12_checksum 47 = .ok (.i2l, 1) := by decide +kernel
theorem dX12_checksum_48 : decode cX12_checksum 48 = .ok (.lmul, 1) := by decide +kernel
theorem dX12_checksum_49 : decode cX12_checksum 49 = .ok (.ladd, 1) := by decide +kernel
theorem dX12_checksum_50 : decode cX12_checksum 50 = .ok (.lstore_n 1, 1) := by decide +kernel
theorem dX12_checksum_51 : decode cX12_checksum 51 = .ok (.iinc 3 1, 3) := by decide +kernel
theorem dX12_checksum_54 : decode cX12_checksum 54 = .ok (.goto (-43), 3) := by decide +kernel
theorem dX12_checksum_57 : decode cX12_checksum 57 = .ok (.iconst 0, 1) := by decide +kernel
theorem dX12_checksum_58 : decode cX12_checksum 58 = .ok (.istore_n 3, 1) := by decide +kernel
theorem dX12_checksum_59 : decode cX12_checksum 59 = .ok (.iload_n 3, 1) := by decide +kernel
theorem dX12_checksum_60 : decode cX12_checksum 60 = .ok (.bipush 12, 2) := by decide +kernel
theorem dX12_checksum_62 : decode cX12_checksum 62 = .ok (.if_icmp .ge 27, 3) := by decide +kernel
theorem dX12_checksum_65 : decode cX12_checksum 65 = .ok (.ldc2_w 272, 3) := by decide +kernel
theorem dX12_checksum_68 : decode cX12_checksum 68 = .ok (.lload_n 1, 1) := by decide +kernel
theorem dX12_checksum_69 : decode cX12_checksum 69 = .ok (.lmul, 1) := by decide +kernel
theorem dX12_checksum_70 : decode cX12_checksum 70 = .ok (.aload_n 0, 1) := by decide +kernel
theorem dX12_checksum_71 : decode cX12_checksum 71 = .ok (.getfield 9, 3) := by decide +kernel
theorem dX12_checksum_74 : decode cX12_checksum 74 = .ok (.sipush 501, 3) := by decide +kernel
theorem dX12_checksum_77 : decode cX12_checksum 77 = .ok (.iload_n 3, 1) := by decide +kernel
theorem dX12_checksum_78 : decode cX12_checksum 78 = .ok (.iadd, 1) := by decide +kernel
theorem dX12_checksum_79 : decode cX12_checksum 79 = .ok (.iaload, 1) := by decide +kernel
theorem dX12_checksum_80 : decode cX12_checksum 80 = .ok (.i2l, 1) := by decide +kernel
theorem dX12_checksum_81 : decode cX12_checksum 81 = .ok (.ladd, 1) := by decide +kernel
theorem dX12_checksum_82 : decode cX12_checksum 82 = .ok (.lstore_n 1, 1) := by decide +kernel
theorem dX12_checksum_83 : decode cX12_checksum 83 = .ok (.iinc 3 1, 3) := by decide +kernel
theorem dX12_checksum_86 : decode cX12_checksum 86 = .ok (.goto (-27), 3) := by decide +kernel
theorem dX12_checksum_89 : decode cX12_checksum 89 = .ok (.lload_n 1, 1) := by decide +kernel
theorem dX12_checksum_90 : decode cX12_checksum 90 = .ok (.lreturn, 1) := by decide +kernel
set_option maxRecDepth 20000 in
theorem ggX12_areEvenings_X12_findsEvening : GoodIn wsX12_areEvenings wsX12_findsEvening := goodIn_r _ [7, 8, 9, 10, 11, 12, 1, 2, 13, 14, 15, 6, 16, 17, 18, 19, 20, 21, 22, 23, 24, 25, 26, 27, 28, 29, 30, 31, 32, 33, 34, 35, 36, 37, 38, 39, 40, 41, 42, 43, 44, 45, 46, 47, 48, 49, 50, 51, 52, 53, 54, 55, 56, 57, 58, 59, 60, 61, 62, 63, 64, 65, 66, 67] (by decide +kernel) (by decide +kernel)
set_option maxRecDepth 20000 in
theorem gX12_areEvenings_X12_findsEvening : GoodIn wsX12_areEvenings (wsV RX12 169 RX12 yX12_findsEvening wsX12_findsEvening) := goodIn_app (goodIn_of _ (by decide +kernel)) ggX12_areEvenings_X12_findsEvening
set_option maxRecDepth 20000 in
theorem ggX12_areEvenings_X12_wishOf : GoodIn wsX12_areEvenings wsX12_wishOf := goodIn_r _ [36, 32, 52, 53, 54, 55, 56, 57, 58, 59, 60, 61, 62, 63, 64, 65, 66, 67] (by decide +kernel) (by decide +kernel)
set_option maxRecDepth 20000 in
theorem gX12_areEvenings_X12_wishOf : GoodIn wsX12_areEvenings (wsV RX12 100 RX12 yX12_wishOf wsX12_wishOf) := goodIn_app (goodIn_of _ (by decide +kernel)) ggX12_areEvenings_X12_wishOf
theorem dX12_areEvenings_0 : decode cX12_areEvenings 0 = .ok (.iconst 1, 1) := by decide +kernel
theorem dX12_areEvenings_1 : decode cX12_areEvenings 1 = .ok (.istore_n 1, 1) := by decide +kernel
theorem dX12_areEvenings_2 : decode cX12_areEvenings 2 = .ok (.iconst 0, 1) := by decide +kernel
theorem dX12_areEvenings_3 : decode cX12_areEvenings 3 = .ok (.istore_n 2, 1) := by decide +kernel
theorem dX12_areEvenings_4 : decode cX12_areEvenings 4 = .ok (.iload_n 2, 1) := by decide +kernel
theorem dX12_areEvenings_5 : decode cX12_areEvenings 5 = .ok (.bipush 12, 2) := by decide +kernel
theorem dX12_areEvenings_7 : decode cX12_areEvenings 7 = .ok (.if_icmp .ge 85, 3) := by decide +kernel
theorem dX12_areEvenings_10 : decode cX12_areEvenings 10 = .ok (.iconst 0, 1) := by decide +kernel
theorem dX12_areEvenings_11 : decode cX12_areEvenings 11 = .ok (.istore_n 3, 1) := by decide +kernel
theorem dX12_areEvenings_12 : decode cX12_areEvenings 12 = .ok (.iload_n 3, 1) := by decide +kernel
theorem dX12_areEvenings_13 : decode cX12_areEvenings 13 = .ok (.iconst 4, 1) := by decide +kernel
theorem dX12_areEvenings_14 : decode cX12_areEvenings 14 = .ok (.if_icmp .ge 72, 3) := by decide +kernel
theorem dX12_areEvenings_17 : decode cX12_areEvenings 17 = .ok (.aload_n 0, 1) := by decide +kernel
theorem dX12_areEvenings_18 : decode cX12_areEvenings 18 = .ok (.iload_n 2, 1) := by decide +kernel
theorem dX12_areEvenings_19 : decode cX12_areEvenings 19 = .ok (.iload_n 3, 1) := by decide +kernel
theorem dX12_areEvenings_20 : decode cX12_areEvenings 20 = .ok (.invokevirtual 169, 3) := by decide +kernel
theorem dX12_areEvenings_23 : decode cX12_areEvenings 23 = .ok (.istore 4, 2) := by decide +kernel
theorem dX12_areEvenings_25 : decode cX12_areEvenings 25 = .ok (.iconst 0, 1) := by decide +kernel
theorem dX12_areEvenings_26 : decode cX12_areEvenings 26 = .ok (.istore 5, 2) := by decide +kernel
theorem dX12_areEvenings_28 : decode cX12_areEvenings 28 = .ok (.iconst 0, 1) := by decide +kernel
theorem dX12_areEvenings_29 : decode cX12_areEvenings 29 = .ok (.istore 6, 2) := by decide +kernel
theorem dX12_areEvenings_31 : decode cX12_areEvenings 31 = .ok (.iload 6, 2) := by decide +kernel
theorem dX12_areEvenings_33 : decode cX12_areEvenings 33 = .ok (.aload_n 0, 1) := by decide +kernel
theorem dX12_areEvenings_34 : decode cX12_areEvenings 34 = .ok (.getfield 163, 3) := by decide +kernel
theorem dX12_areEvenings_37 : decode cX12_areEvenings 37 = .ok (.if_icmp .ge 26, 3) := by decide +kernel
theorem dX12_areEvenings_40 : decode cX12_areEvenings 40 = .ok (.iload 5, 2) := by decide +kernel
theorem dX12_areEvenings_42 : decode cX12_areEvenings 42 = .ok (.aload_n 0, 1) := by decide +kernel
theorem dX12_areEvenings_43 : decode cX12_areEvenings 43 = .ok (.iload_n 2, 1) := by decide +kernel
theorem dX12_areEvenings_44 : decode cX12_areEvenings 44 = .ok (.aload_n 0, 1) := by decide +kernel
theorem dX12_areEvenings_45 : decode cX12_areEvenings 45 = .ok (.getfield 21, 3) := by decide +kernel
theorem dX12_areEvenings_48 : decode cX12_areEvenings 48 = .ok (.iload 6, 2) := by decide +kernel
theorem dX12_areEvenings_50 : decode cX12_areEvenings 50 = .ok (.iaload, 1) := by decide +kernel
theorem dX12_areEvenings_51 : decode cX12_areEvenings 51 = .ok (.invokevirtual 100, 3) := by decide +kernel
theorem dX12_areEvenings_54 : decode cX12_areEvenings 54 = .ok (.iadd, 1) := by decide +kernel
theorem dX12_areEvenings_55 : decode cX12_areEvenings 55 = .ok (.istore 5, 2) := by decide +kernel
theorem dX12_areEvenings_57 : decode cX12_areEvenings 57 = .ok (.iinc 6 1, 3) := by decide +kernel
theorem dX12_areEvenings_60 : decode cX12_areEvenings 60 = .ok (.goto (-29), 3) := by decide +kernel
theorem dX12_areEvenings_63 : decode cX12_areEvenings 63 = .ok (.iload_n 1, 1) := by decide +kernel
theorem dX12_areEvenings_64 : decode cX12_areEvenings 64 = .ok (.ifCond .eq 14, 3) := by decide +kernel
theorem dX12_areEvenings_67 : decode cX12_areEvenings 67 = .ok (.iload 5, 2) := by decide +kernel
theorem dX12_areEvenings_69 : decode cX12_areEvenings 69 = .ok (.iload 4, 2) := by decide +kernel
theorem dX12_areEvenings_71 : decode cX12_areEvenings 71 = .ok (.if_icmp .ne 7, 3) := by decide +kernel
theorem dX12_areEvenings_74 : decode cX12_areEvenings 74 = .ok (.iconst 1, 1) := by decide +kernel
theorem dX12_areEvenings_75 : decode cX12_areEvenings 75 = .ok (.goto 4, 3) := by decide +kernel
theorem dX12_areEvenings_78 : decode cX12_areEvenings 78 = .ok (.iconst 0, 1) := by decide +kernel
theorem dX12_areEvenings_79 : decode cX12_areEvenings 79 = .ok (.istore_n 1, 1) := by decide +kernel
theorem dX12_areEvenings_80 : decode cX12_areEvenings 80 = .ok (.iinc 3 1, 3) := by decide +kernel
theorem dX12_areEvenings_83 : decode cX12_areEvenings 83 = .ok (.goto (-71), 3) := by decide +kernel
theorem dX12_areEvenings_86 : decode cX12_areEvenings 86 = .ok (.iinc 2 1, 3) := by decide +kernel
theorem dX12_areEvenings_89 : decode cX12_areEvenings 89 = .ok (.goto (-85), 3) := by decide +kernel
theorem dX12_areEvenings_92 : decode cX12_areEvenings 92 = .ok (.iload_n 1, 1) := by decide +kernel
theorem dX12_areEvenings_93 : decode cX12_areEvenings 93 = .ok (.ireturn, 1) := by decide +kernel
set_option maxRecDepth 20000 in
theorem ggX12_isProved_X12_proofNow : GoodIn wsX12_isProved wsX12_proofNow := goodIn_r _ [6, 7, 8, 9, 10, 11, 5, 12, 1, 26, 27, 28, 29, 30, 31, 32, 33, 34, 35, 36, 37, 38, 39, 40, 41] (by decide +kernel) (by decide +kernel)
set_option maxRecDepth 20000 in
theorem gX12_isProved_X12_proofNow : GoodIn wsX12_isProved (wsV RX12 230 RX12 yX12_proofNow wsX12_proofNow) := goodIn_app (goodIn_of _ (by decide +kernel)) ggX12_isProved_X12_proofNow
set_option maxRecDepth 20000 in
theorem ggX12_isProved_X12_helpersNow : GoodIn wsX12_isProved wsX12_helpersNow := goodIn_r _ [16, 17, 18, 19, 20, 5, 21, 1, 22, 23, 24, 25, 26, 27, 28, 29, 30, 31, 32, 33, 34, 35, 36, 37, 38, 39, 40, 41] (by decide +kernel) (by decide +kernel)
set_option maxRecDepth 20000 in
theorem gX12_isProved_X12_helpersNow : GoodIn wsX12_isProved (wsV RX12 223 RX12 yX12_helpersNow wsX12_helpersNow) := goodIn_app (goodIn_of _ (by decide +kernel)) ggX12_isProved_X12_helpersNow
theorem dX12_isProved_0 : decode cX12_isProved 0 = .ok (.aload_n 0, 1) := by decide +kernel
theorem dX12_isProved_1 : decode cX12_isProved 1 = .ok (.invokevirtual 230, 3) := by decide +kernel
theorem dX12_isProved_4 : decode cX12_isProved 4 = .ok (.istore_n 1, 1) := by decide +kernel
theorem dX12_isProved_5 : decode cX12_isProved 5 = .ok (.iconst 0, 1) := by decide +kernel
theorem dX12_isProved_6 : decode cX12_isProved 6 = .ok (.istore_n 2, 1) := by decide +kernel
theorem dX12_isProved_7 : decode cX12_isProved 7 = .ok (.iconst 0, 1) := by decide +kernel
theorem dX12_isProved_8 : decode cX12_isProved 8 = .ok (.istore_n 3, 1) := by decide +kernel
theorem dX12_isProved_9 : decode cX12_isProved 9 = .ok (.iload_n 3, 1) := by decide +kernel
theorem dX12_isProved_10 : decode cX12_isProved 10 = .ok (.bipush 24, 2) := by decide +kernel
theorem dX12_isProved_12 : decode cX12_isProved 12 = .ok (.if_icmp .ge 35, 3) := by decide +kernel
theorem dX12_isProved_15 : decode cX12_isProved 15 = .ok (.iload_n 2, 1) := by decide +kernel
theorem dX12_isProved_16 : decode cX12_isProved 16 = .ok (.iload_n 1, 1) := by decide +kernel
theorem dX12_isProved_17 : decode cX12_isProved 17 = .ok (.iload_n 3, 1) := by decide +kernel
theorem dX12_isProved_18 : decode cX12_isProved 18 = .ok (.ishr, 1) := by decide +kernel
theorem dX12_isProved_19 : decode cX12_isProved 19 = .ok (.iconst 1, 1) := by decide +kernel
theorem dX12_isProved_20 : decode cX12_isProved 20 = .ok (.iand, 1) := by decide +kernel
theorem dX12_isProved_21 : decode cX12_isProved 21 = .ok (.iconst 1, 1) := by decide +kernel
theorem dX12_isProved_22 : decode cX12_isProved 22 = .ok (.if_icmp .ne 16, 3) := by decide +kernel
theorem dX12_isProved_25 : decode cX12_isProved 25 = .ok (.aload_n 0, 1) := by decide +kernel
theorem dX12_isProved_26 : decode cX12_isProved 26 = .ok (.getfield 9, 3) := by decide +kernel
theorem dX12_isProved_29 : decode cX12_isProved 29 = .ok (.sipush 387, 3) := by decide +kernel
theorem dX12_isProved_32 : decode cX12_isProved 32 = .ok (.iload_n 3, 1) := by decide +kernel
theorem dX12_isProved_33 : decode cX12_isProved 33 = .ok (.iadd, 1) := by decide +kernel
theorem dX12_isProved_34 : decode cX12_isProved 34 = .ok (.iaload, 1) := by decide +kernel
theorem dX12_isProved_35 : decode cX12_isProved 35 = .ok (.goto 4, 3) := by decide +kernel
theorem dX12_isProved_38 : decode cX12_isProved 38 = .ok (.iconst 0, 1) := by decide +kernel
theorem dX12_isProved_39 : decode cX12_isProved 39 = .ok (.iadd, 1) := by decide +kernel
theorem dX12_isProved_40 : decode cX12_isProved 40 = .ok (.istore_n 2, 1) := by decide +kernel
theorem dX12_isProved_41 : decode cX12_isProved 41 = .ok (.iinc 3 1, 3) := by decide +kernel
theorem dX12_isProved_44 : decode cX12_isProved 44 = .ok (.goto (-35), 3) := by decide +kernel
theorem dX12_isProved_47 : decode cX12_isProved 47 = .ok (.iload_n 2, 1) := by decide +kernel
theorem dX12_isProved_48 : decode cX12_isProved 48 = .ok (.aload_n 0, 1) := by decide +kernel
theorem dX12_isProved_49 : decode cX12_isProved 49 = .ok (.invokevirtual 223, 3) := by decide +kernel
theorem dX12_isProved_52 : decode cX12_isProved 52 = .ok (.if_icmp .ne 7, 3) := by decide +kernel
theorem dX12_isProved_55 : decode cX12_isProved 55 = .ok (.iconst 1, 1) := by decide +kernel
theorem dX12_isProved_56 : decode cX12_isProved 56 = .ok (.goto 4, 3) := by decide +kernel
theorem dX12_isProved_59 : decode cX12_isProved 59 = .ok (.iconst 0, 1) := by decide +kernel
theorem dX12_isProved_60 : decode cX12_isProved 60 = .ok (.ireturn, 1) := by decide +kernel
set_option maxRecDepth 20000 in
theorem ggX12_errors_X12_lineup : GoodIn wsX12_errors wsX12_lineup := goodIn_r _ [8, 2, 9, 10, 11, 12, 7, 13, 14, 15, 16, 17, 18, 19, 20, 21, 22, 23, 24, 3, 25, 26, 27, 28, 29, 30, 31, 32, 33, 34, 35, 36, 37, 38, 39, 40, 41, 42, 43, 44, 145, 146, 147, 148, 149, 150, 151, 152, 153, 154, 155, 156, 157, 158, 159, 160] (by decide +kernel) (by decide +kernel)
set_option maxRecDepth 20000 in
theorem gX12_errors_X12_lineup : GoodIn wsX12_errors (wsV RX12 147 RX12 yX12_lineup wsX12_lineup) := goodIn_app (goodIn_of _ (by decide +kernel)) ggX12_errors_X12_lineup
set_option maxRecDepth 20000 in
theorem ggX12_errors_X12_bound : GoodIn wsX12_errors wsX12_bound := goodIn_r _ [48, 49, 50, 51, 7, 52, 53, 54, 55, 56, 14, 15, 16, 17, 18, 19, 20, 21, 22, 23, 24, 3, 29, 30, 31, 32, 33, 34, 35, 36, 37, 38, 39, 40, 41, 42, 43, 44, 145, 146, 147, 148, 149, 150, 151, 152, 153, 154, 155, 156, 157, 158, 159, 160] (by decide +kernel) (by decide +kernel)
set_option maxRecDepth 20000 in
theorem gX12_errors_X12_bound : GoodIn wsX12_errors (wsV RX12 143 RX12 yX12_bound wsX12_bound) := goodIn_app (goodIn_of _ (by decide +kernel)) ggX12_errors_X12_bound
set_option maxRecDepth 20000 in
theorem ggX12_errors_X12_outByNow : GoodIn wsX12_errors wsX12_outByNow := goodIn_r _ [60, 3, 61, 62, 63, 7, 64, 65, 66, 67, 68, 69, 70, 55, 71, 145, 146, 147, 148, 149, 150, 151, 152, 153, 154, 155, 156, 157, 158, 159, 160] (by decide +kernel) (by decide +kernel)
set_option maxRecDepth 20000 in
theorem gX12_errors_X12_outByNow : GoodIn wsX12_errors (wsV RX12 184 RX12 yX12_outByNow wsX12_outByNow) := goodIn_app (goodIn_of _ (by decide +kernel)) ggX12_errors_X12_outByNow
set_option maxRecDepth 20000 in
theorem ggX12_errors_X12_areEvenings : GoodIn wsX12_errors wsX12_areEvenings := goodIn_r _ [75, 76, 77, 78, 79, 80, 7, 81, 82, 53, 54, 55, 56, 83, 84, 85, 86, 87, 88, 89, 90, 14, 15, 16, 17, 18, 19, 20, 21, 22, 23, 24, 3, 41, 42, 43, 44, 91, 92, 93, 94, 33, 34, 35, 36, 95, 96, 97, 98, 69, 70, 71, 145, 146, 147, 148, 149, 150, 151, 152, 153, 154, 155, 156, 157, 158, 159, 160] (by decide +kernel) (by decide +kernel)
set_option maxRecDepth 20000 in
theorem gX12_errors_X12_areEvenings : GoodIn wsX12_errors (wsV RX12 276 RX12 yX12_areEvenings wsX12_areEvenings) := goodIn_app (goodIn_of _ (by decide +kernel)) ggX12_errors_X12_areEvenings
set_option maxRecDepth 20000 in
theorem ggX12_errors_X12_tooMany : GoodIn wsX12_errors wsX12_tooMany := goodIn_r _ [64, 65, 66, 67, 7, 68, 3, 69, 70, 55, 71, 145, 146, 147, 148, 149, 150, 151, 152, 153, 154, 155, 156, 157, 158, 159, 160] (by decide +kernel) (by decide +kernel)
set_option maxRecDepth 20000 in
theorem gX12_errors_X12_tooMany : GoodIn wsX12_errors (wsV RX12 181 RX12 yX12_tooMany wsX12_tooMany) := goodIn_app (goodIn_of _ (by decide +kernel)) ggX12_errors_X12_tooMany
set_option maxRecDepth 20000 in
theorem ggX12_errors_X12_waitsInOne : GoodIn wsX12_errors wsX12_waitsInOne := goodIn_r _ [102, 103, 3, 104, 105, 106, 7, 107, 108, 109, 110, 111, 112, 113, 114, 115, 145, 146, 147, 148, 149, 150, 151, 152, 153, 154, 155, 156, 157, 158, 159, 160] (by decide +kernel) (by decide +kernel)
set_option maxRecDepth 20000 in
theorem gX12_errors_X12_waitsInOne : GoodIn wsX12_errors (wsV RX12 211 RX12 yX12_waitsInOne wsX12_waitsInOne) := goodIn_app (goodIn_of _ (by decide +kernel)) ggX12_errors_X12_waitsInOne
set_option maxRecDepth 20000 in
theorem ggX12_errors_X12_waitsInLines : GoodIn wsX12_errors wsX12_waitsInLines := goodIn_r _ [119, 104, 105, 106, 7, 107, 3, 120, 121, 122, 123, 145, 146, 147, 148, 149, 150, 151, 152, 153, 154, 155, 156, 157, 158, 159, 160] (by decide +kernel) (by decide +kernel)
set_option maxRecDepth 20000 in
theorem gX12_errors_X12_waitsInLines : GoodIn wsX12_errors (wsV RX12 214 RX12 yX12_waitsInLines wsX12_waitsInLines) := goodIn_app (goodIn_of _ (by decide +kernel)) ggX12_errors_X12_waitsInLines
set_option maxRecDepth 20000 in
theorem ggX12_errors_X12_isProved : GoodIn wsX12_errors wsX12_isProved := goodIn_r _ [127, 3, 128, 129, 130, 7, 131, 2, 9, 132, 133, 134, 135, 136, 137, 138, 139, 140, 141, 142, 143, 144, 69, 70, 55, 71, 145, 146, 147, 148, 149, 150, 151, 152, 153, 154, 155, 156, 157, 158, 159, 160] (by decide +kernel) (by decide +kernel)
set_option maxRecDepth 20000 in
theorem gX12_errors_X12_isProved : GoodIn wsX12_errors (wsV RX12 280 RX12 yX12_isProved wsX12_isProved) := goodIn_app (goodIn_of _ (by decide +kernel)) ggX12_errors_X12_isProved
theorem dX12_errors_0 : decode cX12_errors 0 = .ok (.aload_n 0, 1) := by decide +kernel
theorem dX12_errors_1 : decode cX12_errors 1 = .ok (.iconst 0, 1) := by decide +kernel
theorem dX12_errors_2 : decode cX12_errors 2 = .ok (.putfield 39, 3) := by decide +kernel
theorem dX12_errors_5 : decode cX12_errors 5 = .ok (.aload_n 0, 1) := by decide +kernel
theorem dX12_errors_6 : decode cX12_errors 6 = .ok (.invokevirtual 147, 3) := by decide +kernel
theorem dX12_errors_9 : decode cX12_errors 9 = .ok (.istore_n 1, 1) := by decide +kernel
theorem dX12_errors_10 : decode cX12_errors 10 = .ok (.iload_n 1, 1) := by decide +kernel
theorem dX12_errors_11 : decode cX12_errors 11 = .ok (.ifCond .lt 18, 3) := by decide +kernel
theorem dX12_errors_14 : decode cX12_errors 14 = .ok (.aload_n 0, 1) := by decide +kernel
theorem dX12_errors_15 : decode cX12_errors 15 = .ok (.getfield 124, 3) := by decide +kernel
theorem dX12_errors_18 : decode cX12_errors 18 = .ok (.aload_n 0, 1) := by decide +kernel
theorem dX12_errors_19 : decode cX12_errors 19 = .ok (.invokevirtual 143, 3) := by decide +kernel
theorem dX12_errors_22 : decode cX12_errors 22 = .ok (.if_icmp .gt 7, 3) := by decide +kernel
theorem dX12_errors_25 : decode cX12_errors 25 = .ok (.iconst 0, 1) := by decide +kernel
theorem dX12_errors_26 : decode cX12_errors 26 = .ok (.goto 4, 3) := by decide +kernel
theorem dX12_errors_29 : decode cX12_errors 29 = .ok (.iconst 1, 1) := by decide +kernel
theorem dX12_errors_30 : decode cX12_errors 30 = .ok (.istore_n 2, 1) := by decide +kernel
theorem dX12_errors_31 : decode cX12_errors 31 = .ok (.aload_n 0, 1) := by decide +kernel
theorem dX12_errors_32 : decode cX12_errors 32 = .ok (.invokevirtual 184, 3) := by decide +kernel
theorem dX12_errors_35 : decode cX12_errors 35 = .ok (.istore_n 3, 1) := by decide +kernel
theorem dX12_errors_36 : decode cX12_errors 36 = .ok (.iconst 0, 1) := by decide +kernel
theorem dX12_errors_37 : decode cX12_errors 37 = .ok (.istore 4, 2) := by decide +kernel
theorem dX12_errors_39 : decode cX12_errors 39 = .ok (.iconst 0, 1) := by decide +kernel
theorem dX12_errors_40 : decode cX12_errors 40 = .ok (.istore 5, 2) := by decide +kernel
theorem dX12_errors_42 : decode cX12_errors 42 = .ok (.iload 5, 2) := by decide +kernel
theorem dX12_errors_44 : decode cX12_errors 44 = .ok (.bipush 25, 2) := by decide +kernel
theorem dX12_errors_46 : decode cX12_errors 46 = .ok (.if_icmp .ge 25, 3) := by decide +kernel
theorem dX12_errors_49 : decode cX12_errors 49 = .ok (.iload 4, 2) := by decide +kernel
theorem dX12_errors_51 : decode cX12_errors 51 = .ok (.aload_n 0, 1) := by decide +kernel
theorem dX12_errors_52 : decode cX12_errors 52 = .ok (.getfield 9, 3) := by decide +kernel
theorem dX12_errors_55 : decode cX12_errors 55 = .ok (.sipush 500, 3) := by decide +kernel
theorem dX12_errors_58 : decode cX12_errors 58 = .ok (.iload 5, 2) := by decide +kernel
theorem dX12_errors_60 : decode cX12_errors 60 = .ok (.iadd, 1) := by decide +kernel
theorem dX12_errors_61 : decode cX12_errors 61 = .ok (.iaload, 1) := by decide +kernel
theorem dX12_errors_62 : decode cX12_errors 62 = .ok (.iadd, 1) := by decide +kernel
theorem dX12_errors_63 : decode cX12_errors 63 = .ok (.istore 4, 2) := by decide +kernel
theorem dX12_errors_65 : decode cX12_errors 65 = .ok (.iinc 5 1, 3) := by decide +kernel
theorem dX12_errors_68 : decode cX12_errors 68 = .ok (.goto (-26), 3) := by decide +kernel
theorem dX12_errors_71 : decode cX12_errors 71 = .ok (.iload_n 2, 1) := by decide +kernel
theorem dX12_errors_72 : decode cX12_errors 72 = .ok (.aload_n 0, 1) := by decide +kernel
theorem dX12_errors_73 : decode cX12_errors 73 = .ok (.invokevirtual 276, 3) := by decide +kernel
theorem dX12_errors_76 : decode cX12_errors 76 = .ok (.ifCond .eq 7, 3) := by decide +kernel
theorem dX12_errors_79 : decode cX12_errors 79 = .ok (.iconst 0, 1) := by decide +kernel
theorem dX12_errors_80 : decode cX12_errors 80 = .ok (.goto 4, 3) := by decide +kernel
theorem dX12_errors_83 : decode cX12_errors 83 = .ok (.iconst 1, 1) := by decide +kernel
theorem dX12_errors_84 : decode cX12_errors 84 = .ok (.iadd, 1) := by decide +kernel
theorem dX12_errors_85 : decode cX12_errors 85 = .ok (.istore_n 2, 1) := by decide +kernel
theorem dX12_errors_86 : decode cX12_errors 86 = .ok (.iload_n 2, 1) := by decide +kernel
theorem dX12_errors_87 : decode cX12_errors 87 = .ok (.iload_n 3, 1) := by decide +kernel
theorem dX12_errors_88 : decode cX12_errors 88 = .ok (.iconst (-1), 1) := by decide +kernel
theorem dX12_errors_89 : decode cX12_errors 89 = .ok (.if_icmp .eq 11, 3) := by decide +kernel
theorem dX12_errors_92 : decode cX12_errors 92 = .ok (.aload_n 0, 1) := by decide +kernel
theorem dX12_errors_93 : decode cX12_errors 93 = .ok (.iload_n 3, 1) := by decide +kernel
theorem dX12_errors_94 : decode cX12_errors 94 = .ok (.invokevirtual 181, 3) := by decide +kernel
theorem dX12_errors_97 : decode cX12_errors 97 = .ok (.ifCond .ne 7, 3) := by decide +kernel
theorem dX12_errors_100 : decode cX12_errors 100 = .ok (.iconst 0, 1) := by decide +kernel
theorem dX12_errors_101 : decode cX12_errors 101 = .ok (.goto 4, 3) := by decide +kernel
theorem dX12_errors_104 : decode cX12_errors 104 = .ok (.iconst 1, 1) := by decide +kernel
theorem dX12_errors_105 : decode cX12_errors 105 = .ok (.iadd, 1) := by decide +kernel
theorem dX12_errors_106 : decode cX12_errors 106 = .ok (.istore_n 2, 1) := by decide +kernel
theorem dX12_errors_107 : decode cX12_errors 107 = .ok (.iload_n 2, 1) := by decide +kernel
theorem dX12_errors_108 : decode cX12_errors 108 = .ok (.aload_n 0, 1) := by decide +kernel
theorem dX12_errors_109 : decode cX12_errors 109 = .ok (.invokevirtual 211, 3) := by decide +kernel
theorem dX12_errors_112 : decode cX12_errors 112 = .ok (.aload_n 0, 1) := by decide +kernel
theorem dX12_errors_113 : decode cX12_errors 113 = .ok (.invokevirtual 214, 3) := by decide +kernel
theorem dX12_errors_116 : decode cX12_errors 116 = .ok (.if_icmp .gt 7, 3) := by decide +kernel
theorem dX12_errors_119 : decode cX12_errors 119 = .ok (.iconst 0, 1) := by decide +kernel
theorem dX12_errors_120 : decode cX12_errors 120 = .ok (.goto 4, 3) := by decide +kernel
theorem dX12_errors_123 : decode cX12_errors 123 = .ok (.iconst 1, 1) := by decide +kernel
theorem dX12_errors_124 : decode cX12_errors 124 = .ok (.iadd, 1) := by decide +kernel
theorem dX12_errors_125 : decode cX12_errors 125 = .ok (.istore_n 2, 1) := by decide +kernel
theorem dX12_errors_126 : decode cX12_errors 126 = .ok (.iload_n 2, 1) := by decide +kernel
theorem dX12_errors_127 : decode cX12_errors 127 = .ok (.aload_n 0, 1) := by decide +kernel
theorem dX12_errors_128 : decode cX12_errors 128 = .ok (.invokevirtual 280, 3) := by decide +kernel
theorem dX12_errors_131 : decode cX12_errors 131 = .ok (.ifCond .eq 7, 3) := by decide +kernel
theorem dX12_errors_134 : decode cX12_errors 134 = .ok (.iconst 0, 1) := by decide +kernel
theorem dX12_errors_135 : decode cX12_errors 135 = .ok (.goto 4, 3) := by decide +kernel
theorem dX12_errors_138 : decode cX12_errors 138 = .ok (.iconst 1, 1) := by decide +kernel
theorem dX12_errors_139 : decode cX12_errors 139 = .ok (.iadd, 1) := by decide +kernel
theorem dX12_errors_140 : decode cX12_errors 140 = .ok (.istore_n 2, 1) := by decide +kernel
theorem dX12_errors_141 : decode cX12_errors 141 = .ok (.iload_n 2, 1) := by decide +kernel
theorem dX12_errors_142 : decode cX12_errors 142 = .ok (.iload 4, 2) := by decide +kernel
theorem dX12_errors_144 : decode cX12_errors 144 = .ok (.ifCond .ne 7, 3) := by decide +kernel
theorem dX12_errors_147 : decode cX12_errors 147 = .ok (.iconst 0, 1) := by decide +kernel
theorem dX12_errors_148 : decode cX12_errors 148 = .ok (.goto 4, 3) := by decide +kernel
theorem dX12_errors_151 : decode cX12_errors 151 = .ok (.iconst 1, 1) := by decide +kernel
theorem dX12_errors_152 : decode cX12_errors 152 = .ok (.iadd, 1) := by decide +kernel
theorem dX12_errors_153 : decode cX12_errors 153 = .ok (.ireturn, 1) := by decide +kernel
