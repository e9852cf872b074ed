set_option maxRecDepth 20000 in
theorem gX5_goesOn_X5_isHome : GoodIn wsX5_goesOn (wsV RX5 78 RX5 yX5_isHome wsX5_isHome) := goodIn_app (goodIn_of _ (by decide +kernel)) ggX5_goesOn_X5_isHome
set_option maxRecDepth 20000 in
theorem ggX5_goesOn_X5_wishOf : GoodIn wsX5_goesOn wsX5_wishOf := goodIn_r _ [23, 1, 12, 13, 14, 6, 15, 24, 25, 26, 27, 28, 29, 30, 31, 8, 9, 10, 11, 36, 37, 38, 39, 40, 41, 42, 43, 44, 45, 46, 47, 48, 49, 50] rfl (by decide +kernel)
set_option maxRecDepth 20000 in
theorem gX5_goesOn_X5_wishOf : GoodIn wsX5_goesOn (wsV RX5 115 RX5 yX5_wishOf wsX5_wishOf) := goodIn_app (goodIn_of _ (by decide +kernel)) ggX5_goesOn_X5_wishOf
set_option maxRecDepth 20000 in
theorem ggX5_goesOn_X5_is : GoodIn wsX5_goesOn wsX5_is := goodIn_r _ [15, 1, 36, 37, 38, 39, 40, 41, 42, 43, 44, 45, 46, 47, 48, 49, 50] rfl (by decide +kernel)
set_option maxRecDepth 20000 in
theorem gX5_goesOn_X5_is : GoodIn wsX5_goesOn (wsV RX5 44 RX5 yX5_is wsX5_is) := goodIn_app (goodIn_of _ (by decide +kernel)) ggX5_goesOn_X5_is
set_option maxRecDepth 20000 in
theorem ggX5_goesOn_X5_puts : GoodIn wsX5_goesOn wsX5_puts := goodIn_r _ [35, 1, 36, 37, 38, 39, 40, 41, 42, 43, 44, 45, 46, 47, 48, 49, 50] rfl (by decide +kernel)
set_option maxRecDepth 20000 in
theorem gX5_goesOn_X5_puts : GoodIn wsX5_goesOn (wsV RX5 64 RX5 yX5_puts wsX5_puts) := goodIn_app (goodIn_of _ (by decide +kernel)) ggX5_goesOn_X5_puts
theorem dX5_goesOn_0 : decode cX5_goesOn 0 = .ok (.aload_n 0, 1) := by decide +kernel
theorem dX5_goesOn_1 : decode cX5_goesOn 1 = .ok (.invokevirtual 112, 3) := by decide +kernel
theorem dX5_goesOn_4 : decode cX5_goesOn 4 = .ok (.istore_n 1, 1) := by decide +kernel
theorem dX5_goesOn_5 : decode cX5_goesOn 5 = .ok (.iload_n 1, 1) := by decide +kernel
theorem dX5_goesOn_6 : decode cX5_goesOn 6 = .ok (.aload_n 0, 1) := by decide +kernel
theorem dX5_goesOn_7 : decode cX5_goesOn 7 = .ok (.getfield 7, 3) := by decide +kernel
theorem dX5_goesOn_10 : decode cX5_goesOn 10 = .ok (.iconst 0, 1) := by decide +kernel
theorem dX5_goesOn_11 : decode cX5_goesOn 11 = .ok (.iaload, 1) := by decide +kernel
theorem dX5_goesOn_12 : decode cX5_goesOn 12 = .ok (.if_icmp .ne 5, 3) := by decide +kernel
theorem dX5_goesOn_15 : decode cX5_goesOn 15 = .ok (.iconst 0, 1) := by decide +kernel
theorem dX5_goesOn_16 : decode cX5_goesOn 16 = .ok (.ireturn, 1) := by decide +kernel
theorem dX5_goesOn_17 : decode cX5_goesOn 17 = .ok (.aload_n 0, 1) := by decide +kernel
theorem dX5_goesOn_18 : decode cX5_goesOn 18 = .ok (.invokevirtual 108, 3) := by decide +kernel
theorem dX5_goesOn_21 : decode cX5_goesOn 21 = .ok (.istore_n 2, 1) := by decide +kernel
theorem dX5_goesOn_22 : decode cX5_goesOn 22 = .ok (.iconst 0, 1) := by decide +kernel
theorem dX5_goesOn_23 : decode cX5_goesOn 23 = .ok (.istore_n 3, 1) := by decide +kernel
theorem dX5_goesOn_24 : decode cX5_goesOn 24 = .ok (.iload_n 3, 1) := by decide +kernel
theorem dX5_goesOn_25 : decode cX5_goesOn 25 = .ok (.aload_n 0, 1) := by decide +kernel
theorem dX5_goesOn_26 : decode cX5_goesOn 26 = .ok (.getfield 7, 3) := by decide +kernel
theorem dX5_goesOn_29 : decode cX5_goesOn 29 = .ok (.iconst 0, 1) := by decide +kernel
theorem dX5_goesOn_30 : decode cX5_goesOn 30 = .ok (.iaload, 1) := by decide +kernel
theorem dX5_goesOn_31 : decode cX5_goesOn 31 = .ok (.if_icmp .ge 70, 3) := by decide +kernel
theorem dX5_goesOn_34 : decode cX5_goesOn 34 = .ok (.aload_n 0, 1) := by decide +kernel
theorem dX5_goesOn_35 : decode cX5_goesOn 35 = .ok (.iload_n 3, 1) := by decide +kernel
theorem dX5_goesOn_36 : decode cX5_goesOn 36 = .ok (.invokevirtual 78, 3) := by decide +kernel
theorem dX5_goesOn_39 : decode cX5_goesOn 39 = .ok (.ifCond .eq 7, 3) := by decide +kernel
theorem dX5_goesOn_42 : decode cX5_goesOn 42 = .ok (.iconst 0, 1) := by decide +kernel
theorem dX5_goesOn_43 : decode cX5_goesOn 43 = .ok (.goto 10, 3) := by decide +kernel
theorem dX5_goesOn_46 : decode cX5_goesOn 46 = .ok (.aload_n 0, 1) := by decide +kernel
theorem dX5_goesOn_47 : decode cX5_goesOn 47 = .ok (.iload_n 3, 1) := by decide +kernel
theorem dX5_goesOn_48 : decode cX5_goesOn 48 = .ok (.iload_n 2, 1) := by decide +kernel
theorem dX5_goesOn_49 : decode cX5_goesOn 49 = .ok (.iload_n 1, 1) := by decide +kernel
theorem dX5_goesOn_50 : decode cX5_goesOn 50 = .ok (.invokevirtual 115, 3) := by decide +kernel
theorem dX5_goesOn_53 : decode cX5_goesOn 53 = .ok (.istore 4, 2) := by decide +kernel
theorem dX5_goesOn_55 : decode cX5_goesOn 55 = .ok (.aload_n 0, 1) := by decide +kernel
theorem dX5_goesOn_56 : decode cX5_goesOn 56 = .ok (.getfield 35, 3) := by decide +kernel
theorem dX5_goesOn_59 : decode cX5_goesOn 59 = .ok (.iload_n 3, 1) := by decide +kernel
theorem dX5_goesOn_60 : decode cX5_goesOn 60 = .ok (.aload_n 0, 1) := by decide +kernel
theorem dX5_goesOn_61 : decode cX5_goesOn 61 = .ok (.iload_n 3, 1) := by decide +kernel
theorem dX5_goesOn_62 : decode cX5_goesOn 62 = .ok (.invokevirtual 78, 3) := by decide +kernel
theorem dX5_goesOn_65 : decode cX5_goesOn 65 = .ok (.ifCond .eq 7, 3) := by decide +kernel
theorem dX5_goesOn_68 : decode cX5_goesOn 68 = .ok (.iconst 0, 1) := by decide +kernel
theorem dX5_goesOn_69 : decode cX5_goesOn 69 = .ok (.goto 25, 3) := by decide +kernel
theorem dX5_goesOn_72 : decode cX5_goesOn 72 = .ok (.iload 4, 2) := by decide +kernel
theorem dX5_goesOn_74 : decode cX5_goesOn 74 = .ok (.aload_n 0, 1) := by decide +kernel
theorem dX5_goesOn_75 : decode cX5_goesOn 75 = .ok (.getfield 7, 3) := by decide +kernel
theorem dX5_goesOn_78 : decode cX5_goesOn 78 = .ok (.iconst 2, 1) := by decide +kernel
theorem dX5_goesOn_79 : decode cX5_goesOn 79 = .ok (.iaload, 1) := by decide +kernel
theorem dX5_goesOn_80 : decode cX5_goesOn 80 = .ok (.if_icmp .ge 12, 3) := by decide +kernel
theorem dX5_goesOn_83 : decode cX5_goesOn 83 = .ok (.aload_n 0, 1) := by decide +kernel
theorem dX5_goesOn_84 : decode cX5_goesOn 84 = .ok (.getfield 7, 3) := by decide +kernel
theorem dX5_goesOn_87 : decode cX5_goesOn 87 = .ok (.iconst 2, 1) := by decide +kernel
theorem dX5_goesOn_88 : decode cX5_goesOn 88 = .ok (.iaload, 1) := by decide +kernel
theorem dX5_goesOn_89 : decode cX5_goesOn 89 = .ok (.goto 5, 3) := by decide +kernel
theorem dX5_goesOn_92 : decode cX5_goesOn 92 = .ok (.iload 4, 2) := by decide +kernel
theorem dX5_goesOn_94 : decode cX5_goesOn 94 = .ok (.iastore, 1) := by decide +kernel
theorem dX5_goesOn_95 : decode cX5_goesOn 95 = .ok (.iinc 3 1, 3) := by decide +kernel
theorem dX5_goesOn_98 : decode cX5_goesOn 98 = .ok (.goto (-74), 3) := by decide +kernel
theorem dX5_goesOn_101 : decode cX5_goesOn 101 = .ok (.aload_n 0, 1) := by decide +kernel
theorem dX5_goesOn_102 : decode cX5_goesOn 102 = .ok (.getfield 7, 3) := by decide +kernel
theorem dX5_goesOn_105 : decode cX5_goesOn 105 = .ok (.iconst 4, 1) := by decide +kernel
theorem dX5_goesOn_106 : decode cX5_goesOn 106 = .ok (.dup2, 1) := by decide +kernel
theorem dX5_goesOn_107 : decode cX5_goesOn 107 = .ok (.iaload, 1) := by decide +kernel
theorem dX5_goesOn_108 : decode cX5_goesOn 108 = .ok (.iconst 1, 1) := by decide +kernel
theorem dX5_goesOn_109 : decode cX5_goesOn 109 = .ok (.iadd, 1) := by decide +kernel
theorem dX5_goesOn_110 : decode cX5_goesOn 110 = .ok (.iastore, 1) := by decide +kernel
theorem dX5_goesOn_111 : decode cX5_goesOn 111 = .ok (.iconst 0, 1) := by decide +kernel
theorem dX5_goesOn_112 : decode cX5_goesOn 112 = .ok (.istore_n 3, 1) := by decide +kernel
theorem dX5_goesOn_113 : decode cX5_goesOn 113 = .ok (.iconst 0, 1) := by decide +kernel
theorem dX5_goesOn_114 : decode cX5_goesOn 114 = .ok (.istore 4, 2) := by decide +kernel
theorem dX5_goesOn_116 : decode cX5_goesOn 116 = .ok (.iload 4, 2) := by decide +kernel
theorem dX5_goesOn_118 : decode cX5_goesOn 118 = .ok (.aload_n 0, 1) := by decide +kernel
theorem dX5_goesOn_119 : decode cX5_goesOn 119 = .ok (.getfield 7, 3) := by decide +kernel
theorem dX5_goesOn_122 : decode cX5_goesOn 122 = .ok (.iconst 0, 1) := by decide +kernel
theorem dX5_goesOn_123 : decode cX5_goesOn 123 = .ok (.iaload, 1) := by decide +kernel
theorem dX5_goesOn_124 : decode cX5_goesOn 124 = .ok (.if_icmp .ge 196, 3) := by decide +kernel
theorem dX5_goesOn_127 : decode cX5_goesOn 127 = .ok (.aload_n 0, 1) := by decide +kernel
theorem dX5_goesOn_128 : decode cX5_goesOn 128 = .ok (.iload 4, 2) := by decide +kernel
theorem dX5_goesOn_130 : decode cX5_goesOn 130 = .ok (.invokevirtual 78, 3) := by decide +kernel
theorem dX5_goesOn_133 : decode cX5_goesOn 133 = .ok (.ifCond .eq 6, 3) := by decide +kernel
theorem dX5_goesOn_136 : decode cX5_goesOn 136 = .ok (.goto 178, 3) := by decide +kernel
theorem dX5_goesOn_139 : decode cX5_goesOn 139 = .ok (.aload_n 0, 1) := by decide +kernel
theorem dX5_goesOn_140 : decode cX5_goesOn 140 = .ok (.getfield 35, 3) := by decide +kernel
theorem dX5_goesOn_143 : decode cX5_goesOn 143 = .ok (.iload 4, 2) := by decide +kernel
theorem dX5_goesOn_145 : decode cX5_goesOn 145 = .ok (.iaload, 1) := by decide +kernel
theorem dX5_goesOn_146 : decode cX5_goesOn 146 = .ok (.iconst 4, 1) := by decide +kernel
theorem dX5_goesOn_147 : decode cX5_goesOn 147 = .ok (.if_icmp .le 15, 3) := by decide +kernel
theorem dX5_goesOn_150 : decode cX5_goesOn 150 = .ok (.aload_n 0, 1) := by decide +kernel
theorem dX5_goesOn_151 : decode cX5_goesOn 151 = .ok (.getfield 35, 3) := by decide +kernel
theorem dX5_goesOn_154 : decode cX5_goesOn 154 = .ok (.iload 4, 2) := by decide +kernel
theorem dX5_goesOn_156 : decode cX5_goesOn 156 = .ok (.iaload, 1) := by decide +kernel
theorem dX5_goesOn_157 : decode cX5_goesOn 157 = .ok (.iconst 4, 1) := by decide +kernel
theorem dX5_goesOn_158 : decode cX5_goesOn 158 = .ok (.isub, 1) := by decide +kernel
theorem dX5_goesOn_159 : decode cX5_goesOn 159 = .ok (.goto 4, 3) := by decide +kernel
theorem dX5_goesOn_162 : decode cX5_goesOn 162 = .ok (.iconst 0, 1) := by decide +kernel
theorem dX5_goesOn_163 : decode cX5_goesOn 163 = .ok (.istore 5, 2) := by decide +kernel
theorem dX5_goesOn_165 : decode cX5_goesOn 165 = .ok (.aload_n 0, 1) := by decide +kernel
theorem dX5_goesOn_166 : decode cX5_goesOn 166 = .ok (.iload 4, 2) := by decide +kernel
theorem dX5_goesOn_168 : decode cX5_goesOn 168 = .ok (.iconst 2, 1) := by decide +kernel
theorem dX5_goesOn_169 : decode cX5_goesOn 169 = .ok (.invokevirtual 44, 3) := by decide +kernel
theorem dX5_goesOn_172 : decode cX5_goesOn 172 = .ok (.iload 5, 2) := by decide +kernel
theorem dX5_goesOn_174 : decode cX5_goesOn 174 = .ok (.if_icmp .ge 33, 3) := by decide +kernel
theorem dX5_goesOn_177 : decode cX5_goesOn 177 = .ok (.aload_n 0, 1) := by decide +kernel
theorem dX5_goesOn_178 : decode cX5_goesOn 178 = .ok (.getfield 35, 3) := by decide +kernel
theorem dX5_goesOn_181 : decode cX5_goesOn 181 = .ok (.iload 4, 2) := by decide +kernel
theorem dX5_goesOn_183 : decode cX5_goesOn 183 = .ok (.aload_n 0, 1) := by decide +kernel
theorem dX5_goesOn_184 : decode cX5_goesOn 184 = .ok (.getfield 7, 3) := by decide +kernel
theorem dX5_goesOn_187 : decode cX5_goesOn 187 = .ok (.iconst 2, 1) := by decide +kernel
theorem dX5_goesOn_188 : decode cX5_goesOn 188 = .ok (.iaload, 1) := by decide +kernel
theorem dX5_goesOn_189 : decode cX5_goesOn 189 = .ok (.iconst 4, 1) := by decide +kernel
theorem dX5_goesOn_190 : decode cX5_goesOn 190 = .ok (.if_icmp .le 12, 3) := by decide +kernel
theorem dX5_goesOn_193 : decode cX5_goesOn 193 = .ok (.aload_n 0, 1) := by decide +kernel
theorem dX5_goesOn_194 : decode cX5_goesOn 194 = .ok (.getfield 7, 3) := by decide +kernel
theorem dX5_goesOn_197 : decode cX5_goesOn 197 = .ok (.iconst 2, 1) := by decide +kernel
theorem dX5_goesOn_198 : decode cX5_goesOn 198 = .ok (.iaload, 1) := by decide +kernel
theorem dX5_goesOn_199 : decode cX5_goesOn 199 = .ok (.goto 4, 3) := by decide +kernel
theorem dX5_goesOn_202 : decode cX5_goesOn 202 = .ok (.iconst 4, 1) := by decide +kernel
theorem dX5_goesOn_203 : decode cX5_goesOn 203 = .ok (.iastore, 1) := by decide +kernel
theorem dX5_goesOn_204 : decode cX5_goesOn 204 = .ok (.goto 55, 3) := by decide +kernel
theorem dX5_goesOn_207 : decode cX5_goesOn 207 = .ok (.aload_n 0, 1) := by decide +kernel
theorem dX5_goesOn_208 : decode cX5_goesOn 208 = .ok (.iload 4, 2) := by decide +kernel
theorem dX5_goesOn_210 : decode cX5_goesOn 210 = .ok (.iconst 2, 1) := by decide +kernel
theorem dX5_goesOn_211 : decode cX5_goesOn 211 = .ok (.invokevirtual 44, 3) := by decide +kernel
theorem dX5_goesOn_214 : decode cX5_goesOn 214 = .ok (.iload 5, 2) := by decide +kernel
theorem dX5_goesOn_216 : decode cX5_goesOn 216 = .ok (.isub, 1) := by decide +kernel
theorem dX5_goesOn_217 : decode cX5_goesOn 217 = .ok (.aload_n 0, 1) := by decide +kernel
theorem dX5_goesOn_218 : decode cX5_goesOn 218 = .ok (.getfield 35, 3) := by decide +kernel
theorem dX5_goesOn_221 : decode cX5_goesOn 221 = .ok (.iload 4, 2) := by decide +kernel
theorem dX5_goesOn_223 : decode cX5_goesOn 223 = .ok (.iaload, 1) := by decide +kernel
theorem dX5_goesOn_224 : decode cX5_goesOn 224 = .ok (.iconst 4, 1) := by decide +kernel
theorem dX5_goesOn_225 : decode cX5_goesOn 225 = .ok (.if_icmp .ge 7, 3) := by decide +kernel
theorem dX5_goesOn_228 : decode cX5_goesOn 228 = .ok (.iconst 1, 1) := by decide +kernel
theorem dX5_goesOn_229 : decode cX5_goesOn 229 = .ok (.goto 4, 3) := by decide +kernel
theorem dX5_goesOn_232 : decode cX5_goesOn 232 = .ok (.iconst 0, 1) := by decide +kernel
theorem dX5_goesOn_233 : decode cX5_goesOn 233 = .ok (.iadd, 1) := by decide +kernel
theorem dX5_goesOn_234 : decode cX5_goesOn 234 = .ok (.istore 6, 2) := by decide +kernel
theorem dX5_goesOn_236 : decode cX5_goesOn 236 = .ok (.aload_n 0, 1) := by decide +kernel
theorem dX5_goesOn_237 : decode cX5_goesOn 237 = .ok (.iload 4, 2) := by decide +kernel
theorem dX5_goesOn_239 : decode cX5_goesOn 239 = .ok (.iconst 2, 1) := by decide +kernel
theorem dX5_goesOn_240 : decode cX5_goesOn 240 = .ok (.iload 6, 2) := by decide +kernel
theorem dX5_goesOn_242 : decode cX5_goesOn 242 = .ok (.sipush 999, 3) := by decide +kernel
theorem dX5_goesOn_245 : decode cX5_goesOn 245 = .ok (.if_icmp .le 9, 3) := by decide +kernel
theorem dX5_goesOn_248 : decode cX5_goesOn 248 = .ok (.sipush 999, 3) := by decide +kernel
theorem dX5_goesOn_251 : decode cX5_goesOn 251 = .ok (.goto 5, 3) := by decide +kernel
theorem dX5_goesOn_254 : decode cX5_goesOn 254 = .ok (.iload 6, 2) := by decide +kernel
theorem dX5_goesOn_256 : decode cX5_goesOn 256 = .ok (.invokevirtual 64, 3) := by decide +kernel
theorem dX5_goesOn_259 : decode cX5_goesOn 259 = .ok (.aload_n 0, 1) := by decide +kernel
theorem dX5_goesOn_260 : decode cX5_goesOn 260 = .ok (.iload 4, 2) := by decide +kernel
theorem dX5_goesOn_262 : decode cX5_goesOn 262 = .ok (.iconst 5, 1) := by decide +kernel
theorem dX5_goesOn_263 : decode cX5_goesOn 263 = .ok (.aload_n 0, 1) := by decide +kernel
theorem dX5_goesOn_264 : decode cX5_goesOn 264 = .ok (.iload 4, 2) := by decide +kernel
theorem dX5_goesOn_266 : decode cX5_goesOn 266 = .ok (.iconst 5, 1) := by decide +kernel
theorem dX5_goesOn_267 : decode cX5_goesOn 267 = .ok (.invokevirtual 44, 3) := by decide +kernel
theorem dX5_goesOn_270 : decode cX5_goesOn 270 = .ok (.aload_n 0, 1) := by decide +kernel
theorem dX5_goesOn_271 : decode cX5_goesOn 271 = .ok (.getfield 35, 3) := by decide +kernel
theorem dX5_goesOn_274 : decode cX5_goesOn 274 = .ok (.iload 4, 2) := by decide +kernel
theorem dX5_goesOn_276 : decode cX5_goesOn 276 = .ok (.iaload, 1) := by decide +kernel
theorem dX5_goesOn_277 : decode cX5_goesOn 277 = .ok (.iadd, 1) := by decide +kernel
theorem dX5_goesOn_278 : decode cX5_goesOn 278 = .ok (.invokevirtual 64, 3) := by decide +kernel
theorem dX5_goesOn_281 : decode cX5_goesOn 281 = .ok (.aload_n 0, 1) := by decide +kernel
theorem dX5_goesOn_282 : decode cX5_goesOn 282 = .ok (.iload 4, 2) := by decide +kernel
theorem dX5_goesOn_284 : decode cX5_goesOn 284 = .ok (.iconst 5, 1) := by decide +kernel
theorem dX5_goesOn_285 : decode cX5_goesOn 285 = .ok (.invokevirtual 44, 3) := by decide +kernel
theorem dX5_goesOn_288 : decode cX5_goesOn 288 = .ok (.aload_n 0, 1) := by decide +kernel
theorem dX5_goesOn_289 : decode cX5_goesOn 289 = .ok (.getfield 7, 3) := by decide +kernel
theorem dX5_goesOn_292 : decode cX5_goesOn 292 = .ok (.iconst 1, 1) := by decide +kernel
theorem dX5_goesOn_293 : decode cX5_goesOn 293 = .ok (.iaload, 1) := by decide +kernel
theorem dX5_goesOn_294 : decode cX5_goesOn 294 = .ok (.if_icmp .lt 20, 3) := by decide +kernel
theorem dX5_goesOn_297 : decode cX5_goesOn 297 = .ok (.aload_n 0, 1) := by decide +kernel
theorem dX5_goesOn_298 : decode cX5_goesOn 298 = .ok (.iload 4, 2) := by decide +kernel
theorem dX5_goesOn_300 : decode cX5_goesOn 300 = .ok (.bipush 7, 2) := by decide +kernel
theorem dX5_goesOn_302 : decode cX5_goesOn 302 = .ok (.aload_n 0, 1) := by decide +kernel
theorem dX5_goesOn_303 : decode cX5_goesOn 303 = .ok (.getfield 7, 3) := by decide +kernel
theorem dX5_goesOn_306 : decode cX5_goesOn 306 = .ok (.iconst 4, 1) := by decide +kernel
theorem dX5_goesOn_307 : decode cX5_goesOn 307 = .ok (.iaload, 1) := by decide +kernel
theorem dX5_goesOn_308 : decode cX5_goesOn 308 = .ok (.invokevirtual 64, 3) := by decide +kernel
theorem dX5_goesOn_311 : decode cX5_goesOn 311 = .ok (.iinc 3 1, 3) := by decide +kernel
theorem dX5_goesOn_314 : decode cX5_goesOn 314 = .ok (.iinc 4 1, 3) := by decide +kernel
theorem dX5_goesOn_317 : decode cX5_goesOn 317 = .ok (.goto (-201), 3) := by decide +kernel
theorem dX5_goesOn_320 : decode cX5_goesOn 320 = .ok (.iload_n 3, 1) := by decide +kernel
theorem dX5_goesOn_321 : decode cX5_goesOn 321 = .ok (.ireturn, 1) := by decide +kernel
set_option maxRecDepth 20000 in
theorem ggX5_seconds_X5_isIn : GoodIn wsX5_seconds wsX5_isIn := goodIn_r _ [6] rfl (by decide +kernel)
set_option maxRecDepth 20000 in
theorem gX5_seconds_X5_isIn : GoodIn wsX5_seconds (va_wsS RX5 50 yX5_isIn wsX5_isIn) := goodIn_app (goodIn_of _ (by decide +kernel)) ggX5_seconds_X5_isIn
set_option maxRecDepth 20000 in
theorem ggX5_seconds_X5_finds : GoodIn wsX5_seconds wsX5_finds := goodIn_r _ [10, 11, 2, 50, 51, 52, 53, 54, 55, 56, 57, 58, 59, 60, 61, 62, 63, 64] rfl (by decide +kernel)
set_option maxRecDepth 20000 in
theorem gX5_seconds_X5_finds : GoodIn wsX5_seconds (wsV RX5 40 RX5 yX5_finds wsX5_finds) := goodIn_app (goodIn_of _ (by decide +kernel)) ggX5_seconds_X5_finds
set_option maxRecDepth 20000 in
theorem ggX5_seconds_X5_goesOn : GoodIn wsX5_seconds wsX5_goesOn := goodIn_r _ [15, 16, 17, 18, 19, 20, 5, 21, 22, 23, 24, 25, 26, 27, 28, 29, 30, 31, 32, 33, 34, 35, 36, 37, 38, 39, 40, 41, 42, 43, 44, 45, 46, 47, 48, 49, 50, 51, 52, 53, 54, 55, 56, 57, 58, 59, 60, 61, 62, 63, 64] rfl (by decide +kernel)
set_option maxRecDepth 20000 in
theorem gX5_seconds_X5_goesOn : GoodIn wsX5_seconds (wsV RX5 124 RX5 yX5_goesOn wsX5_goesOn) := goodIn_app (goodIn_of _ (by decide +kernel)) ggX5_seconds_X5_goesOn
theorem dX5_seconds_0 : decode cX5_seconds 0 = .ok (.iload_n 1, 1) := by decide +kernel
theorem dX5_seconds_1 : decode cX5_seconds 1 = .ok (.i2l, 1) := by decide +kernel
theorem dX5_seconds_2 : decode cX5_seconds 2 = .ok (.lconst 1, 1) := by decide +kernel
theorem dX5_seconds_3 : decode cX5_seconds 3 = .ok (.ldc2_w 122, 3) := by decide +kernel
theorem dX5_seconds_6 : decode cX5_seconds 6 = .ok (.invokestatic 50, 3) := by decide +kernel
theorem dX5_seconds_9 : decode cX5_seconds 9 = .ok (.ifCond .ne 10, 3) := by decide +kernel
theorem dX5_seconds_12 : decode cX5_seconds 12 = .ok (.aload_n 0, 1) := by decide +kernel
theorem dX5_seconds_13 : decode cX5_seconds 13 = .ok (.ldc 38, 2) := by decide +kernel
theorem dX5_seconds_15 : decode cX5_seconds 15 = .ok (.invokevirtual 40, 3) := by decide +kernel
theorem dX5_seconds_18 : decode cX5_seconds 18 = .ok (.ireturn, 1) := by decide +kernel
theorem dX5_seconds_19 : decode cX5_seconds 19 = .ok (.iconst 0, 1) := by decide +kernel
theorem dX5_seconds_20 : decode cX5_seconds 20 = .ok (.istore_n 2, 1) := by decide +kernel
theorem dX5_seconds_21 : decode cX5_seconds 21 = .ok (.iconst 0, 1) := by decide +kernel
theorem dX5_seconds_22 : decode cX5_seconds 22 = .ok (.istore_n 3, 1) := by decide +kernel
theorem dX5_seconds_23 : decode cX5_seconds 23 = .ok (.iload_n 3, 1) := by decide +kernel
theorem dX5_seconds_24 : decode cX5_seconds 24 = .ok (.iload_n 1, 1) := by decide +kernel
theorem dX5_seconds_25 : decode cX5_seconds 25 = .ok (.if_icmp .ge 16, 3) := by decide +kernel
theorem dX5_seconds_28 : decode cX5_seconds 28 = .ok (.iload_n 2, 1) := by decide +kernel
theorem dX5_seconds_29 : decode cX5_seconds 29 = .ok (.aload_n 0, 1) := by decide +kernel
theorem dX5_seconds_30 : decode cX5_seconds 30 = .ok (.invokevirtual 124, 3) := by decide +kernel
theorem dX5_seconds_33 : decode cX5_seconds 33 = .ok (.iadd, 1) := by decide +kernel
theorem dX5_seconds_34 : decode cX5_seconds 34 = .ok (.istore_n 2, 1) := by decide +kernel
theorem dX5_seconds_35 : decode cX5_seconds 35 = .ok (.iinc 3 1, 3) := by decide +kernel
theorem dX5_seconds_38 : decode cX5_seconds 38 = .ok (.goto (-15), 3) := by decide +kernel
theorem dX5_seconds_41 : decode cX5_seconds 41 = .ok (.iload_n 2, 1) := by decide +kernel
theorem dX5_seconds_42 : decode cX5_seconds 42 = .ok (.ireturn, 1) := by decide +kernel
set_option maxRecDepth 20000 in
theorem ggX5_now_X5_homeMany : GoodIn wsX5_now wsX5_homeMany := goodIn_r _ [7, 1, 8, 9, 10, 6, 11, 12, 13, 14, 15, 21, 22, 23, 24, 25, 26, 27, 28, 29, 30, 31, 32, 33, 34, 35] rfl (by decide +kernel)
set_option maxRecDepth 20000 in
theorem gX5_now_X5_homeMany : GoodIn wsX5_now (wsV RX5 112 RX5 yX5_homeMany wsX5_homeMany) := goodIn_app (goodIn_of _ (by decide +kernel)) ggX5_now_X5_homeMany
set_option maxRecDepth 20000 in
theorem ggX5_now_X5_finds : GoodIn wsX5_now wsX5_finds := goodIn_r _ [19, 20, 2, 21, 22, 23, 24, 25, 26, 27, 28, 29, 30, 31, 32, 33, 34, 35] rfl (by decide +kernel)
set_option maxRecDepth 20000 in
theorem gX5_now_X5_finds : GoodIn wsX5_now (wsV RX5 40 RX5 yX5_finds wsX5_finds) := goodIn_app (goodIn_of _ (by decide +kernel)) ggX5_now_X5_finds
theorem dX5_now_0 : decode cX5_now 0 = .ok (.iload_n 1, 1) := by decide +kernel
theorem dX5_now_1 : decode cX5_now 1 = .ok (.tableswitch 68 0 4 #[35, 42, 49, 56, 63], 35) := by decide +kernel
theorem dX5_now_36 : decode cX5_now 36 = .ok (.aload_n 0, 1) := by decide +kernel
theorem dX5_now_37 : decode cX5_now 37 = .ok (.getfield 7, 3) := by decide +kernel
theorem dX5_now_40 : decode cX5_now 40 = .ok (.iconst 4, 1) := by decide +kernel
theorem dX5_now_41 : decode cX5_now 41 = .ok (.iaload, 1) := by decide +kernel
theorem dX5_now_42 : decode cX5_now 42 = .ok (.ireturn, 1) := by decide +kernel
theorem dX5_now_43 : decode cX5_now 43 = .ok (.aload_n 0, 1) := by decide +kernel
theorem dX5_now_44 : decode cX5_now 44 = .ok (.getfield 7, 3) := by decide +kernel
theorem dX5_now_47 : decode cX5_now 47 = .ok (.iconst 1, 1) := by decide +kernel
theorem dX5_now_48 : decode cX5_now 48 = .ok (.iaload, 1) := by decide +kernel
theorem dX5_now_49 : decode cX5_now 49 = .ok (.ireturn, 1) := by decide +kernel
theorem dX5_now_50 : decode cX5_now 50 = .ok (.aload_n 0, 1) := by decide +kernel
theorem dX5_now_51 : decode cX5_now 51 = .ok (.getfield 7, 3) := by decide +kernel
theorem dX5_now_54 : decode cX5_now 54 = .ok (.iconst 2, 1) := by decide +kernel
theorem dX5_now_55 : decode cX5_now 55 = .ok (.iaload, 1) := by decide +kernel
theorem dX5_now_56 : decode cX5_now 56 = .ok (.ireturn, 1) := by decide +kernel
theorem dX5_now_57 : decode cX5_now 57 = .ok (.aload_n 0, 1) := by decide +kernel
theorem dX5_now_58 : decode cX5_now 58 = .ok (.getfield 7, 3) := by decide +kernel
theorem dX5_now_61 : decode cX5_now 61 = .ok (.iconst 3, 1) := by decide +kernel
theorem dX5_now_62 : decode cX5_now 62 = .ok (.iaload, 1) := by decide +kernel
theorem dX5_now_63 : decode cX5_now 63 = .ok (.ireturn, 1) := by decide +kernel
theorem dX5_now_64 : decode cX5_now 64 = .ok (.aload_n 0, 1) := by decide +kernel
theorem dX5_now_65 : decode cX5_now 65 = .ok (.invokevirtual 112, 3) := by decide +kernel
theorem dX5_now_68 : decode cX5_now 68 = .ok (.ireturn, 1) := by decide +kernel
theorem dX5_now_69 : decode cX5_now 69 = .ok (.aload_n 0, 1) := by decide +kernel
theorem dX5_now_70 : decode cX5_now 70 = .ok (.ldc 38, 2) := by decide +kernel
theorem dX5_now_72 : decode cX5_now 72 = .ok (.invokevirtual 40, 3) := by decide +kernel
theorem dX5_now_75 : decode cX5_now 75 = .ok (.ireturn, 1) := by decide +kernel
set_option maxRecDepth 20000 in
theorem ggX5_whoIs_X5_placeOf : GoodIn wsX5_whoIs wsX5_placeOf := goodIn_r _ [6, 1, 7, 8, 9, 5, 10, 11, 12, 13, 14, 15, 16, 17, 18, 19, 20, 21, 22, 23, 24, 25, 26, 27, 28, 29, 30, 31, 32, 33] rfl (by decide +kernel)
set_option maxRecDepth 20000 in
theorem gX5_whoIs_X5_placeOf : GoodIn wsX5_whoIs (wsV RX5 91 RX5 yX5_placeOf wsX5_placeOf) := goodIn_app (goodIn_of _ (by decide +kernel)) ggX5_whoIs_X5_placeOf
theorem dX5_whoIs_0 : decode cX5_whoIs 0 = .ok (.iconst 0, 1) := by decide +kernel
theorem dX5_whoIs_1 : decode cX5_whoIs 1 = .ok (.istore_n 2, 1) := by decide +kernel
theorem dX5_whoIs_2 : decode cX5_whoIs 2 = .ok (.iload_n 2, 1) := by decide +kernel
theorem dX5_whoIs_3 : decode cX5_whoIs 3 = .ok (.aload_n 0, 1) := by decide +kernel
theorem dX5_whoIs_4 : decode cX5_whoIs 4 = .ok (.getfield 7, 3) := by decide +kernel
theorem dX5_whoIs_7 : decode cX5_whoIs 7 = .ok (.iconst 0, 1) := by decide +kernel
theorem dX5_whoIs_8 : decode cX5_whoIs 8 = .ok (.iaload, 1) := by decide +kernel
theorem dX5_whoIs_9 : decode cX5_whoIs 9 = .ok (.if_icmp .ge 20, 3) := by decide +kernel
theorem dX5_whoIs_12 : decode cX5_whoIs 12 = .ok (.aload_n 0, 1) := by decide +kernel
theorem dX5_whoIs_13 : decode cX5_whoIs 13 = .ok (.iload_n 2, 1) := by decide +kernel
theorem dX5_whoIs_14 : decode cX5_whoIs 14 = .ok (.invokevirtual 91, 3) := by decide +kernel
theorem dX5_whoIs_17 : decode cX5_whoIs 17 = .ok (.iload_n 1, 1) := by decide +kernel
theorem dX5_whoIs_18 : decode cX5_whoIs 18 = .ok (.if_icmp .ne 5, 3) := by decide +kernel
theorem dX5_whoIs_21 : decode cX5_whoIs 21 = .ok (.iload_n 2, 1) := by decide +kernel
theorem dX5_whoIs_22 : decode cX5_whoIs 22 = .ok (.ireturn, 1) := by decide +kernel
theorem dX5_whoIs_23 : decode cX5_whoIs 23 = .ok (.iinc 2 1, 3) := by decide +kernel
theorem dX5_whoIs_26 : decode cX5_whoIs 26 = .ok (.goto (-24), 3) := by decide +kernel
theorem dX5_whoIs_29 : decode cX5_whoIs 29 = .ok (.iconst (-1), 1) := by decide +kernel
theorem dX5_whoIs_30 : decode cX5_whoIs 30 = .ok (.ireturn, 1) := by decide +kernel
set_option maxRecDepth 20000 in
theorem ggX5_place_X5_isRunner : GoodIn wsX5_place wsX5_isRunner := goodIn_r _ [6, 7, 33, 34, 35, 36, 37, 38, 39, 40, 41, 42, 43, 44, 45, 46, 47] rfl (by decide +kernel)
set_option maxRecDepth 20000 in
theorem gX5_place_X5_isRunner : GoodIn wsX5_place (wsV RX5 86 RX5 yX5_isRunner wsX5_isRunner) := goodIn_app (goodIn_of _ (by decide +kernel)) ggX5_place_X5_isRunner
set_option maxRecDepth 20000 in
theorem ggX5_place_X5_whoIs : GoodIn wsX5_place wsX5_whoIs := goodIn_r _ [11, 7, 12, 13, 14, 5, 15, 16, 17, 18, 19, 20, 21, 22, 23, 24, 25, 26, 27, 33, 34, 35, 36, 37, 38, 39, 40, 41, 42, 43, 44, 45, 46, 47] rfl (by decide +kernel)
set_option maxRecDepth 20000 in
theorem gX5_place_X5_whoIs : GoodIn wsX5_place (wsV RX5 127 RX5 yX5_whoIs wsX5_whoIs) := goodIn_app (goodIn_of _ (by decide +kernel)) ggX5_place_X5_whoIs
set_option maxRecDepth 20000 in
theorem ggX5_place_X5_finds : GoodIn wsX5_place wsX5_finds := goodIn_r _ [31, 32, 1, 33, 34, 35, 36, 37, 38, 39, 40, 41, 42, 43, 44, 45, 46, 47] rfl (by decide +kernel)
set_option maxRecDepth 20000 in
theorem gX5_place_X5_finds : GoodIn wsX5_place (wsV RX5 40 RX5 yX5_finds wsX5_finds) := goodIn_app (goodIn_of _ (by decide +kernel)) ggX5_place_X5_finds
theorem dX5_place_0 : decode cX5_place 0 = .ok (.aload_n 0, 1) := by decide +kernel
theorem dX5_place_1 : decode cX5_place 1 = .ok (.iload_n 1, 1) := by decide +kernel
theorem dX5_place_2 : decode cX5_place 2 = .ok (.invokevirtual 86, 3) := by decide +kernel
theorem dX5_place_5 : decode cX5_place 5 = .ok (.ifCond .eq 11, 3) := by decide +kernel
theorem dX5_place_8 : decode cX5_place 8 = .ok (.aload_n 0, 1) := by decide +kernel
theorem dX5_place_9 : decode cX5_place 9 = .ok (.iload_n 1, 1) := by decide +kernel
theorem dX5_place_10 : decode cX5_place 10 = .ok (.invokevirtual 127, 3) := by decide +kernel
theorem dX5_place_13 : decode cX5_place 13 = .ok (.goto 9, 3) := by decide +kernel
theorem dX5_place_16 : decode cX5_place 16 = .ok (.aload_n 0, 1) := by decide +kernel
theorem dX5_place_17 : decode cX5_place 17 = .ok (.ldc 38, 2) := by decide +kernel
theorem dX5_place_19 : decode cX5_place 19 = .ok (.invokevirtual 40, 3) := by decide +kernel
theorem dX5_place_22 : decode cX5_place 22 = .ok (.ireturn, 1) := by decide +kernel
set_option maxRecDepth 20000 in
theorem ggX5_prizeOf_X5_whoIs : GoodIn wsX5_prizeOf wsX5_whoIs := goodIn_r _ [6, 1, 7, 8, 9, 5, 10, 11, 12, 13, 14, 15, 16, 17, 18, 19, 20, 21, 22, 23, 24, 25, 26, 27, 28, 29, 30, 31, 32, 33, 34, 35, 36, 37] rfl (by decide +kernel)
set_option maxRecDepth 20000 in
theorem gX5_prizeOf_X5_whoIs : GoodIn wsX5_prizeOf (wsV RX5 127 RX5 yX5_whoIs wsX5_whoIs) := goodIn_app (goodIn_of _ (by decide +kernel)) ggX5_prizeOf_X5_whoIs
theorem dX5_prizeOf_0 : decode cX5_prizeOf 0 = .ok (.aload_n 0, 1) := by decide +kernel
theorem dX5_prizeOf_1 : decode cX5_prizeOf 1 = .ok (.iload_n 1, 1) := by decide +kernel
theorem dX5_prizeOf_2 : decode cX5_prizeOf 2 = .ok (.ifCond .ne 7, 3) := by decide +kernel
theorem dX5_prizeOf_5 : decode cX5_prizeOf 5 = .ok (.iconst 0, 1) := by decide +kernel
theorem dX5_prizeOf_6 : decode cX5_prizeOf 6 = .ok (.goto 38, 3) := by decide +kernel
theorem dX5_prizeOf_9 : decode cX5_prizeOf 9 = .ok (.iload_n 1, 1) := by decide +kernel
theorem dX5_prizeOf_10 : decode cX5_prizeOf 10 = .ok (.iconst 1, 1) := by decide +kernel
theorem dX5_prizeOf_11 : decode cX5_prizeOf 11 = .ok (.if_icmp .ne 7, 3) := by decide +kernel
theorem dX5_prizeOf_14 : decode cX5_prizeOf 14 = .ok (.iconst 1, 1) := by decide +kernel
theorem dX5_prizeOf_15 : decode cX5_prizeOf 15 = .ok (.goto 29, 3) := by decide +kernel
theorem dX5_prizeOf_18 : decode cX5_prizeOf 18 = .ok (.iload_n 1, 1) := by decide +kernel
theorem dX5_prizeOf_19 : decode cX5_prizeOf 19 = .ok (.iconst 2, 1) := by decide +kernel
theorem dX5_prizeOf_20 : decode cX5_prizeOf 20 = .ok (.if_icmp .ne 14, 3) := by decide +kernel
theorem dX5_prizeOf_23 : decode cX5_prizeOf 23 = .ok (.aload_n 0, 1) := by decide +kernel
theorem dX5_prizeOf_24 : decode cX5_prizeOf 24 = .ok (.getfield 7, 3) := by decide +kernel
theorem dX5_prizeOf_27 : decode cX5_prizeOf 27 = .ok (.iconst 0, 1) := by decide +kernel
theorem dX5_prizeOf_28 : decode cX5_prizeOf 28 = .ok (.iaload, 1) := by decide +kernel
theorem dX5_prizeOf_29 : decode cX5_prizeOf 29 = .ok (.iconst 2, 1) := by decide +kernel
theorem dX5_prizeOf_30 : decode cX5_prizeOf 30 = .ok (.isub, 1) := by decide +kernel
theorem dX5_prizeOf_31 : decode cX5_prizeOf 31 = .ok (.goto 13, 3) := by decide +kernel
theorem dX5_prizeOf_34 : decode cX5_prizeOf 34 = .ok (.aload_n 0, 1) := by decide +kernel
theorem dX5_prizeOf_35 : decode cX5_prizeOf 35 = .ok (.getfield 7, 3) := by decide +kernel
theorem dX5_prizeOf_38 : decode cX5_prizeOf 38 = .ok (.iconst 0, 1) := by decide +kernel
theorem dX5_prizeOf_39 : decode cX5_prizeOf 39 = .ok (.iaload, 1) := by decide +kernel
theorem dX5_prizeOf_40 : decode cX5_prizeOf 40 = .ok (.iconst 1, 1) := by decide +kernel
theorem dX5_prizeOf_41 : decode cX5_prizeOf 41 = .ok (.isub, 1) := by decide +kernel
theorem dX5_prizeOf_42 : decode cX5_prizeOf 42 = .ok (.iconst 2, 1) := by decide +kernel
theorem dX5_prizeOf_43 : decode cX5_prizeOf 43 = .ok (.idiv, 1) := by decide +kernel
theorem dX5_prizeOf_44 : decode cX5_prizeOf 44 = .ok (.invokevirtual 127, 3) := by decide +kernel
theorem dX5_prizeOf_47 : decode cX5_prizeOf 47 = .ok (.ireturn, 1) := by decide +kernel
set_option maxRecDepth 20000 in
theorem ggX5_prize_X5_prizeOf : GoodIn wsX5_prize wsX5_prizeOf := goodIn_r _ [6, 1, 7, 8, 9, 5, 10, 11, 12, 13, 14, 15, 16, 17, 18, 19, 20, 21, 22, 23, 24, 25, 26, 38, 39, 40, 41, 42, 43, 44, 45, 46, 47, 48, 49, 50, 51, 52] rfl (by decide +kernel)
set_option maxRecDepth 20000 in
theorem gX5_prize_X5_prizeOf : GoodIn wsX5_prize (wsV RX5 130 RX5 yX5_prizeOf wsX5_prizeOf) := goodIn_app (goodIn_of _ (by decide +kernel)) ggX5_prize_X5_prizeOf
set_option maxRecDepth 20000 in
theorem ggX5_prize_X5_orNone : GoodIn wsX5_prize wsX5_orNone := goodIn_r _ [30, 31, 32, 33, 34, 5, 35, 36, 37, 38, 39, 40, 41, 42, 43, 44, 45, 46, 47, 48, 49, 50, 51, 52] rfl (by decide +kernel)
set_option maxRecDepth 20000 in
theorem gX5_prize_X5_orNone : GoodIn wsX5_prize (wsV RX5 133 RX5 yX5_orNone wsX5_orNone) := goodIn_app (goodIn_of _ (by decide +kernel)) ggX5_prize_X5_orNone
theorem dX5_prize_0 : decode cX5_prize 0 = .ok (.aload_n 0, 1) := by decide +kernel
theorem dX5_prize_1 : decode cX5_prize 1 = .ok (.aload_n 0, 1) := by decide +kernel
theorem dX5_prize_2 : decode cX5_prize 2 = .ok (.aload_n 0, 1) := by decide +kernel
theorem dX5_prize_3 : decode cX5_prize 3 = .ok (.getfield 7, 3) := by decide +kernel
theorem dX5_prize_6 : decode cX5_prize 6 = .ok (.iconst 3, 1) := by decide +kernel
theorem dX5_prize_7 : decode cX5_prize 7 = .ok (.iaload, 1) := by decide +kernel
theorem dX5_prize_8 : decode cX5_prize 8 = .ok (.invokevirtual 130, 3) := by decide +kernel
theorem dX5_prize_11 : decode cX5_prize 11 = .ok (.invokevirtual 133, 3) := by decide +kernel
theorem dX5_prize_14 : decode cX5_prize 14 = .ok (.ireturn, 1) := by decide +kernel
set_option maxRecDepth 20000 in
theorem ggX5_score_X5_homeMany : GoodIn wsX5_score wsX5_homeMany := goodIn_r _ [7, 1, 8, 9, 10, 6, 11, 12, 13, 14, 15, 42, 43, 44, 45, 46, 47, 48, 49, 50, 51, 52, 53, 54, 55, 56] rfl (by decide +kernel)
set_option maxRecDepth 20000 in
theorem gX5_score_X5_homeMany : GoodIn wsX5_score (wsV RX5 112 RX5 yX5_homeMany wsX5_homeMany) := goodIn_app (goodIn_of _ (by decide +kernel)) ggX5_score_X5_homeMany
set_option maxRecDepth 20000 in
theorem ggX5_score_X5_finds : GoodIn wsX5_score wsX5_finds := goodIn_r _ [19, 20, 21, 42, 43, 44, 45, 46, 47, 48, 49, 50, 51, 52, 53, 54, 55, 56] rfl (by decide +kernel)
set_option maxRecDepth 20000 in
theorem gX5_score_X5_finds : GoodIn wsX5_score (wsV RX5 40 RX5 yX5_finds wsX5_finds) := goodIn_app (goodIn_of _ (by decide +kernel)) ggX5_score_X5_finds
set_option maxRecDepth 20000 in
theorem ggX5_score_X5_prizeOf : GoodIn wsX5_score wsX5_prizeOf := goodIn_r _ [25, 1, 26, 27, 28, 6, 29, 30, 31, 32, 33, 34, 35, 36, 37, 8, 9, 10, 11, 12, 13, 14, 15, 42, 43, 44, 45, 46, 47, 48, 49, 50, 51, 52, 53, 54, 55, 56] rfl (by decide +kernel)
set_option maxRecDepth 20000 in
theorem gX5_score_X5_prizeOf : GoodIn wsX5_score (wsV RX5 130 RX5 yX5_prizeOf wsX5_prizeOf) := goodIn_app (goodIn_of _ (by decide +kernel)) ggX5_score_X5_prizeOf
set_option maxRecDepth 20000 in
theorem ggX5_score_X5_placeOf : GoodIn wsX5_score wsX5_placeOf := goodIn_r _ [33, 1, 34, 35, 36, 6, 37, 8, 9, 10, 11, 12, 13, 14, 15, 42, 43, 44, 45, 46, 47, 48, 49, 50, 51, 52, 53, 54, 55, 56] rfl (by decide +kernel)
set_option maxRecDepth 20000 in
theorem gX5_score_X5_placeOf : GoodIn wsX5_score (wsV RX5 91 RX5 yX5_placeOf wsX5_placeOf) := goodIn_app (goodIn_of _ (by decide +kernel)) ggX5_score_X5_placeOf
set_option maxRecDepth 20000 in
theorem ggX5_score_X5_is : GoodIn wsX5_score wsX5_is := goodIn_r _ [15, 1, 42, 43, 44, 45, 46, 47, 48, 49, 50, 51, 52, 53, 54, 55, 56] rfl (by decide +kernel)
set_option maxRecDepth 20000 in
theorem gX5_score_X5_is : GoodIn wsX5_score (wsV RX5 44 RX5 yX5_is wsX5_is) := goodIn_app (goodIn_of _ (by decide +kernel)) ggX5_score_X5_is
set_option maxRecDepth 20000 in
theorem ggX5_score_X5_puts : GoodIn wsX5_score wsX5_puts := goodIn_r _ [41, 1, 42, 43, 44, 45, 46, 47, 48, 49, 50, 51, 52, 53, 54, 55, 56] rfl (by decide +kernel)
set_option maxRecDepth 20000 in
theorem gX5_score_X5_puts : GoodIn wsX5_score (wsV RX5 64 RX5 yX5_puts wsX5_puts) := goodIn_app (goodIn_of _ (by decide +kernel)) ggX5_score_X5_puts
theorem dX5_score_0 : decode cX5_score 0 = .ok (.aload_n 0, 1) := by decide +kernel
theorem dX5_score_1 : decode cX5_score 1 = .ok (.getfield 7, 3) := by decide +kernel
theorem dX5_score_4 : decode cX5_score 4 = .ok (.iconst 0, 1) := by decide +kernel
theorem dX5_score_5 : decode cX5_score 5 = .ok (.iaload, 1) := by decide +kernel
theorem dX5_score_6 : decode cX5_score 6 = .ok (.ifCond .eq 16, 3) := by decide +kernel
theorem dX5_score_9 : decode cX5_score 9 = .ok (.aload_n 0, 1) := by decide +kernel
theorem dX5_score_10 : decode cX5_score 10 = .ok (.invokevirtual 112, 3) := by decide +kernel
theorem dX5_score_13 : decode cX5_score 13 = .ok (.aload_n 0, 1) := by decide +kernel
theorem dX5_score_14 : decode cX5_score 14 = .ok (.getfield 7, 3) := by decide +kernel
theorem dX5_score_17 : decode cX5_score 17 = .ok (.iconst 0, 1) := by decide +kernel
theorem dX5_score_18 : decode cX5_score 18 = .ok (.iaload, 1) := by decide +kernel
theorem dX5_score_19 : decode cX5_score 19 = .ok (.if_icmp .ge 10, 3) := by decide +kernel
theorem dX5_score_22 : decode cX5_score 22 = .ok (.aload_n 0, 1) := by decide +kernel
theorem dX5_score_23 : decode cX5_score 23 = .ok (.ldc 60, 2) := by decide +kernel
theorem dX5_score_25 : decode cX5_score 25 = .ok (.invokevirtual 40, 3) := by decide +kernel
theorem dX5_score_28 : decode cX5_score 28 = .ok (.ireturn, 1) := by decide +kernel
theorem dX5_score_29 : decode cX5_score 29 = .ok (.iconst 0, 1) := by decide +kernel
theorem dX5_score_30 : decode cX5_score 30 = .ok (.istore_n 1, 1) := by decide +kernel
theorem dX5_score_31 : decode cX5_score 31 = .ok (.aload_n 0, 1) := by decide +kernel
theorem dX5_score_32 : decode cX5_score 32 = .ok (.aload_n 0, 1) := by decide +kernel
theorem dX5_score_33 : decode cX5_score 33 = .ok (.getfield 7, 3) := by decide +kernel
theorem dX5_score_36 : decode cX5_score 36 = .ok (.iconst 3, 1) := by decide +kernel
theorem dX5_score_37 : decode cX5_score 37 = .ok (.iaload, 1) := by decide +kernel
theorem dX5_score_38 : decode cX5_score 38 = .ok (.invokevirtual 130, 3) := by decide +kernel
theorem dX5_score_41 : decode cX5_score 41 = .ok (.istore_n 2, 1) := by decide +kernel
theorem dX5_score_42 : decode cX5_score 42 = .ok (.iconst 0, 1) := by decide +kernel
theorem dX5_score_43 : decode cX5_score 43 = .ok (.istore_n 3, 1) := by decide +kernel
theorem dX5_score_44 : decode cX5_score 44 = .ok (.iload_n 3, 1) := by decide +kernel
theorem dX5_score_45 : decode cX5_score 45 = .ok (.aload_n 0, 1) := by decide +kernel
theorem dX5_score_46 : decode cX5_score 46 = .ok (.getfield 7, 3) := by decide +kernel
theorem dX5_score_49 : decode cX5_score 49 = .ok (.iconst 0, 1) := by decide +kernel
theorem dX5_score_50 : decode cX5_score 50 = .ok (.iaload, 1) := by decide +kernel
theorem dX5_score_51 : decode cX5_score 51 = .ok (.if_icmp .ge 59, 3) := by decide +kernel
theorem dX5_score_54 : decode cX5_score 54 = .ok (.aload_n 0, 1) := by decide +kernel
theorem dX5_score_55 : decode cX5_score 55 = .ok (.getfield 7, 3) := by decide +kernel
theorem dX5_score_58 : decode cX5_score 58 = .ok (.iconst 0, 1) := by decide +kernel
theorem dX5_score_59 : decode cX5_score 59 = .ok (.iaload, 1) := by decide +kernel
theorem dX5_score_60 : decode cX5_score 60 = .ok (.iconst 1, 1) := by decide +kernel
theorem dX5_score_61 : decode cX5_score 61 = .ok (.isub, 1) := by decide +kernel
theorem dX5_score_62 : decode cX5_score 62 = .ok (.aload_n 0, 1) := by decide +kernel
theorem dX5_score_63 : decode cX5_score 63 = .ok (.iload_n 3, 1) := by decide +kernel
theorem dX5_score_64 : decode cX5_score 64 = .ok (.invokevirtual 91, 3) := by decide +kernel
theorem dX5_score_67 : decode cX5_score 67 = .ok (.isub, 1) := by decide +kernel
theorem dX5_score_68 : decode cX5_score 68 = .ok (.iload_n 3, 1) := by decide +kernel
theorem dX5_score_69 : decode cX5_score 69 = .ok (.iload_n 2, 1) := by decide +kernel
theorem dX5_score_70 : decode cX5_score 70 = .ok (.if_icmp .ne 8, 3) := by decide +kernel
theorem dX5_score_73 : decode cX5_score 73 = .ok (.bipush 10, 2) := by decide +kernel
theorem dX5_score_75 : decode cX5_score 75 = .ok (.goto 4, 3) := by decide +kernel
theorem dX5_score_78 : decode cX5_score 78 = .ok (.iconst 0, 1) := by decide +kernel
theorem dX5_score_79 : decode cX5_score 79 = .ok (.iadd, 1) := by decide +kernel
theorem dX5_score_80 : decode cX5_score 80 = .ok (.istore 4, 2) := by decide +kernel
theorem dX5_score_82 : decode cX5_score 82 = .ok (.aload_n 0, 1) := by decide +kernel
theorem dX5_score_83 : decode cX5_score 83 = .ok (.iload_n 3, 1) := by decide +kernel
theorem dX5_score_84 : decode cX5_score 84 = .ok (.bipush 6, 2) := by decide +kernel
theorem dX5_score_86 : decode cX5_score 86 = .ok (.aload_n 0, 1) := by decide +kernel
theorem dX5_score_87 : decode cX5_score 87 = .ok (.iload_n 3, 1) := by decide +kernel
theorem dX5_score_88 : decode cX5_score 88 = .ok (.bipush 6, 2) := by decide +kernel
theorem dX5_score_90 : decode cX5_score 90 = .ok (.invokevirtual 44, 3) := by decide +kernel
theorem dX5_score_93 : decode cX5_score 93 = .ok (.iload 4, 2) := by decide +kernel
theorem dX5_score_95 : decode cX5_score 95 = .ok (.iadd, 1) := by decide +kernel
theorem dX5_score_96 : decode cX5_score 96 = .ok (.invokevirtual 64, 3) := by decide +kernel
theorem dX5_score_99 : decode cX5_score 99 = .ok (.iload_n 1, 1) := by decide +kernel
theorem dX5_score_100 : decode cX5_score 100 = .ok (.iload 4, 2) := by decide +kernel
theorem dX5_score_102 : decode cX5_score 102 = .ok (.iadd, 1) := by decide +kernel
theorem dX5_score_103 : decode cX5_score 103 = .ok (.istore_n 1, 1) := by decide +kernel
theorem dX5_score_104 : decode cX5_score 104 = .ok (.iinc 3 1, 3) := by decide +kernel
theorem dX5_score_107 : decode cX5_score 107 = .ok (.goto (-63), 3) := by decide +kernel
theorem dX5_score_110 : decode cX5_score 110 = .ok (.iload_n 1, 1) := by decide +kernel
theorem dX5_score_111 : decode cX5_score 111 = .ok (.ireturn, 1) := by decide +kernel
set_option maxRecDepth 20000 in
theorem ggX5_leads_X5_is : GoodIn wsX5_leads wsX5_is := goodIn_r _ [6, 1, 18, 19, 20, 21, 22, 23, 24, 25, 26, 27, 28, 29, 30, 31, 32] rfl (by decide +kernel)
set_option maxRecDepth 20000 in
theorem gX5_leads_X5_is : GoodIn wsX5_leads (wsV RX5 44 RX5 yX5_is wsX5_is) := goodIn_app (goodIn_of _ (by decide +kernel)) ggX5_leads_X5_is
set_option maxRecDepth 20000 in
theorem ggX5_leads_X5_orNone : GoodIn wsX5_leads wsX5_orNone := goodIn_r _ [10, 11, 12, 13, 14, 5, 15, 16, 17, 18, 19, 20, 21, 22, 23, 24, 25, 26, 27, 28, 29, 30, 31, 32] rfl (by decide +kernel)
set_option maxRecDepth 20000 in
theorem gX5_leads_X5_orNone : GoodIn wsX5_leads (wsV RX5 133 RX5 yX5_orNone wsX5_orNone) := goodIn_app (goodIn_of _ (by decide +kernel)) ggX5_leads_X5_orNone
theorem dX5_leads_0 : decode cX5_leads 0 = .ok (.iconst (-1), 1) := by decide +kernel
theorem dX5_leads_1 : decode cX5_leads 1 = .ok (.istore_n 1, 1) := by decide +kernel
theorem dX5_leads_2 : decode cX5_leads 2 = .ok (.iconst 0, 1) := by decide +kernel
theorem dX5_leads_3 : decode cX5_leads 3 = .ok (.istore_n 2, 1) := by decide +kernel
theorem dX5_leads_4 : decode cX5_leads 4 = .ok (.iload_n 2, 1) := by decide +kernel
theorem dX5_leads_5 : decode cX5_leads 5 = .ok (.aload_n 0, 1) := by decide +kernel
theorem dX5_leads_6 : decode cX5_leads 6 = .ok (.getfield 7, 3) := by decide +kernel
theorem dX5_leads_9 : decode cX5_leads 9 = .ok (.iconst 0, 1) := by decide +kernel
theorem dX5_leads_10 : decode cX5_leads 10 = .ok (.iaload, 1) := by decide +kernel
theorem dX5_leads_11 : decode cX5_leads 11 = .ok (.if_icmp .ge 36, 3) := by decide +kernel
theorem dX5_leads_14 : decode cX5_leads 14 = .ok (.iload_n 1, 1) := by decide +kernel
theorem dX5_leads_15 : decode cX5_leads 15 = .ok (.ifCond .lt 20, 3) := by decide +kernel
theorem dX5_leads_18 : decode cX5_leads 18 = .ok (.aload_n 0, 1) := by decide +kernel
theorem dX5_leads_19 : decode cX5_leads 19 = .ok (.iload_n 2, 1) := by decide +kernel
theorem dX5_leads_20 : decode cX5_leads 20 = .ok (.bipush 6, 2) := by decide +kernel
theorem dX5_leads_22 : decode cX5_leads 22 = .ok (.invokevirtual 44, 3) := by decide +kernel
theorem dX5_leads_25 : decode cX5_leads 25 = .ok (.aload_n 0, 1) := by decide +kernel
theorem dX5_leads_26 : decode cX5_leads 26 = .ok (.iload_n 1, 1) := by decide +kernel
theorem dX5_leads_27 : decode cX5_leads 27 = .ok (.bipush 6, 2) := by decide +kernel
theorem dX5_leads_29 : decode cX5_leads 29 = .ok (.invokevirtual 44, 3) := by decide +kernel
theorem dX5_leads_32 : decode cX5_leads 32 = .ok (.if_icmp .le 7, 3) := by decide +kernel
theorem dX5_leads_35 : decode cX5_leads 35 = .ok (.iload_n 2, 1) := by decide +kernel
theorem dX5_leads_36 : decode cX5_leads 36 = .ok (.goto 4, 3) := by decide +kernel
theorem dX5_leads_39 : decode cX5_leads 39 = .ok (.iload_n 1, 1) := by decide +kernel
theorem dX5_leads_40 : decode cX5_leads 40 = .ok (.istore_n 1, 1) := by decide +kernel
theorem dX5_leads_41 : decode cX5_leads 41 = .ok (.iinc 2 1, 3) := by decide +kernel
theorem dX5_leads_44 : decode cX5_leads 44 = .ok (.goto (-40), 3) := by decide +kernel
theorem dX5_leads_47 : decode cX5_leads 47 = .ok (.aload_n 0, 1) := by decide +kernel
theorem dX5_leads_48 : decode cX5_leads 48 = .ok (.iload_n 1, 1) := by decide +kernel
theorem dX5_leads_49 : decode cX5_leads 49 = .ok (.invokevirtual 133, 3) := by decide +kernel
theorem dX5_leads_52 : decode cX5_leads 52 = .ok (.ireturn, 1) := by decide +kernel
set_option maxRecDepth 20000 in
theorem ggX5_goesOnMany_X5_goesOn : GoodIn wsX5_goesOnMany wsX5_goesOn := goodIn_r _ [5, 6, 7, 8, 9, 10, 4, 11, 12, 13, 14, 15, 16, 17, 18, 19, 20, 21, 22, 23, 24, 25, 26, 27, 28, 29, 30, 31, 32, 33, 34, 35, 36, 37, 38, 39, 40, 41, 42, 43, 44, 45, 46, 47, 48, 49, 50, 51, 52, 53, 54] rfl (by decide +kernel)
set_option maxRecDepth 20000 in
theorem gX5_goesOnMany_X5_goesOn : GoodIn wsX5_goesOnMany (wsV RX5 124 RX5 yX5_goesOn wsX5_goesOn) := goodIn_app (goodIn_of _ (by decide +kernel)) ggX5_goesOnMany_X5_goesOn
theorem dX5_goesOnMany_0 : decode cX5_goesOnMany 0 = .ok (.iconst 0, 1) := by decide +kernel
theorem dX5_goesOnMany_1 : decode cX5_goesOnMany 1 = .ok (.istore_n 2, 1) := by decide +kernel
theorem dX5_goesOnMany_2 : decode cX5_goesOnMany 2 = .ok (.iload_n 2, 1) := by decide +kernel
theorem dX5_goesOnMany_3 : decode cX5_goesOnMany 3 = .ok (.iload_n 1, 1) := by decide +kernel
theorem dX5_goesOnMany_4 : decode cX5_goesOnMany 4 = .ok (.if_icmp .ge 14, 3) := by decide +kernel
theorem dX5_goesOnMany_7 : decode cX5_goesOnMany 7 = .ok (.aload_n 0, 1) := by decide +kernel
theorem dX5_goesOnMany_8 : decode cX5_goesOnMany 8 = .ok (.invokevirtual 124, 3) := by decide +kernel
theorem dX5_goesOnMany_11 : decode cX5_goesOnMany 11 = .ok (.istore_n 3, 1) := by decide +kernel
theorem dX5_goesOnMany_12 : decode cX5_goesOnMany 12 = .ok (.iinc 2 1, 3) := by decide +kernel
theorem dX5_goesOnMany_15 : decode cX5_goesOnMany 15 = .ok (.goto (-13), 3) := by decide +kernel
theorem dX5_goesOnMany_18 : decode cX5_goesOnMany 18 = .ok (.return_, 1) := by decide +kernel
set_option maxRecDepth 20000 in
theorem ggX5_on_X5_isRunner : GoodIn wsX5_on wsX5_isRunner := goodIn_r _ [7, 8, 67, 68, 69, 70, 71, 72, 73, 74, 75, 76, 77, 78, 79, 80, 81] rfl (by decide +kernel)
set_option maxRecDepth 20000 in
theorem gX5_on_X5_isRunner : GoodIn wsX5_on (wsV RX5 86 RX5 yX5_isRunner wsX5_isRunner) := goodIn_app (goodIn_of _ (by decide +kernel)) ggX5_on_X5_isRunner
set_option maxRecDepth 20000 in
theorem ggX5_on_X5_isIn : GoodIn wsX5_on wsX5_isIn := goodIn_r _ [11] rfl (by decide +kernel)
set_option maxRecDepth 20000 in
theorem gX5_on_X5_isIn : GoodIn wsX5_on (va_wsS RX5 50 yX5_isIn wsX5_isIn) := goodIn_app (goodIn_of _ (by decide +kernel)) ggX5_on_X5_isIn
set_option maxRecDepth 20000 in
theorem ggX5_on_X5_finds : GoodIn wsX5_on wsX5_finds := goodIn_r _ [15, 16, 2, 67, 68, 69, 70, 71, 72, 73, 74, 75, 76, 77, 78, 79, 80, 81] rfl (by decide +kernel)
set_option maxRecDepth 20000 in
theorem gX5_on_X5_finds : GoodIn wsX5_on (wsV RX5 40 RX5 yX5_finds wsX5_finds) := goodIn_app (goodIn_of _ (by decide +kernel)) ggX5_on_X5_finds
set_option maxRecDepth 20000 in
theorem ggX5_on_X5_laysBy : GoodIn wsX5_on wsX5_laysBy := goodIn_r _ [20, 21, 8, 67, 68, 69, 70, 71, 72, 73, 74, 75, 76, 77, 78, 79, 80, 81] rfl (by decide +kernel)
set_option maxRecDepth 20000 in
theorem gX5_on_X5_laysBy : GoodIn wsX5_on (wsV RX5 138 RX5 yX5_laysBy wsX5_laysBy) := goodIn_app (goodIn_of _ (by decide +kernel)) ggX5_on_X5_laysBy
set_option maxRecDepth 20000 in
theorem ggX5_on_X5_goesOnMany : GoodIn wsX5_on wsX5_goesOnMany := goodIn_r _ [25, 26, 27, 28, 6, 29, 8, 30, 31, 32, 33, 34, 35, 36, 37, 38, 39, 40, 41, 42, 43, 44, 45, 46, 47, 48, 49, 50, 51, 52, 53, 54, 55, 56, 57, 58, 59, 60, 61, 62, 67, 68, 69, 70, 71, 72, 73, 74, 75, 76, 77, 78, 79, 80, 81] rfl (by decide +kernel)
set_option maxRecDepth 20000 in
theorem gX5_on_X5_goesOnMany : GoodIn wsX5_on (wsV RX5 141 RX5 yX5_goesOnMany wsX5_goesOnMany) := goodIn_app (goodIn_of _ (by decide +kernel)) ggX5_on_X5_goesOnMany
set_option maxRecDepth 20000 in
theorem ggX5_on_X5_is : GoodIn wsX5_on wsX5_is := goodIn_r _ [42, 8, 67, 68, 69, 70, 71, 72, 73, 74, 75, 76, 77, 78, 79, 80, 81] rfl (by decide +kernel)
set_option maxRecDepth 20000 in
theorem gX5_on_X5_is : GoodIn wsX5_on (wsV RX5 44 RX5 yX5_is wsX5_is) := goodIn_app (goodIn_of _ (by decide +kernel)) ggX5_on_X5_is
set_option maxRecDepth 20000 in
theorem ggX5_on_X5_laysBack : GoodIn wsX5_on wsX5_laysBack := goodIn_r _ [66, 8, 21, 67, 68, 69, 70, 71, 72, 73, 74, 75, 76, 77, 78, 79, 80, 81] rfl (by decide +kernel)
set_option maxRecDepth 20000 in
theorem gX5_on_X5_laysBack : GoodIn wsX5_on (wsV RX5 145 RX5 yX5_laysBack wsX5_laysBack) := goodIn_app (goodIn_of _ (by decide +kernel)) ggX5_on_X5_laysBack
theorem dX5_on_0 : decode cX5_on 0 = .ok (.aload_n 0, 1) := by decide +kernel
theorem dX5_on_1 : decode cX5_on 1 = .ok (.iload_n 1, 1) := by decide +kernel
theorem dX5_on_2 : decode cX5_on 2 = .ok (.invokevirtual 86, 3) := by decide +kernel
theorem dX5_on_5 : decode cX5_on 5 = .ok (.ifCond .eq 15, 3) := by decide +kernel
theorem dX5_on_8 : decode cX5_on 8 = .ok (.iload_n 2, 1) := by decide +kernel
theorem dX5_on_9 : decode cX5_on 9 = .ok (.i2l, 1) := by decide +kernel
theorem dX5_on_10 : decode cX5_on 10 = .ok (.lconst 0, 1) := by decide +kernel
theorem dX5_on_11 : decode cX5_on 11 = .ok (.ldc2_w 136, 3) := by decide +kernel
theorem dX5_on_14 : decode cX5_on 14 = .ok (.invokestatic 50, 3) := by decide +kernel
theorem dX5_on_17 : decode cX5_on 17 = .ok (.ifCond .ne 10, 3) := by decide +kernel
theorem dX5_on_20 : decode cX5_on 20 = .ok (.aload_n 0, 1) := by decide +kernel
theorem dX5_on_21 : decode cX5_on 21 = .ok (.ldc 38, 2) := by decide +kernel
theorem dX5_on_23 : decode cX5_on 23 = .ok (.invokevirtual 40, 3) := by decide +kernel
theorem dX5_on_26 : decode cX5_on 26 = .ok (.ireturn, 1) := by decide +kernel
theorem dX5_on_27 : decode cX5_on 27 = .ok (.aload_n 0, 1) := by decide +kernel
theorem dX5_on_28 : decode cX5_on 28 = .ok (.invokevirtual 138, 3) := by decide +kernel
theorem dX5_on_31 : decode cX5_on 31 = .ok (.aload_n 0, 1) := by decide +kernel
theorem dX5_on_32 : decode cX5_on 32 = .ok (.iload_n 2, 1) := by decide +kernel
theorem dX5_on_33 : decode cX5_on 33 = .ok (.invokevirtual 141, 3) := by decide +kernel
theorem dX5_on_36 : decode cX5_on 36 = .ok (.aload_n 0, 1) := by decide +kernel
theorem dX5_on_37 : decode cX5_on 37 = .ok (.iload_n 1, 1) := by decide +kernel
theorem dX5_on_38 : decode cX5_on 38 = .ok (.iconst 5, 1) := by decide +kernel
theorem dX5_on_39 : decode cX5_on 39 = .ok (.invokevirtual 44, 3) := by decide +kernel
theorem dX5_on_42 : decode cX5_on 42 = .ok (.istore_n 3, 1) := by decide +kernel
theorem dX5_on_43 : decode cX5_on 43 = .ok (.aload_n 0, 1) := by decide +kernel
theorem dX5_on_44 : decode cX5_on 44 = .ok (.invokevirtual 145, 3) := by decide +kernel
theorem dX5_on_47 : decode cX5_on 47 = .ok (.iload_n 3, 1) := by decide +kernel
theorem dX5_on_48 : decode cX5_on 48 = .ok (.ireturn, 1) := by decide +kernel
set_option maxRecDepth 20000 in
theorem ggX5_goesToEnd_X5_homeMany : GoodIn wsX5_goesToEnd wsX5_homeMany := goodIn_r _ [6, 1, 7, 8, 9, 5, 10, 11, 12, 13, 14, 40, 41, 42, 43, 44, 45, 46, 47, 48, 49, 50, 51, 52, 53, 54] rfl (by decide +kernel)
set_option maxRecDepth 20000 in
theorem gX5_goesToEnd_X5_homeMany : GoodIn wsX5_goesToEnd (wsV RX5 112 RX5 yX5_homeMany wsX5_homeMany) := goodIn_app (goodIn_of _ (by decide +kernel)) ggX5_goesToEnd_X5_homeMany
set_option maxRecDepth 20000 in
theorem ggX5_goesToEnd_X5_goesOn : GoodIn wsX5_goesToEnd wsX5_goesOn := goodIn_r _ [18, 1, 19, 2, 3, 4, 5, 6, 7, 8, 9, 10, 11, 12, 13, 14, 20, 21, 22, 23, 24, 25, 26, 27, 28, 29, 30, 31, 32, 33, 34, 35, 36, 37, 38, 39, 40, 41, 42, 43, 44, 45, 46, 47, 48, 49, 50, 51, 52, 53, 54] rfl (by decide +kernel)
set_option maxRecDepth 20000 in
theorem gX5_goesToEnd_X5_goesOn : GoodIn wsX5_goesToEnd (wsV RX5 124 RX5 yX5_goesOn wsX5_goesOn) := goodIn_app (goodIn_of _ (by decide +kernel)) ggX5_goesToEnd_X5_goesOn
theorem dX5_goesToEnd_0 : decode cX5_goesToEnd 0 = .ok (.iconst 0, 1) := by decide +kernel
theorem dX5_goesToEnd_1 : decode cX5_goesToEnd 1 = .ok (.istore_n 1, 1) := by decide +kernel
theorem dX5_goesToEnd_2 : decode cX5_goesToEnd 2 = .ok (.iload_n 1, 1) := by decide +kernel
theorem dX5_goesToEnd_3 : decode cX5_goesToEnd 3 = .ok (.sipush 2000, 3) := by decide +kernel
theorem dX5_goesToEnd_6 : decode cX5_goesToEnd 6 = .ok (.if_icmp .ge 27, 3) := by decide +kernel
theorem dX5_goesToEnd_9 : decode cX5_goesToEnd 9 = .ok (.aload_n 0, 1) := by decide +kernel
theorem dX5_goesToEnd_10 : decode cX5_goesToEnd 10 = .ok (.invokevirtual 112, 3) := by decide +kernel
theorem dX5_goesToEnd_13 : decode cX5_goesToEnd 13 = .ok (.aload_n 0, 1) := by decide +kernel
theorem dX5_goesToEnd_14 : decode cX5_goesToEnd 14 = .ok (.getfield 7, 3) := by decide +kernel
theorem dX5_goesToEnd_17 : decode cX5_goesToEnd 17 = .ok (.iconst 0, 1) := by decide +kernel
theorem dX5_goesToEnd_18 : decode cX5_goesToEnd 18 = .ok (.iaload, 1) := by decide +kernel
theorem dX5_goesToEnd_19 : decode cX5_goesToEnd 19 = .ok (.if_icmp .ge 14, 3) := by decide +kernel
theorem dX5_goesToEnd_22 : decode cX5_goesToEnd 22 = .ok (.aload_n 0, 1) := by decide +kernel
theorem dX5_goesToEnd_23 : decode cX5_goesToEnd 23 = .ok (.invokevirtual 124, 3) := by decide +kernel
theorem dX5_goesToEnd_26 : decode cX5_goesToEnd 26 = .ok (.istore_n 2, 1) := by decide +kernel
theorem dX5_goesToEnd_27 : decode cX5_goesToEnd 27 = .ok (.iinc 1 1, 3) := by decide +kernel
theorem dX5_goesToEnd_30 : decode cX5_goesToEnd 30 = .ok (.goto (-28), 3) := by decide +kernel
theorem dX5_goesToEnd_33 : decode cX5_goesToEnd 33 = .ok (.aload_n 0, 1) := by decide +kernel
theorem dX5_goesToEnd_34 : decode cX5_goesToEnd 34 = .ok (.invokevirtual 112, 3) := by decide +kernel
theorem dX5_goesToEnd_37 : decode cX5_goesToEnd 37 = .ok (.aload_n 0, 1) := by decide +kernel
theorem dX5_goesToEnd_38 : decode cX5_goesToEnd 38 = .ok (.getfield 7, 3) := by decide +kernel
theorem dX5_goesToEnd_41 : decode cX5_goesToEnd 41 = .ok (.iconst 0, 1) := by decide +kernel
theorem dX5_goesToEnd_42 : decode cX5_goesToEnd 42 = .ok (.iaload, 1) := by decide +kernel
theorem dX5_goesToEnd_43 : decode cX5_goesToEnd 43 = .ok (.if_icmp .ne 7, 3) := by decide +kernel
theorem dX5_goesToEnd_46 : decode cX5_goesToEnd 46 = .ok (.iconst 1, 1) := by decide +kernel
theorem dX5_goesToEnd_47 : decode cX5_goesToEnd 47 = .ok (.goto 4, 3) := by decide +kernel
theorem dX5_goesToEnd_50 : decode cX5_goesToEnd 50 = .ok (.iconst 0, 1) := by decide +kernel
theorem dX5_goesToEnd_51 : decode cX5_goesToEnd 51 = .ok (.ireturn, 1) := by decide +kernel
set_option maxRecDepth 20000 in
theorem ggX5_home_X5_isRunner : GoodIn wsX5_home wsX5_isRunner := goodIn_r _ [6, 7, 68, 69, 70, 71, 72, 73, 74, 75, 76, 77, 78, 79, 80, 81, 82] rfl (by decide +kernel)
set_option maxRecDepth 20000 in
theorem gX5_home_X5_isRunner : GoodIn wsX5_home (wsV RX5 86 RX5 yX5_isRunner wsX5_isRunner) := goodIn_app (goodIn_of _ (by decide +kernel)) ggX5_home_X5_isRunner
set_option maxRecDepth 20000 in
theorem ggX5_home_X5_finds : GoodIn wsX5_home wsX5_finds := goodIn_r _ [11, 12, 1, 68, 69, 70, 71, 72, 73, 74, 75, 76, 77, 78, 79, 80, 81, 82] rfl (by decide +kernel)
set_option maxRecDepth 20000 in
theorem gX5_home_X5_finds : GoodIn wsX5_home (wsV RX5 40 RX5 yX5_finds wsX5_finds) := goodIn_app (goodIn_of _ (by decide +kernel)) ggX5_home_X5_finds
set_option maxRecDepth 20000 in
theorem ggX5_home_X5_laysBy : GoodIn wsX5_home wsX5_laysBy := goodIn_r _ [16, 17, 7, 68, 69, 70, 71, 72, 73, 74, 75, 76, 77, 78, 79, 80, 81, 82] rfl (by decide +kernel)
set_option maxRecDepth 20000 in
theorem gX5_home_X5_laysBy : GoodIn wsX5_home (wsV RX5 138 RX5 yX5_laysBy wsX5_laysBy) := goodIn_app (goodIn_of _ (by decide +kernel)) ggX5_home_X5_laysBy
set_option maxRecDepth 20000 in
theorem ggX5_home_X5_goesToEnd : GoodIn wsX5_home wsX5_goesToEnd := goodIn_r _ [21, 7, 22, 23, 24, 5, 25, 26, 27, 28, 29, 30, 31, 32, 33, 34, 35, 36, 37, 38, 39, 40, 41, 42, 43, 44, 45, 46, 47, 48, 49, 50, 51, 52, 53, 54, 55, 56, 57, 58, 68, 69, 70, 71, 72, 73, 74, 75, 76, 77, 78, 79, 80, 81, 82] rfl (by decide +kernel)
set_option maxRecDepth 20000 in
theorem gX5_home_X5_goesToEnd : GoodIn wsX5_home (wsV RX5 148 RX5 yX5_goesToEnd wsX5_goesToEnd) := goodIn_app (goodIn_of _ (by decide +kernel)) ggX5_home_X5_goesToEnd
set_option maxRecDepth 20000 in
theorem ggX5_home_X5_is : GoodIn wsX5_home wsX5_is := goodIn_r _ [33, 7, 68, 69, 70, 71, 72, 73, 74, 75, 76, 77, 78, 79, 80, 81, 82] rfl (by decide +kernel)
set_option maxRecDepth 20000 in
theorem gX5_home_X5_is : GoodIn wsX5_home (wsV RX5 44 RX5 yX5_is wsX5_is) := goodIn_app (goodIn_of _ (by decide +kernel)) ggX5_home_X5_is
set_option maxRecDepth 20000 in
theorem ggX5_home_X5_laysBack : GoodIn wsX5_home wsX5_laysBack := goodIn_r _ [62, 7, 17, 68, 69, 70, 71, 72, 73, 74, 75, 76, 77, 78, 79, 80, 81, 82] rfl (by decide +kernel)
set_option maxRecDepth 20000 in
theorem gX5_home_X5_laysBack : GoodIn wsX5_home (wsV RX5 145 RX5 yX5_laysBack wsX5_laysBack) := goodIn_app (goodIn_of _ (by decide +kernel)) ggX5_home_X5_laysBack
set_option maxRecDepth 20000 in
theorem ggX5_home_X5_orNone : GoodIn wsX5_home wsX5_orNone := goodIn_r _ [66, 67, 8, 9, 10, 5, 11, 12, 1, 68, 69, 70, 71, 72, 73, 74, 75, 76, 77, 78, 79, 80, 81, 82] rfl (by decide +kernel)
set_option maxRecDepth 20000 in
theorem gX5_home_X5_orNone : GoodIn wsX5_home (wsV RX5 133 RX5 yX5_orNone wsX5_orNone) := goodIn_app (goodIn_of _ (by decide +kernel)) ggX5_home_X5_orNone
theorem dX5_home_0 : decode cX5_home 0 = .ok (.aload_n 0, 1) := by decide +kernel
theorem dX5_home_1 : decode cX5_home 1 = .ok (.iload_n 1, 1) := by decide +kernel
theorem dX5_home_2 : decode cX5_home 2 = .ok (.invokevirtual 86, 3) := by decide +kernel
theorem dX5_home_5 : decode cX5_home 5 = .ok (.ifCond .ne 10, 3) := by decide +kernel
theorem dX5_home_8 : decode cX5_home 8 = .ok (.aload_n 0, 1) := by decide +kernel
theorem dX5_home_9 : decode cX5_home 9 = .ok (.ldc 38, 2) := by decide +kernel
theorem dX5_home_11 : decode cX5_home 11 = .ok (.invokevirtual 40, 3) := by decide +kernel
theorem dX5_home_14 : decode cX5_home 14 = .ok (.ireturn, 1) := by decide +kernel
theorem dX5_home_15 : decode cX5_home 15 = .ok (.aload_n 0, 1) := by decide +kernel
theorem dX5_home_16 : decode cX5_home 16 = .ok (.invokevirtual 138, 3) := by decide +kernel
theorem dX5_home_19 : decode cX5_home 19 = .ok (.aload_n 0, 1) := by decide +kernel
theorem dX5_home_20 : decode cX5_home 20 = .ok (.invokevirtual 148, 3) := by decide +kernel
theorem dX5_home_23 : decode cX5_home 23 = .ok (.istore_n 2, 1) := by decide +kernel
theorem dX5_home_24 : decode cX5_home 24 = .ok (.aload_n 0, 1) := by decide +kernel
theorem dX5_home_25 : decode cX5_home 25 = .ok (.iload_n 1, 1) := by decide +kernel
theorem dX5_home_26 : decode cX5_home 26 = .ok (.bipush 7, 2) := by decide +kernel
theorem dX5_home_28 : decode cX5_home 28 = .ok (.invokevirtual 44, 3) := by decide +kernel
theorem dX5_home_31 : decode cX5_home 31 = .ok (.istore_n 3, 1) := by decide +kernel
theorem dX5_home_32 : decode cX5_home 32 = .ok (.aload_n 0, 1) := by decide +kernel
theorem dX5_home_33 : decode cX5_home 33 = .ok (.invokevirtual 145, 3) := by decide +kernel
theorem dX5_home_36 : decode cX5_home 36 = .ok (.aload_n 0, 1) := by decide +kernel
theorem dX5_home_37 : decode cX5_home 37 = .ok (.iload_n 3, 1) := by decide +kernel
theorem dX5_home_38 : decode cX5_home 38 = .ok (.invokevirtual 133, 3) := by decide +kernel
theorem dX5_home_41 : decode cX5_home 41 = .ok (.ireturn, 1) := by decide +kernel
set_option maxRecDepth 20000 in
theorem ggX5_prizeBy_X5_isIn : GoodIn wsX5_prizeBy wsX5_isIn := goodIn_r _ [6] rfl (by decide +kernel)
set_option maxRecDepth 20000 in
theorem gX5_prizeBy_X5_isIn : GoodIn wsX5_prizeBy (va_wsS RX5 50 yX5_isIn wsX5_isIn) := goodIn_app (goodIn_of _ (by decide +kernel)) ggX5_prizeBy_X5_isIn
set_option maxRecDepth 20000 in
theorem ggX5_prizeBy_X5_finds : GoodIn wsX5_prizeBy wsX5_finds := goodIn_r _ [10, 11, 2, 84, 85, 86, 87, 88, 89, 90, 91, 92, 93, 94, 95, 96, 97, 98] rfl (by decide +kernel)
set_option maxRecDepth 20000 in
theorem gX5_prizeBy_X5_finds : GoodIn wsX5_prizeBy (wsV RX5 40 RX5 yX5_finds wsX5_finds) := goodIn_app (goodIn_of _ (by decide +kernel)) ggX5_prizeBy_X5_finds
set_option maxRecDepth 20000 in
theorem ggX5_prizeBy_X5_laysBy : GoodIn wsX5_prizeBy wsX5_laysBy := goodIn_r _ [15, 16, 17, 84, 85, 86, 87, 88, 89, 90, 91, 92, 93, 94, 95, 96, 97, 98] rfl (by decide +kernel)
set_option maxRecDepth 20000 in
theorem gX5_prizeBy_X5_laysBy : GoodIn wsX5_prizeBy (wsV RX5 138 RX5 yX5_laysBy wsX5_laysBy) := goodIn_app (goodIn_of _ (by decide +kernel)) ggX5_prizeBy_X5_laysBy
set_option maxRecDepth 20000 in
theorem ggX5_prizeBy_X5_goesToEnd : GoodIn wsX5_prizeBy wsX5_goesToEnd := goodIn_r _ [21, 17, 22, 23, 24, 5, 25, 26, 27, 28, 29, 30, 31, 32, 33, 34, 35, 36, 37, 38, 39, 40, 41, 42, 43, 44, 45, 46, 47, 48, 49, 50, 51, 52, 53, 54, 55, 56, 57, 58, 84, 85, 86, 87, 88, 89, 90, 91, 92, 93, 94, 95, 96, 97, 98] rfl (by decide +kernel)
set_option maxRecDepth 20000 in
theorem gX5_prizeBy_X5_goesToEnd : GoodIn wsX5_prizeBy (wsV RX5 148 RX5 yX5_goesToEnd wsX5_goesToEnd) := goodIn_app (goodIn_of _ (by decide +kernel)) ggX5_prizeBy_X5_goesToEnd
set_option maxRecDepth 20000 in
theorem ggX5_prizeBy_X5_prizeOf : GoodIn wsX5_prizeBy wsX5_prizeOf := goodIn_r _ [62, 17, 63, 64, 65, 5, 66, 67, 68, 69, 70, 71, 72, 73, 74, 26, 27, 28, 29, 30, 31, 32, 33, 84, 85, 86, 87, 88, 89, 90, 91, 92, 93, 94, 95, 96, 97, 98] rfl (by decide +kernel)
set_option maxRecDepth 20000 in
theorem gX5_prizeBy_X5_prizeOf : GoodIn wsX5_prizeBy (wsV RX5 130 RX5 yX5_prizeOf wsX5_prizeOf) := goodIn_app (goodIn_of _ (by decide +kernel)) ggX5_prizeBy_X5_prizeOf
set_option maxRecDepth 20000 in
theorem ggX5_prizeBy_X5_laysBack : GoodIn wsX5_prizeBy wsX5_laysBack := goodIn_r _ [78, 17, 16, 84, 85, 86, 87, 88, 89, 90, 91, 92, 93, 94, 95, 96, 97, 98] rfl (by decide +kernel)
set_option maxRecDepth 20000 in
theorem gX5_prizeBy_X5_laysBack : GoodIn wsX5_prizeBy (wsV RX5 145 RX5 yX5_laysBack wsX5_laysBack) := goodIn_app (goodIn_of _ (by decide +kernel)) ggX5_prizeBy_X5_laysBack
set_option maxRecDepth 20000 in
theorem ggX5_prizeBy_X5_orNone : GoodIn wsX5_prizeBy wsX5_orNone := goodIn_r _ [82, 83, 7, 8, 9, 5, 10, 11, 2, 84, 85, 86, 87, 88, 89, 90, 91, 92, 93, 94, 95, 96, 97, 98] rfl (by decide +kernel)
set_option maxRecDepth 20000 in
theorem gX5_prizeBy_X5_orNone : GoodIn wsX5_prizeBy (wsV RX5 133 RX5 yX5_orNone wsX5_orNone) := goodIn_app (goodIn_of _ (by decide +kernel)) ggX5_prizeBy_X5_orNone
theorem dX5_prizeBy_0 : decode cX5_prizeBy 0 = .ok (.iload_n 1, 1) := by decide +kernel
theorem dX5_prizeBy_1 : decode cX5_prizeBy 1 = .ok (.i2l, 1) := by decide +kernel
theorem dX5_prizeBy_2 : decode cX5_prizeBy 2 = .ok (.lconst 0, 1) := by decide +kernel
theorem dX5_prizeBy_3 : decode cX5_prizeBy 3 = .ok (.ldc2_w 152, 3) := by decide +kernel
theorem dX5_prizeBy_6 : decode cX5_prizeBy 6 = .ok (.invokestatic 50, 3) := by decide +kernel
theorem dX5_prizeBy_9 : decode cX5_prizeBy 9 = .ok (.ifCond .ne 10, 3) := by decide +kernel
theorem dX5_prizeBy_12 : decode cX5_prizeBy 12 = .ok (.aload_n 0, 1) := by decide +kernel
theorem dX5_prizeBy_13 : decode cX5_prizeBy 13 = .ok (.ldc 38, 2) := by decide +kernel
theorem dX5_prizeBy_15 : decode cX5_prizeBy 15 = .ok (.invokevirtual 40, 3) := by decide +kernel
theorem dX5_prizeBy_18 : decode cX5_prizeBy 18 = .ok (.ireturn, 1) := by decide +kernel
theorem dX5_prizeBy_19 : decode cX5_prizeBy 19 = .ok (.aload_n 0, 1) := by decide +kernel
theorem dX5_prizeBy_20 : decode cX5_prizeBy 20 = .ok (.invokevirtual 138, 3) := by decide +kernel
theorem dX5_prizeBy_23 : decode cX5_prizeBy 23 = .ok (.aload_n 0, 1) := by decide +kernel
theorem dX5_prizeBy_24 : decode cX5_prizeBy 24 = .ok (.invokevirtual 148, 3) := by decide +kernel
theorem dX5_prizeBy_27 : decode cX5_prizeBy 27 = .ok (.ifCond .eq 11, 3) := by decide +kernel
theorem dX5_prizeBy_30 : decode cX5_prizeBy 30 = .ok (.aload_n 0, 1) := by decide +kernel
theorem dX5_prizeBy_31 : decode cX5_prizeBy 31 = .ok (.iload_n 1, 1) := by decide +kernel
theorem dX5_prizeBy_32 : decode cX5_prizeBy 32 = .ok (.invokevirtual 130, 3) := by decide +kernel
theorem dX5_prizeBy_35 : decode cX5_prizeBy 35 = .ok (.goto 4, 3) := by decide +kernel
theorem dX5_prizeBy_38 : decode cX5_prizeBy 38 = .ok (.iconst (-1), 1) := by decide +kernel
theorem dX5_prizeBy_39 : decode cX5_prizeBy 39 = .ok (.istore_n 2, 1) := by decide +kernel
theorem dX5_prizeBy_40 : decode cX5_prizeBy 40 = .ok (.aload_n 0, 1) := by decide +kernel
theorem dX5_prizeBy_41 : decode cX5_prizeBy 41 = .ok (.invokevirtual 145, 3) := by decide +kernel
theorem dX5_prizeBy_44 : decode cX5_prizeBy 44 = .ok (.aload_n 0, 1) := by decide +kernel
theorem dX5_prizeBy_45 : decode cX5_prizeBy 45 = .ok (.iload_n 2, 1) := by decide +kernel
theorem dX5_prizeBy_46 : decode cX5_prizeBy 46 = .ok (.invokevirtual 133, 3) := by decide +kernel
theorem dX5_prizeBy_49 : decode cX5_prizeBy 49 = .ok (.ireturn, 1) := by decide +kernel
set_option maxRecDepth 20000 in
theorem ggX5_leaders_X5_laysBy : GoodIn wsX5_leaders wsX5_laysBy := goodIn_r _ [5, 6, 7, 49, 50, 51, 52, 53, 54, 55, 56, 57, 58, 59, 60, 61, 62, 63] rfl (by decide +kernel)
set_option maxRecDepth 20000 in
theorem gX5_leaders_X5_laysBy : GoodIn wsX5_leaders (wsV RX5 138 RX5 yX5_laysBy wsX5_laysBy) := goodIn_app (goodIn_of _ (by decide +kernel)) ggX5_leaders_X5_laysBy
set_option maxRecDepth 20000 in
theorem ggX5_leaders_X5_firstAlone : GoodIn wsX5_leaders wsX5_firstAlone := goodIn_r _ [11, 7, 12, 13, 14, 4, 15, 16, 17, 18, 19, 49, 50, 51, 52, 53, 54, 55, 56, 57, 58, 59, 60, 61, 62, 63] rfl (by decide +kernel)
set_option maxRecDepth 20000 in
theorem gX5_leaders_X5_firstAlone : GoodIn wsX5_leaders (wsV RX5 108 RX5 yX5_firstAlone wsX5_firstAlone) := goodIn_app (goodIn_of _ (by decide +kernel)) ggX5_leaders_X5_firstAlone
set_option maxRecDepth 20000 in
theorem ggX5_leaders_X5_goesOn : GoodIn wsX5_leaders wsX5_goesOn := goodIn_r _ [23, 7, 24, 25, 26, 27, 4, 28, 12, 13, 14, 15, 16, 17, 18, 19, 8, 9, 10, 11, 29, 30, 31, 32, 33, 34, 35, 36, 37, 38, 39, 40, 41, 42, 43, 44, 49, 50, 51, 52, 53, 54, 55, 56, 57, 58, 59, 60, 61, 62, 63] rfl (by decide +kernel)
set_option maxRecDepth 20000 in
theorem gX5_leaders_X5_goesOn : GoodIn wsX5_leaders (wsV RX5 124 RX5 yX5_goesOn wsX5_goesOn) := goodIn_app (goodIn_of _ (by decide +kernel)) ggX5_leaders_X5_goesOn
set_option maxRecDepth 20000 in
theorem ggX5_leaders_X5_laysBack : GoodIn wsX5_leaders wsX5_laysBack := goodIn_r _ [48, 7, 6, 49, 50, 51, 52, 53, 54, 55, 56, 57, 58, 59, 60, 61, 62, 63] rfl (by decide +kernel)
set_option maxRecDepth 20000 in
theorem gX5_leaders_X5_laysBack : GoodIn wsX5_leaders (wsV RX5 145 RX5 yX5_laysBack wsX5_laysBack) := goodIn_app (goodIn_of _ (by decide +kernel)) ggX5_leaders_X5_laysBack
theorem dX5_leaders_0 : decode cX5_leaders 0 = .ok (.aload_n 0, 1) := by decide +kernel
theorem dX5_leaders_1 : decode cX5_leaders 1 = .ok (.invokevirtual 138, 3) := by decide +kernel
theorem dX5_leaders_4 : decode cX5_leaders 4 = .ok (.iconst (-1), 1) := by decide +kernel
theorem dX5_leaders_5 : decode cX5_leaders 5 = .ok (.istore_n 1, 1) := by decide +kernel
theorem dX5_leaders_6 : decode cX5_leaders 6 = .ok (.iconst 0, 1) := by decide +kernel
theorem dX5_leaders_7 : decode cX5_leaders 7 = .ok (.istore_n 2, 1) := by decide +kernel
theorem dX5_leaders_8 : decode cX5_leaders 8 = .ok (.iconst 0, 1) := by decide +kernel
theorem dX5_leaders_9 : decode cX5_leaders 9 = .ok (.istore_n 3, 1) := by decide +kernel
theorem dX5_leaders_10 : decode cX5_leaders 10 = .ok (.iload_n 3, 1) := by decide +kernel
theorem dX5_leaders_11 : decode cX5_leaders 11 = .ok (.sipush 2000, 3) := by decide +kernel
theorem dX5_leaders_14 : decode cX5_leaders 14 = .ok (.if_icmp .gt 52, 3) := by decide +kernel
theorem dX5_leaders_17 : decode cX5_leaders 17 = .ok (.aload_n 0, 1) := by decide +kernel
theorem dX5_leaders_18 : decode cX5_leaders 18 = .ok (.invokevirtual 108, 3) := by decide +kernel
theorem dX5_leaders_21 : decode cX5_leaders 21 = .ok (.istore 4, 2) := by decide +kernel
theorem dX5_leaders_23 : decode cX5_leaders 23 = .ok (.iload_n 2, 1) := by decide +kernel
theorem dX5_leaders_24 : decode cX5_leaders 24 = .ok (.iload 4, 2) := by decide +kernel
theorem dX5_leaders_26 : decode cX5_leaders 26 = .ok (.ifCond .lt 13, 3) := by decide +kernel
theorem dX5_leaders_29 : decode cX5_leaders 29 = .ok (.iload 4, 2) := by decide +kernel
theorem dX5_leaders_31 : decode cX5_leaders 31 = .ok (.iload_n 1, 1) := by decide +kernel
theorem dX5_leaders_32 : decode cX5_leaders 32 = .ok (.if_icmp .eq 7, 3) := by decide +kernel
theorem dX5_leaders_35 : decode cX5_leaders 35 = .ok (.iconst 1, 1) := by decide +kernel
theorem dX5_leaders_36 : decode cX5_leaders 36 = .ok (.goto 4, 3) := by decide +kernel
theorem dX5_leaders_39 : decode cX5_leaders 39 = .ok (.iconst 0, 1) := by decide +kernel
theorem dX5_leaders_40 : decode cX5_leaders 40 = .ok (.iadd, 1) := by decide +kernel
theorem dX5_leaders_41 : decode cX5_leaders 41 = .ok (.istore_n 2, 1) := by decide +kernel
theorem dX5_leaders_42 : decode cX5_leaders 42 = .ok (.iload 4, 2) := by decide +kernel
theorem dX5_leaders_44 : decode cX5_leaders 44 = .ok (.ifCond .lt 8, 3) := by decide +kernel
theorem dX5_leaders_47 : decode cX5_leaders 47 = .ok (.iload 4, 2) := by decide +kernel
theorem dX5_leaders_49 : decode cX5_leaders 49 = .ok (.goto 4, 3) := by decide +kernel
theorem dX5_leaders_52 : decode cX5_leaders 52 = .ok (.iload_n 1, 1) := by decide +kernel
theorem dX5_leaders_53 : decode cX5_leaders 53 = .ok (.istore_n 1, 1) := by decide +kernel
theorem dX5_leaders_54 : decode cX5_leaders 54 = .ok (.aload_n 0, 1) := by decide +kernel
theorem dX5_leaders_55 : decode cX5_leaders 55 = .ok (.invokevirtual 124, 3) := by decide +kernel
theorem dX5_leaders_58 : decode cX5_leaders 58 = .ok (.istore 5, 2) := by decide +kernel
theorem dX5_leaders_60 : decode cX5_leaders 60 = .ok (.iinc 3 1, 3) := by decide +kernel
theorem dX5_leaders_63 : decode cX5_leaders 63 = .ok (.goto (-53), 3) := by decide +kernel
theorem dX5_leaders_66 : decode cX5_leaders 66 = .ok (.aload_n 0, 1) := by decide +kernel
theorem dX5_leaders_67 : decode cX5_leaders 67 = .ok (.invokevirtual 145, 3) := by decide +kernel
theorem dX5_leaders_70 : decode cX5_leaders 70 = .ok (.iload_n 2, 1) := by decide +kernel
theorem dX5_leaders_71 : decode cX5_leaders 71 = .ok (.ireturn, 1) := by decide +kernel
set_option maxRecDepth 20000 in
theorem ggX5_passes_X5_isRunner : GoodIn wsX5_passes wsX5_isRunner := goodIn_r _ [6, 7, 64, 65, 66, 67, 68, 69, 70, 71, 72, 73, 74, 75, 76, 77, 78] rfl (by decide +kernel)
set_option maxRecDepth 20000 in
theorem gX5_passes_X5_isRunner : GoodIn wsX5_passes (wsV RX5 86 RX5 yX5_isRunner wsX5_isRunner) := goodIn_app (goodIn_of _ (by decide +kernel)) ggX5_passes_X5_isRunner
set_option maxRecDepth 20000 in
theorem ggX5_passes_X5_finds : GoodIn wsX5_passes wsX5_finds := goodIn_r _ [11, 12, 1, 64, 65, 66, 67, 68, 69, 70, 71, 72, 73, 74, 75, 76, 77, 78] rfl (by decide +kernel)
set_option maxRecDepth 20000 in
theorem gX5_passes_X5_finds : GoodIn wsX5_passes (wsV RX5 40 RX5 yX5_finds wsX5_finds) := goodIn_app (goodIn_of _ (by decide +kernel)) ggX5_passes_X5_finds
set_option maxRecDepth 20000 in
theorem ggX5_passes_X5_laysBy : GoodIn wsX5_passes wsX5_laysBy := goodIn_r _ [16, 17, 7, 64, 65, 66, 67, 68, 69, 70, 71, 72, 73, 74, 75, 76, 77, 78] rfl (by decide +kernel)
set_option maxRecDepth 20000 in
theorem gX5_passes_X5_laysBy : GoodIn wsX5_passes (wsV RX5 138 RX5 yX5_laysBy wsX5_laysBy) := goodIn_app (goodIn_of _ (by decide +kernel)) ggX5_passes_X5_laysBy
set_option maxRecDepth 20000 in
theorem ggX5_passes_X5_is : GoodIn wsX5_passes wsX5_is := goodIn_r _ [21, 7, 64, 65, 66, 67, 68, 69, 70, 71, 72, 73, 74, 75, 76, 77, 78] rfl (by decide +kernel)
set_option maxRecDepth 20000 in
theorem gX5_passes_X5_is : GoodIn wsX5_passes (wsV RX5 44 RX5 yX5_is wsX5_is) := goodIn_app (goodIn_of _ (by decide +kernel)) ggX5_passes_X5_is
set_option maxRecDepth 20000 in
theorem ggX5_passes_X5_goesOn : GoodIn wsX5_passes wsX5_goesOn := goodIn_r _ [25, 7, 26, 27, 28, 29, 5, 30, 31, 32, 33, 34, 18, 19, 20, 21, 35, 36, 37, 38, 39, 40, 41, 42, 43, 44, 45, 46, 47, 48, 49, 50, 51, 52, 53, 54, 64, 65, 66, 67, 68, 69, 70, 71, 72, 73, 74, 75, 76, 77, 78] rfl (by decide +kernel)
set_option maxRecDepth 20000 in
theorem gX5_passes_X5_goesOn : GoodIn wsX5_passes (wsV RX5 124 RX5 yX5_goesOn wsX5_goesOn) := goodIn_app (goodIn_of _ (by decide +kernel)) ggX5_passes_X5_goesOn
set_option maxRecDepth 20000 in
theorem ggX5_passes_X5_laysBack : GoodIn wsX5_passes wsX5_laysBack := goodIn_r _ [58, 7, 17, 64, 65, 66, 67, 68, 69, 70, 71, 72, 73, 74, 75, 76, 77, 78] rfl (by decide +kernel)
set_option maxRecDepth 20000 in
theorem gX5_passes_X5_laysBack : GoodIn wsX5_passes (wsV RX5 145 RX5 yX5_laysBack wsX5_laysBack) := goodIn_app (goodIn_of _ (by decide +kernel)) ggX5_passes_X5_laysBack
set_option maxRecDepth 20000 in
theorem ggX5_passes_X5_orNone : GoodIn wsX5_passes wsX5_orNone := goodIn_r _ [62, 63, 8, 9, 10, 5, 11, 12, 1, 64, 65, 66, 67, 68, 69, 70, 71, 72, 73, 74, 75, 76, 77, 78] rfl (by decide +kernel)
set_option maxRecDepth 20000 in
theorem gX5_passes_X5_orNone : GoodIn wsX5_passes (wsV RX5 133 RX5 yX5_orNone wsX5_orNone) := goodIn_app (goodIn_of _ (by decide +kernel)) ggX5_passes_X5_orNone
theorem dX5_passes_0 : decode cX5_passes 0 = .ok (.aload_n 0, 1) := by decide +kernel
theorem dX5_passes_1 : decode cX5_passes 1 = .ok (.iload_n 1, 1) := by decide +kernel
theorem dX5_passes_2 : decode cX5_passes 2 = .ok (.invokevirtual 86, 3) := by decide +kernel
theorem dX5_passes_5 : decode cX5_passes 5 = .ok (.ifCond .eq 16, 3) := by decide +kernel
theorem dX5_passes_8 : decode cX5_passes 8 = .ok (.aload_n 0, 1) := by decide +kernel
theorem dX5_passes_9 : decode cX5_passes 9 = .ok (.iload_n 2, 1) := by decide +kernel
theorem dX5_passes_10 : decode cX5_passes 10 = .ok (.invokevirtual 86, 3) := by decide +kernel
theorem dX5_passes_13 : decode cX5_passes 13 = .ok (.ifCond .eq 8, 3) := by decide +kernel
theorem dX5_passes_16 : decode cX5_passes 16 = .ok (.iload_n 1, 1) := by decide +kernel
theorem dX5_passes_17 : decode cX5_passes 17 = .ok (.iload_n 2, 1) := by decide +kernel
theorem dX5_passes_18 : decode cX5_passes 18 = .ok (.if_icmp .ne 10, 3) := by decide +kernel
theorem dX5_passes_21 : decode cX5_passes 21 = .ok (.aload_n 0, 1) := by decide +kernel
theorem dX5_passes_22 : decode cX5_passes 22 = .ok (.ldc 38, 2) := by decide +kernel
theorem dX5_passes_24 : decode cX5_passes 24 = .ok (.invokevirtual 40, 3) := by decide +kernel
theorem dX5_passes_27 : decode cX5_passes 27 = .ok (.ireturn, 1) := by decide +kernel
theorem dX5_passes_28 : decode cX5_passes 28 = .ok (.aload_n 0, 1) := by decide +kernel
theorem dX5_passes_29 : decode cX5_passes 29 = .ok (.invokevirtual 138, 3) := by decide +kernel
theorem dX5_passes_32 : decode cX5_passes 32 = .ok (.iconst (-1), 1) := by decide +kernel
theorem dX5_passes_33 : decode cX5_passes 33 = .ok (.istore_n 3, 1) := by decide +kernel
theorem dX5_passes_34 : decode cX5_passes 34 = .ok (.iconst 0, 1) := by decide +kernel
theorem dX5_passes_35 : decode cX5_passes 35 = .ok (.istore 4, 2) := by decide +kernel
theorem dX5_passes_37 : decode cX5_passes 37 = .ok (.iload 4, 2) := by decide +kernel
theorem dX5_passes_39 : decode cX5_passes 39 = .ok (.sipush 2000, 3) := by decide +kernel
theorem dX5_passes_42 : decode cX5_passes 42 = .ok (.if_icmp .gt 41, 3) := by decide +kernel
theorem dX5_passes_45 : decode cX5_passes 45 = .ok (.iload_n 3, 1) := by decide +kernel
theorem dX5_passes_46 : decode cX5_passes 46 = .ok (.ifCond .ge 37, 3) := by decide +kernel
theorem dX5_passes_49 : decode cX5_passes 49 = .ok (.aload_n 0, 1) := by decide +kernel
theorem dX5_passes_50 : decode cX5_passes 50 = .ok (.iload_n 1, 1) := by decide +kernel
theorem dX5_passes_51 : decode cX5_passes 51 = .ok (.iconst 5, 1) := by decide +kernel
theorem dX5_passes_52 : decode cX5_passes 52 = .ok (.invokevirtual 44, 3) := by decide +kernel
theorem dX5_passes_55 : decode cX5_passes 55 = .ok (.aload_n 0, 1) := by decide +kernel
theorem dX5_passes_56 : decode cX5_passes 56 = .ok (.iload_n 2, 1) := by decide +kernel
theorem dX5_passes_57 : decode cX5_passes 57 = .ok (.iconst 5, 1) := by decide +kernel
theorem dX5_passes_58 : decode cX5_passes 58 = .ok (.invokevirtual 44, 3) := by decide +kernel
theorem dX5_passes_61 : decode cX5_passes 61 = .ok (.if_icmp .le 8, 3) := by decide +kernel
theorem dX5_passes_64 : decode cX5_passes 64 = .ok (.iload 4, 2) := by decide +kernel
theorem dX5_passes_66 : decode cX5_passes 66 = .ok (.goto 4, 3) := by decide +kernel
theorem dX5_passes_69 : decode cX5_passes 69 = .ok (.iconst (-1), 1) := by decide +kernel
theorem dX5_passes_70 : decode cX5_passes 70 = .ok (.istore_n 3, 1) := by decide +kernel
theorem dX5_passes_71 : decode cX5_passes 71 = .ok (.aload_n 0, 1) := by decide +kernel
theorem dX5_passes_72 : decode cX5_passes 72 = .ok (.invokevirtual 124, 3) := by decide +kernel
theorem dX5_passes_75 : decode cX5_passes 75 = .ok (.istore 5, 2) := by decide +kernel
theorem dX5_passes_77 : decode cX5_passes 77 = .ok (.iinc 4 1, 3) := by decide +kernel
theorem dX5_passes_80 : decode cX5_passes 80 = .ok (.goto (-43), 3) := by decide +kernel
theorem dX5_passes_83 : decode cX5_passes 83 = .ok (.aload_n 0, 1) := by decide +kernel
theorem dX5_passes_84 : decode cX5_passes 84 = .ok (.invokevirtual 145, 3) := by decide +kernel
theorem dX5_passes_87 : decode cX5_passes 87 = .ok (.aload_n 0, 1) := by decide +kernel
theorem dX5_passes_88 : decode cX5_passes 88 = .ok (.iload_n 3, 1) := by decide +kernel
theorem dX5_passes_89 : decode cX5_passes 89 = .ok (.invokevirtual 133, 3) := by decide +kernel
theorem dX5_passes_92 : decode cX5_passes 92 = .ok (.ireturn, 1) := by decide +kernel
set_option maxRecDepth 20000 in
theorem ggX5_races_X5_lines : GoodIn wsX5_races wsX5_lines := goodIn_r _ [6, 1, 7, 8, 9, 5, 10, 11, 12, 13, 14, 64, 65, 66, 67, 68, 69, 70, 71, 72, 73, 74, 75, 76, 77, 78] rfl (by decide +kernel)
set_option maxRecDepth 20000 in
theorem gX5_races_X5_lines : GoodIn wsX5_races (wsV RX5 119 RX5 yX5_lines wsX5_lines) := goodIn_app (goodIn_of _ (by decide +kernel)) ggX5_races_X5_lines
set_option maxRecDepth 20000 in
theorem ggX5_races_X5_goesToEnd : GoodIn wsX5_races wsX5_goesToEnd := goodIn_r _ [18, 1, 19, 20, 21, 5, 22, 23, 24, 25, 26, 7, 8, 9, 10, 27, 28, 29, 30, 31, 32, 33, 34, 35, 36, 37, 38, 39, 40, 41, 42, 43, 44, 45, 46, 47, 11, 12, 13, 14, 64, 65, 66, 67, 68, 69, 70, 71, 72, 73, 74, 75, 76, 77, 78] rfl (by decide +kernel)
set_option maxRecDepth 20000 in
theorem gX5_races_X5_goesToEnd : GoodIn wsX5_races (wsV RX5 148 RX5 yX5_goesToEnd wsX5_goesToEnd) := goodIn_app (goodIn_of _ (by decide +kernel)) ggX5_races_X5_goesToEnd
set_option maxRecDepth 20000 in
theorem ggX5_races_X5_prizeOf : GoodIn wsX5_races wsX5_prizeOf := goodIn_r _ [51, 1, 52, 53, 54, 5, 55, 56, 57, 58, 59, 60, 61, 62, 63, 23, 24, 25, 26, 7, 8, 9, 10, 64, 65, 66, 67, 68, 69, 70, 71, 72, 73, 74, 75, 76, 77, 78] rfl (by decide +kernel)
set_option maxRecDepth 20000 in
theorem gX5_races_X5_prizeOf : GoodIn wsX5_races (wsV RX5 130 RX5 yX5_prizeOf wsX5_prizeOf) := goodIn_app (goodIn_of _ (by decide +kernel)) ggX5_races_X5_prizeOf
theorem dX5_races_0 : decode cX5_races 0 = .ok (.aload_n 0, 1) := by decide +kernel
theorem dX5_races_1 : decode cX5_races 1 = .ok (.invokevirtual 119, 3) := by decide +kernel
theorem dX5_races_4 : decode cX5_races 4 = .ok (.aload_n 0, 1) := by decide +kernel
theorem dX5_races_5 : decode cX5_races 5 = .ok (.invokevirtual 148, 3) := by decide +kernel
theorem dX5_races_8 : decode cX5_races 8 = .ok (.ifCond .eq 16, 3) := by decide +kernel
theorem dX5_races_11 : decode cX5_races 11 = .ok (.aload_n 0, 1) := by decide +kernel
theorem dX5_races_12 : decode cX5_races 12 = .ok (.aload_n 0, 1) := by decide +kernel
theorem dX5_races_13 : decode cX5_races 13 = .ok (.getfield 7, 3) := by decide +kernel
theorem dX5_races_16 : decode cX5_races 16 = .ok (.iconst 3, 1) := by decide +kernel
theorem dX5_races_17 : decode cX5_races 17 = .ok (.iaload, 1) := by decide +kernel
theorem dX5_races_18 : decode cX5_races 18 = .ok (.invokevirtual 130, 3) := by decide +kernel
theorem dX5_races_21 : decode cX5_races 21 = .ok (.goto 4, 3) := by decide +kernel
theorem dX5_races_24 : decode cX5_races 24 = .ok (.iconst (-1), 1) := by decide +kernel
theorem dX5_races_25 : decode cX5_races 25 = .ok (.ireturn, 1) := by decide +kernel
set_option maxRecDepth 20000 in
theorem ggX5_race_X5_laysBy : GoodIn wsX5_race wsX5_laysBy := goodIn_r _ [5, 6, 7, 88, 89, 90, 91, 92, 93, 94, 95, 96, 97, 98, 99, 100, 101, 102] rfl (by decide +kernel)
set_option maxRecDepth 20000 in
theorem gX5_race_X5_laysBy : GoodIn wsX5_race (wsV RX5 138 RX5 yX5_laysBy wsX5_laysBy) := goodIn_app (goodIn_of _ (by decide +kernel)) ggX5_race_X5_laysBy
set_option maxRecDepth 20000 in
theorem ggX5_race_X5_races : GoodIn wsX5_race wsX5_races := goodIn_r _ [11, 7, 12, 13, 14, 4, 15, 16, 17, 18, 19, 20, 21, 22, 23, 24, 25, 26, 27, 28, 29, 30, 31, 32, 33, 34, 35, 36, 37, 38, 39, 40, 41, 42, 43, 44, 45, 46, 47, 48, 49, 50, 51, 52, 53, 54, 55, 56, 57, 58, 59, 60, 61, 62, 63, 64, 65, 66, 67, 68, 69, 70, 71, 72, 88, 89, 90, 91, 92, 93, 94, 95, 96, 97, 98, 99, 100, 101, 102] rfl (by decide +kernel)
set_option maxRecDepth 20000 in
theorem gX5_race_X5_races : GoodIn wsX5_race (wsV RX5 154 RX5 yX5_races wsX5_races) := goodIn_app (goodIn_of _ (by decide +kernel)) ggX5_race_X5_races
set_option maxRecDepth 20000 in
theorem ggX5_race_X5_laysBack : GoodIn wsX5_race wsX5_laysBack := goodIn_r _ [76, 7, 6, 88, 89, 90, 91, 92, 93, 94, 95, 96, 97, 98, 99, 100, 101, 102] rfl (by decide +kernel)
set_option maxRecDepth 20000 in
theorem gX5_race_X5_laysBack : GoodIn wsX5_race (wsV RX5 145 RX5 yX5_laysBack wsX5_laysBack) := goodIn_app (goodIn_of _ (by decide +kernel)) ggX5_race_X5_laysBack
set_option maxRecDepth 20000 in
theorem ggX5_race_X5_orNone : GoodIn wsX5_race wsX5_orNone := goodIn_r _ [80, 81, 82, 83, 84, 4, 85, 86, 87, 88, 89, 90, 91, 92, 93, 94, 95, 96, 97, 98, 99, 100, 101, 102] rfl (by decide +kernel)
set_option maxRecDepth 20000 in
theorem gX5_race_X5_orNone : GoodIn wsX5_race (wsV RX5 133 RX5 yX5_orNone wsX5_orNone) := goodIn_app (goodIn_of _ (by decide +kernel)) ggX5_race_X5_orNone
theorem dX5_race_0 : decode cX5_race 0 = .ok (.aload_n 0, 1) := by decide +kernel
theorem dX5_race_1 : decode cX5_race 1 = .ok (.invokevirtual 138, 3) := by decide +kernel
theorem dX5_race_4 : decode cX5_race 4 = .ok (.aload_n 0, 1) := by decide +kernel
theorem dX5_race_5 : decode cX5_race 5 = .ok (.invokevirtual 154, 3) := by decide +kernel
theorem dX5_race_8 : decode cX5_race 8 = .ok (.istore_n 1, 1) := by decide +kernel
theorem dX5_race_9 : decode cX5_race 9 = .ok (.aload_n 0, 1) := by decide +kernel
theorem dX5_race_10 : decode cX5_race 10 = .ok (.invokevirtual 145, 3) := by decide +kernel
theorem dX5_race_13 : decode cX5_race 13 = .ok (.aload_n 0, 1) := by decide +kernel
theorem dX5_race_14 : decode cX5_race 14 = .ok (.iload_n 1, 1) := by decide +kernel
theorem dX5_race_15 : decode cX5_race 15 = .ok (.invokevirtual 133, 3) := by decide +kernel
theorem dX5_race_18 : decode cX5_race 18 = .ok (.ireturn, 1) := by decide +kernel
set_option maxRecDepth 20000 in
theorem ggX5_hasIf_X5_laysBy : GoodIn wsX5_hasIf wsX5_laysBy := goodIn_r _ [5, 6, 7, 77, 78, 79, 80, 81, 82, 83, 84, 85, 86, 87, 88, 89, 90, 91] rfl (by decide +kernel)
set_option maxRecDepth 20000 in
theorem gX5_hasIf_X5_laysBy : GoodIn wsX5_hasIf (wsV RX5 138 RX5 yX5_laysBy wsX5_laysBy) := goodIn_app (goodIn_of _ (by decide +kernel)) ggX5_hasIf_X5_laysBy
set_option maxRecDepth 20000 in
theorem ggX5_hasIf_X5_puts : GoodIn wsX5_hasIf wsX5_puts := goodIn_r _ [11, 7, 77, 78, 79, 80, 81, 82, 83, 84, 85, 86, 87, 88, 89, 90, 91] rfl (by decide +kernel)
set_option maxRecDepth 20000 in
theorem gX5_hasIf_X5_puts : GoodIn wsX5_hasIf (wsV RX5 64 RX5 yX5_puts wsX5_puts) := goodIn_app (goodIn_of _ (by decide +kernel)) ggX5_hasIf_X5_puts
set_option maxRecDepth 20000 in
theorem ggX5_hasIf_X5_races : GoodIn wsX5_hasIf wsX5_races := goodIn_r _ [15, 7, 16, 17, 18, 4, 19, 20, 21, 22, 23, 8, 9, 10, 11, 24, 25, 26, 27, 28, 29, 30, 31, 32, 33, 34, 35, 36, 37, 38, 39, 40, 41, 42, 43, 44, 45, 46, 47, 48, 49, 50, 51, 52, 53, 54, 55, 56, 57, 58, 59, 60, 61, 62, 63, 64, 65, 66, 67, 68, 69, 70, 71, 72, 77, 78, 79, 80, 81, 82, 83, 84, 85, 86, 87, 88, 89, 90, 91] rfl (by decide +kernel)
set_option maxRecDepth 20000 in
theorem gX5_hasIf_X5_races : GoodIn wsX5_hasIf (wsV RX5 154 RX5 yX5_races wsX5_races) := goodIn_app (goodIn_of _ (by decide +kernel)) ggX5_hasIf_X5_races
set_option maxRecDepth 20000 in
theorem ggX5_hasIf_X5_laysBack : GoodIn wsX5_hasIf wsX5_laysBack := goodIn_r _ [76, 7, 6, 77, 78, 79, 80, 81, 82, 83, 84, 85, 86, 87, 88, 89, 90, 91] rfl (by decide +kernel)
set_option maxRecDepth 20000 in
theorem gX5_hasIf_X5_laysBack : GoodIn wsX5_hasIf (wsV RX5 145 RX5 yX5_laysBack wsX5_laysBack) := goodIn_app (goodIn_of _ (by decide +kernel)) ggX5_hasIf_X5_laysBack
theorem dX5_hasIf_0 : decode cX5_hasIf 0 = .ok (.aload_n 0, 1) := by decide +kernel
theorem dX5_hasIf_1 : decode cX5_hasIf 1 = .ok (.invokevirtual 138, 3) := by decide +kernel
theorem dX5_hasIf_4 : decode cX5_hasIf 4 = .ok (.aload_n 0, 1) := by decide +kernel
theorem dX5_hasIf_5 : decode cX5_hasIf 5 = .ok (.iload_n 1, 1) := by decide +kernel
theorem dX5_hasIf_6 : decode cX5_hasIf 6 = .ok (.iload_n 2, 1) := by decide +kernel
theorem dX5_hasIf_7 : decode cX5_hasIf 7 = .ok (.iload_n 3, 1) := by decide +kernel
theorem dX5_hasIf_8 : decode cX5_hasIf 8 = .ok (.invokevirtual 64, 3) := by decide +kernel
theorem dX5_hasIf_11 : decode cX5_hasIf 11 = .ok (.aload_n 0, 1) := by decide +kernel
theorem dX5_hasIf_12 : decode cX5_hasIf 12 = .ok (.invokevirtual 154, 3) := by decide +kernel
theorem dX5_hasIf_15 : decode cX5_hasIf 15 = .ok (.iload_n 1, 1) := by decide +kernel
theorem dX5_hasIf_16 : decode cX5_hasIf 16 = .ok (.if_icmp .ne 7, 3) := by decide +kernel
theorem dX5_hasIf_19 : decode cX5_hasIf 19 = .ok (.iconst 1, 1) := by decide +kernel
theorem dX5_hasIf_20 : decode cX5_hasIf 20 = .ok (.goto 4, 3) := by decide +kernel
theorem dX5_hasIf_23 : decode cX5_hasIf 23 = .ok (.iconst 0, 1) := by decide +kernel
theorem dX5_hasIf_24 : decode cX5_hasIf 24 = .ok (.istore 4, 2) := by decide +kernel
theorem dX5_hasIf_26 : decode cX5_hasIf 26 = .ok (.aload_n 0, 1) := by decide +kernel
theorem dX5_hasIf_27 : decode cX5_hasIf 27 = .ok (.invokevirtual 145, 3) := by decide +kernel
theorem dX5_hasIf_30 : decode cX5_hasIf 30 = .ok (.iload 4, 2) := by decide +kernel
theorem dX5_hasIf_32 : decode cX5_hasIf 32 = .ok (.ireturn, 1) := by decide +kernel
set_option maxRecDepth 20000 in
theorem ggX5_pace_X5_isRunner : GoodIn wsX5_pace wsX5_isRunner := goodIn_r _ [7, 8, 92, 93, 94, 95, 96, 97, 98, 99, 100, 101, 102, 103, 104, 105, 106] rfl (by decide +kernel)
set_option maxRecDepth 20000 in
theorem gX5_pace_X5_isRunner : GoodIn wsX5_pace (wsV RX5 86 RX5 yX5_isRunner wsX5_isRunner) := goodIn_app (goodIn_of _ (by decide +kernel)) ggX5_pace_X5_isRunner
set_option maxRecDepth 20000 in
theorem ggX5_pace_X5_finds : GoodIn wsX5_pace wsX5_finds := goodIn_r _ [12, 13, 1, 92, 93, 94, 95, 96, 97, 98, 99, 100, 101, 102, 103, 104, 105, 106] rfl (by decide +kernel)
set_option maxRecDepth 20000 in
theorem gX5_pace_X5_finds : GoodIn wsX5_pace (wsV RX5 40 RX5 yX5_finds wsX5_finds) := goodIn_app (goodIn_of _ (by decide +kernel)) ggX5_pace_X5_finds
set_option maxRecDepth 20000 in
theorem ggX5_pace_X5_hasIf : GoodIn wsX5_pace wsX5_hasIf := goodIn_r _ [17, 18, 19, 20, 6, 21, 22, 8, 23, 24, 25, 26, 27, 28, 29, 30, 31, 32, 33, 34, 35, 36, 37, 38, 39, 40, 41, 42, 43, 44, 45, 46, 47, 48, 49, 50, 51, 52, 53, 54, 55, 56, 57, 58, 59, 60, 61, 62, 63, 64, 65, 66, 67, 68, 69, 70, 71, 72, 73, 74, 75, 76, 77, 78, 79, 80, 81, 82, 83, 84, 85, 86, 87, 88, 89, 90, 91, 92, 93, 94, 95, 96, 97, 98, 99, 100, 101, 102, 103, 104, 105, 106] rfl (by decide +kernel)
set_option maxRecDepth 20000 in
theorem gX5_pace_X5_hasIf : GoodIn wsX5_pace (wsV RX5 157 RX5 yX5_hasIf wsX5_hasIf) := goodIn_app (goodIn_of _ (by decide +kernel)) ggX5_pace_X5_hasIf
theorem dX5_pace_0 : decode cX5_pace 0 = .ok (.aload_n 0, 1) := by decide +kernel
theorem dX5_pace_1 : decode cX5_pace 1 = .ok (.iload_n 1, 1) := by decide +kernel
theorem dX5_pace_2 : decode cX5_pace 2 = .ok (.invokevirtual 86, 3) := by decide +kernel
theorem dX5_pace_5 : decode cX5_pace 5 = .ok (.ifCond .ne 10, 3) := by decide +kernel
theorem dX5_pace_8 : decode cX5_pace 8 = .ok (.aload_n 0, 1) := by decide +kernel
theorem dX5_pace_9 : decode cX5_pace 9 = .ok (.ldc 38, 2) := by decide +kernel
theorem dX5_pace_11 : decode cX5_pace 11 = .ok (.invokevirtual 40, 3) := by decide +kernel
theorem dX5_pace_14 : decode cX5_pace 14 = .ok (.ireturn, 1) := by decide +kernel
theorem dX5_pace_15 : decode cX5_pace 15 = .ok (.iconst 1, 1) := by decide +kernel
theorem dX5_pace_16 : decode cX5_pace 16 = .ok (.istore_n 2, 1) := by decide +kernel
theorem dX5_pace_17 : decode cX5_pace 17 = .ok (.iload_n 2, 1) := by decide +kernel
theorem dX5_pace_18 : decode cX5_pace 18 = .ok (.bipush 12, 2) := by decide +kernel
theorem dX5_pace_20 : decode cX5_pace 20 = .ok (.if_icmp .gt 21, 3) := by decide +kernel
theorem dX5_pace_23 : decode cX5_pace 23 = .ok (.aload_n 0, 1) := by decide +kernel
theorem dX5_pace_24 : decode cX5_pace 24 = .ok (.iload_n 1, 1) := by decide +kernel
theorem dX5_pace_25 : decode cX5_pace 25 = .ok (.iconst 1, 1) := by decide +kernel
theorem dX5_pace_26 : decode cX5_pace 26 = .ok (.iload_n 2, 1) := by decide +kernel
theorem dX5_pace_27 : decode cX5_pace 27 = .ok (.invokevirtual 157, 3) := by decide +kernel
theorem dX5_pace_30 : decode cX5_pace 30 = .ok (.ifCond .eq 5, 3) := by decide +kernel
theorem dX5_pace_33 : decode cX5_pace 33 = .ok (.iload_n 2, 1) := by decide +kernel
theorem dX5_pace_34 : decode cX5_pace 34 = .ok (.ireturn, 1) := by decide +kernel
theorem dX5_pace_35 : decode cX5_pace 35 = .ok (.iinc 2 1, 3) := by decide +kernel
theorem dX5_pace_38 : decode cX5_pace 38 = .ok (.goto (-21), 3) := by decide +kernel
theorem dX5_pace_41 : decode cX5_pace 41 = .ok (.aload_n 0, 1) := by decide +kernel
theorem dX5_pace_42 : decode cX5_pace 42 = .ok (.ldc 39, 2) := by decide +kernel
theorem dX5_pace_44 : decode cX5_pace 44 = .ok (.invokevirtual 40, 3) := by decide +kernel
theorem dX5_pace_47 : decode cX5_pace 47 = .ok (.ireturn, 1) := by decide +kernel
set_option maxRecDepth 20000 in
theorem ggX5_kind_X5_isRunner : GoodIn wsX5_kind wsX5_isRunner := goodIn_r _ [7, 8, 92, 93, 94, 95, 96, 97, 98, 99, 100, 101, 102, 103, 104, 105, 106] rfl (by decide +kernel)
set_option maxRecDepth 20000 in
theorem gX5_kind_X5_isRunner : GoodIn wsX5_kind (wsV RX5 86 RX5 yX5_isRunner wsX5_isRunner) := goodIn_app (goodIn_of _ (by decide +kernel)) ggX5_kind_X5_isRunner
set_option maxRecDepth 20000 in
theorem ggX5_kind_X5_finds : GoodIn wsX5_kind wsX5_finds := goodIn_r _ [12, 13, 1, 92, 93, 94, 95, 96, 97, 98, 99, 100, 101, 102, 103, 104, 105, 106] rfl (by decide +kernel)
set_option maxRecDepth 20000 in
theorem gX5_kind_X5_finds : GoodIn wsX5_kind (wsV RX5 40 RX5 yX5_finds wsX5_finds) := goodIn_app (goodIn_of _ (by decide +kernel)) ggX5_kind_X5_finds
set_option maxRecDepth 20000 in
theorem ggX5_kind_X5_hasIf : GoodIn wsX5_kind wsX5_hasIf := goodIn_r _ [17, 18, 19, 20, 6, 21, 22, 8, 23, 24, 25, 26, 27, 28, 29, 30, 31, 32, 33, 34, 35, 36, 37, 38, 39, 40, 41, 42, 43, 44, 45, 46, 47, 48, 49, 50, 51, 52, 53, 54, 55, 56, 57, 58, 59, 60, 61, 62, 63, 64, 65, 66, 67, 68, 69, 70, 71, 72, 73, 74, 75, 76, 77, 78, 79, 80, 81, 82, 83, 84, 85, 86, 87, 88, 89, 90, 91, 92, 93, 94, 95, 96, 97, 98, 99, 100, 101, 102, 103, 104, 105, 106] rfl (by decide +kernel)
set_option maxRecDepth 20000 in
theorem gX5_kind_X5_hasIf : GoodIn wsX5_kind (wsV RX5 157 RX5 yX5_hasIf wsX5_hasIf) := goodIn_app (goodIn_of _ (by decide +kernel)) ggX5_kind_X5_hasIf
theorem dX5_kind_0 : decode cX5_kind 0 = .ok (.aload_n 0, 1) := by decide +kernel
theorem dX5_kind_1 : decode cX5_kind 1 = .ok (.iload_n 1, 1) := by decide +kernel
theorem dX5_kind_2 : decode cX5_kind 2 = .ok (.invokevirtual 86, 3) := by decide +kernel
theorem dX5_kind_5 : decode cX5_kind 5 = .ok (.ifCond .ne 10, 3) := by decide +kernel
theorem dX5_kind_8 : decode cX5_kind 8 = .ok (.aload_n 0, 1) := by decide +kernel
theorem dX5_kind_9 : decode cX5_kind 9 = .ok (.ldc 38, 2) := by decide +kernel
theorem dX5_kind_11 : decode cX5_kind 11 = .ok (.invokevirtual 40, 3) := by decide +kernel
theorem dX5_kind_14 : decode cX5_kind 14 = .ok (.ireturn, 1) := by decide +kernel
theorem dX5_kind_15 : decode cX5_kind 15 = .ok (.iconst 0, 1) := by decide +kernel
theorem dX5_kind_16 : decode cX5_kind 16 = .ok (.istore_n 2, 1) := by decide +kernel
theorem dX5_kind_17 : decode cX5_kind 17 = .ok (.iload_n 2, 1) := by decide +kernel
theorem dX5_kind_18 : decode cX5_kind 18 = .ok (.iconst 5, 1) := by decide +kernel
theorem dX5_kind_19 : decode cX5_kind 19 = .ok (.if_icmp .gt 21, 3) := by decide +kernel
theorem dX5_kind_22 : decode cX5_kind 22 = .ok (.aload_n 0, 1) := by decide +kernel
theorem dX5_kind_23 : decode cX5_kind 23 = .ok (.iload_n 1, 1) := by decide +kernel
theorem dX5_kind_24 : decode cX5_kind 24 = .ok (.iconst 0, 1) := by decide +kernel
theorem dX5_kind_25 : decode cX5_kind 25 = .ok (.iload_n 2, 1) := by decide +kernel
theorem dX5_kind_26 : decode cX5_kind 26 = .ok (.invokevirtual 157, 3) := by decide +kernel
theorem dX5_kind_29 : decode cX5_kind 29 = .ok (.ifCond .eq 5, 3) := by decide +kernel
theorem dX5_kind_32 : decode cX5_kind 32 = .ok (.iload_n 2, 1) := by decide +kernel
theorem dX5_kind_33 : decode cX5_kind 33 = .ok (.ireturn, 1) := by decide +kernel
theorem dX5_kind_34 : decode cX5_kind 34 = .ok (.iinc 2 1, 3) := by decide +kernel
theorem dX5_kind_37 : decode cX5_kind 37 = .ok (.goto (-20), 3) := by decide +kernel
theorem dX5_kind_40 : decode cX5_kind 40 = .ok (.aload_n 0, 1) := by decide +kernel
theorem dX5_kind_41 : decode cX5_kind 41 = .ok (.ldc 39, 2) := by decide +kernel
theorem dX5_kind_43 : decode cX5_kind 43 = .ok (.invokevirtual 40, 3) := by decide +kernel
theorem dX5_kind_46 : decode cX5_kind 46 = .ok (.ireturn, 1) := by decide +kernel
set_option maxRecDepth 20000 in
theorem ggX5_start_X5_isRunner : GoodIn wsX5_start wsX5_isRunner := goodIn_r _ [8, 2, 92, 93, 94, 95, 96, 97, 98, 99, 100, 101, 102, 103, 104, 105, 106] rfl (by decide +kernel)
set_option maxRecDepth 20000 in
theorem gX5_start_X5_isRunner : GoodIn wsX5_start (wsV RX5 86 RX5 yX5_isRunner wsX5_isRunner) := goodIn_app (goodIn_of _ (by decide +kernel)) ggX5_start_X5_isRunner
set_option maxRecDepth 20000 in
theorem ggX5_start_X5_finds : GoodIn wsX5_start wsX5_finds := goodIn_r _ [12, 13, 1, 92, 93, 94, 95, 96, 97, 98, 99, 100, 101, 102, 103, 104, 105, 106] rfl (by decide +kernel)
set_option maxRecDepth 20000 in
theorem gX5_start_X5_finds : GoodIn wsX5_start (wsV RX5 40 RX5 yX5_finds wsX5_finds) := goodIn_app (goodIn_of _ (by decide +kernel)) ggX5_start_X5_finds
set_option maxRecDepth 20000 in
theorem ggX5_start_X5_hasIf : GoodIn wsX5_start wsX5_hasIf := goodIn_r _ [17, 18, 19, 20, 7, 21, 22, 2, 23, 24, 25, 26, 27, 28, 29, 30, 31, 32, 33, 34, 35, 36, 37, 38, 39, 40, 41, 42, 43, 44, 45, 46, 47, 48, 49, 50, 51, 52, 53, 54, 55, 56, 57, 58, 59, 60, 61, 62, 63, 64, 65, 66, 67, 68, 69, 70, 71, 72, 73, 74, 75, 76, 77, 78, 79, 80, 81, 82, 83, 84, 85, 86, 87, 88, 89, 90, 91, 92, 93, 94, 95, 96, 97, 98, 99, 100, 101, 102, 103, 104, 105, 106] rfl (by decide +kernel)
set_option maxRecDepth 20000 in
theorem gX5_start_X5_hasIf : GoodIn wsX5_start (wsV RX5 157 RX5 yX5_hasIf wsX5_hasIf) := goodIn_app (goodIn_of _ (by decide +kernel)) ggX5_start_X5_hasIf
theorem dX5_start_0 : decode cX5_start 0 = .ok (.aload_n 0, 1) := by decide +kernel
theorem dX5_start_1 : decode cX5_start 1 = .ok (.iload_n 1, 1) := by decide +kernel
theorem dX5_start_2 : decode cX5_start 2 = .ok (.invokevirtual 86, 3) := by decide +kernel
theorem dX5_start_5 : decode cX5_start 5 = .ok (.ifCond .ne 10, 3) := by decide +kernel
theorem dX5_start_8 : decode cX5_start 8 = .ok (.aload_n 0, 1) := by decide +kernel
theorem dX5_start_9 : decode cX5_start 9 = .ok (.ldc 38, 2) := by decide +kernel
theorem dX5_start_11 : decode cX5_start 11 = .ok (.invokevirtual 40, 3) := by decide +kernel
theorem dX5_start_14 : decode cX5_start 14 = .ok (.ireturn, 1) := by decide +kernel
theorem dX5_start_15 : decode cX5_start 15 = .ok (.iconst 0, 1) := by decide +kernel
theorem dX5_start_16 : decode cX5_start 16 = .ok (.istore_n 2, 1) := by decide +kernel
theorem dX5_start_17 : decode cX5_start 17 = .ok (.iload_n 2, 1) := by decide +kernel
theorem dX5_start_18 : decode cX5_start 18 = .ok (.sipush 200, 3) := by decide +kernel
theorem dX5_start_21 : decode cX5_start 21 = .ok (.if_icmp .gt 31, 3) := by decide +kernel
theorem dX5_start_24 : decode cX5_start 24 = .ok (.iload_n 2, 1) := by decide +kernel
theorem dX5_start_25 : decode cX5_start 25 = .ok (.aload_n 0, 1) := by decide +kernel
theorem dX5_start_26 : decode cX5_start 26 = .ok (.getfield 7, 3) := by decide +kernel
theorem dX5_start_29 : decode cX5_start 29 = .ok (.iconst 1, 1) := by decide +kernel
theorem dX5_start_30 : decode cX5_start 30 = .ok (.iaload, 1) := by decide +kernel
theorem dX5_start_31 : decode cX5_start 31 = .ok (.if_icmp .ge 21, 3) := by decide +kernel
theorem dX5_start_34 : decode cX5_start 34 = .ok (.aload_n 0, 1) := by decide +kernel
theorem dX5_start_35 : decode cX5_start 35 = .ok (.iload_n 1, 1) := by decide +kernel
theorem dX5_start_36 : decode cX5_start 36 = .ok (.iconst 4, 1) := by decide +kernel
theorem dX5_start_37 : decode cX5_start 37 = .ok (.iload_n 2, 1) := by decide +kernel
theorem dX5_start_38 : decode cX5_start 38 = .ok (.invokevirtual 157, 3) := by decide +kernel
theorem dX5_start_41 : decode cX5_start 41 = .ok (.ifCond .eq 5, 3) := by decide +kernel
theorem dX5_start_44 : decode cX5_start 44 = .ok (.iload_n 2, 1) := by decide +kernel
theorem dX5_start_45 : decode cX5_start 45 = .ok (.ireturn, 1) := by decide +kernel
theorem dX5_start_46 : decode cX5_start 46 = .ok (.iinc 2 5, 3) := by decide +kernel
theorem dX5_start_49 : decode cX5_start 49 = .ok (.goto (-32), 3) := by decide +kernel
theorem dX5_start_52 : decode cX5_start 52 = .ok (.aload_n 0, 1) := by decide +kernel
theorem dX5_start_53 : decode cX5_start 53 = .ok (.ldc 39, 2) := by decide +kernel
theorem dX5_start_55 : decode cX5_start 55 = .ok (.invokevirtual 40, 3) := by decide +kernel
theorem dX5_start_58 : decode cX5_start 58 = .ok (.ireturn, 1) := by decide +kernel
set_option maxRecDepth 20000 in
theorem ggX5_favours_X5_isRunner : GoodIn wsX5_favours wsX5_isRunner := goodIn_r _ [6, 7, 88, 89, 90, 91, 92, 93, 94, 95, 96, 97, 98, 99, 100, 101, 102] rfl (by decide +kernel)
set_option maxRecDepth 20000 in
theorem gX5_favours_X5_isRunner : GoodIn wsX5_favours (wsV RX5 86 RX5 yX5_isRunner wsX5_isRunner) := goodIn_app (goodIn_of _ (by decide +kernel)) ggX5_favours_X5_isRunner
set_option maxRecDepth 20000 in
theorem ggX5_favours_X5_finds : GoodIn wsX5_favours wsX5_finds := goodIn_r _ [11, 12, 1, 88, 89, 90, 91, 92, 93, 94, 95, 96, 97, 98, 99, 100, 101, 102] rfl (by decide +kernel)
set_option maxRecDepth 20000 in
theorem gX5_favours_X5_finds : GoodIn wsX5_favours (wsV RX5 40 RX5 yX5_finds wsX5_finds) := goodIn_app (goodIn_of _ (by decide +kernel)) ggX5_favours_X5_finds
set_option maxRecDepth 20000 in
theorem ggX5_favours_X5_laysBy : GoodIn wsX5_favours wsX5_laysBy := goodIn_r _ [16, 17, 7, 88, 89, 90, 91, 92, 93, 94, 95, 96, 97, 98, 99, 100, 101, 102] rfl (by decide +kernel)
set_option maxRecDepth 20000 in
theorem gX5_favours_X5_laysBy : GoodIn wsX5_favours (wsV RX5 138 RX5 yX5_laysBy wsX5_laysBy) := goodIn_app (goodIn_of _ (by decide +kernel)) ggX5_favours_X5_laysBy
set_option maxRecDepth 20000 in
theorem ggX5_favours_X5_lines : GoodIn wsX5_favours wsX5_lines := goodIn_r _ [21, 7, 22, 23, 24, 5, 25, 26, 27, 28, 29, 88, 89, 90, 91, 92, 93, 94, 95, 96, 97, 98, 99, 100, 101, 102] rfl (by decide +kernel)
set_option maxRecDepth 20000 in
theorem gX5_favours_X5_lines : GoodIn wsX5_favours (wsV RX5 119 RX5 yX5_lines wsX5_lines) := goodIn_app (goodIn_of _ (by decide +kernel)) ggX5_favours_X5_lines
set_option maxRecDepth 20000 in
theorem ggX5_favours_X5_goesToEnd : GoodIn wsX5_favours wsX5_goesToEnd := goodIn_r _ [33, 7, 34, 35, 36, 5, 37, 38, 39, 40, 41, 22, 23, 24, 25, 42, 43, 44, 45, 46, 47, 48, 49, 50, 51, 52, 53, 54, 55, 56, 57, 58, 59, 60, 61, 62, 26, 27, 28, 29, 88, 89, 90, 91, 92, 93, 94, 95, 96, 97, 98, 99, 100, 101, 102] rfl (by decide +kernel)
set_option maxRecDepth 20000 in
theorem gX5_favours_X5_goesToEnd : GoodIn wsX5_favours (wsV RX5 148 RX5 yX5_goesToEnd wsX5_goesToEnd) := goodIn_app (goodIn_of _ (by decide +kernel)) ggX5_favours_X5_goesToEnd
set_option maxRecDepth 20000 in
theorem ggX5_favours_X5_prizeOf : GoodIn wsX5_favours wsX5_prizeOf := goodIn_r _ [66, 7, 67, 68, 69, 5, 70, 71, 72, 73, 74, 75, 76, 77, 78, 38, 39, 40, 41, 22, 23, 24, 25, 88, 89, 90, 91, 92, 93, 94, 95, 96, 97, 98, 99, 100, 101, 102] rfl (by decide +kernel)
set_option maxRecDepth 20000 in
theorem gX5_favours_X5_prizeOf : GoodIn wsX5_favours (wsV RX5 130 RX5 yX5_prizeOf wsX5_prizeOf) := goodIn_app (goodIn_of _ (by decide +kernel)) ggX5_favours_X5_prizeOf
set_option maxRecDepth 20000 in
theorem ggX5_favours_X5_laysBack : GoodIn wsX5_favours wsX5_laysBack := goodIn_r _ [82, 7, 17, 88, 89, 90, 91, 92, 93, 94, 95, 96, 97, 98, 99, 100, 101, 102] rfl (by decide +kernel)
set_option maxRecDepth 20000 in
theorem gX5_favours_X5_laysBack : GoodIn wsX5_favours (wsV RX5 145 RX5 yX5_laysBack wsX5_laysBack) := goodIn_app (goodIn_of _ (by decide +kernel)) ggX5_favours_X5_laysBack
set_option maxRecDepth 20000 in
theorem ggX5_favours_X5_orNone : GoodIn wsX5_favours wsX5_orNone := goodIn_r _ [86, 87, 8, 9, 10, 5, 11, 12, 1, 88, 89, 90, 91, 92, 93, 94, 95, 96, 97, 98, 99, 100, 101, 102] rfl (by decide +kernel)
set_option maxRecDepth 20000 in
theorem gX5_favours_X5_orNone : GoodIn wsX5_favours (wsV RX5 133 RX5 yX5_orNone wsX5_orNone) := goodIn_app (goodIn_of _ (by decide +kernel)) ggX5_favours_X5_orNone
theorem dX5_favours_0 : decode cX5_favours 0 = .ok (.aload_n 0, 1) := by decide +kernel
theorem dX5_favours_1 : decode cX5_favours 1 = .ok (.iload_n 1, 1) := by decide +kernel
theorem dX5_favours_2 : decode cX5_favours 2 = .ok (.invokevirtual 86, 3) := by decide +kernel
theorem dX5_favours_5 : decode cX5_favours 5 = .ok (.ifCond .ne 10, 3) := by decide +kernel
theorem dX5_favours_8 : decode cX5_favours 8 = .ok (.aload_n 0, 1) := by decide +kernel
theorem dX5_favours_9 : decode cX5_favours 9 = .ok (.ldc 38, 2) := by decide +kernel
theorem dX5_favours_11 : decode cX5_favours 11 = .ok (.invokevirtual 40, 3) := by decide +kernel
theorem dX5_favours_14 : decode cX5_favours 14 = .ok (.ireturn, 1) := by decide +kernel
theorem dX5_favours_15 : decode cX5_favours 15 = .ok (.aload_n 0, 1) := by decide +kernel
theorem dX5_favours_16 : decode cX5_favours 16 = .ok (.invokevirtual 138, 3) := by decide +kernel
theorem dX5_favours_19 : decode cX5_favours 19 = .ok (.aload_n 0, 1) := by decide +kernel
theorem dX5_favours_20 : decode cX5_favours 20 = .ok (.invokevirtual 119, 3) := by decide +kernel
theorem dX5_favours_23 : decode cX5_favours 23 = .ok (.aload_n 0, 1) := by decide +kernel
theorem dX5_favours_24 : decode cX5_favours 24 = .ok (.invokevirtual 148, 3) := by decide +kernel
theorem dX5_favours_27 : decode cX5_favours 27 = .ok (.ifCond .eq 7, 3) := by decide +kernel
theorem dX5_favours_30 : decode cX5_favours 30 = .ok (.iconst 0, 1) := by decide +kernel
theorem dX5_favours_31 : decode cX5_favours 31 = .ok (.goto 4, 3) := by decide +kernel
theorem dX5_favours_34 : decode cX5_favours 34 = .ok (.iconst (-1), 1) := by decide +kernel
theorem dX5_favours_35 : decode cX5_favours 35 = .ok (.istore_n 2, 1) := by decide +kernel
theorem dX5_favours_36 : decode cX5_favours 36 = .ok (.iconst 0, 1) := by decide +kernel
theorem dX5_favours_37 : decode cX5_favours 37 = .ok (.istore_n 3, 1) := by decide +kernel
theorem dX5_favours_38 : decode cX5_favours 38 = .ok (.iload_n 3, 1) := by decide +kernel
theorem dX5_favours_39 : decode cX5_favours 39 = .ok (.iconst 4, 1) := by decide +kernel
theorem dX5_favours_40 : decode cX5_favours 40 = .ok (.if_icmp .ge 32, 3) := by decide +kernel
theorem dX5_favours_43 : decode cX5_favours 43 = .ok (.iload_n 2, 1) := by decide +kernel
theorem dX5_favours_44 : decode cX5_favours 44 = .ok (.ifCond .lt 28, 3) := by decide +kernel
theorem dX5_favours_47 : decode cX5_favours 47 = .ok (.iload_n 2, 1) := by decide +kernel
theorem dX5_favours_48 : decode cX5_favours 48 = .ok (.aload_n 0, 1) := by decide +kernel
theorem dX5_favours_49 : decode cX5_favours 49 = .ok (.iload_n 3, 1) := by decide +kernel
theorem dX5_favours_50 : decode cX5_favours 50 = .ok (.invokevirtual 130, 3) := by decide +kernel
theorem dX5_favours_53 : decode cX5_favours 53 = .ok (.iload_n 1, 1) := by decide +kernel
theorem dX5_favours_54 : decode cX5_favours 54 = .ok (.if_icmp .ne 9, 3) := by decide +kernel
theorem dX5_favours_57 : decode cX5_favours 57 = .ok (.iconst 1, 1) := by decide +kernel
theorem dX5_favours_58 : decode cX5_favours 58 = .ok (.iload_n 3, 1) := by decide +kernel
theorem dX5_favours_59 : decode cX5_favours 59 = .ok (.ishl, 1) := by decide +kernel
theorem dX5_favours_60 : decode cX5_favours 60 = .ok (.goto 4, 3) := by decide +kernel
theorem dX5_favours_63 : decode cX5_favours 63 = .ok (.iconst 0, 1) := by decide +kernel
theorem dX5_favours_64 : decode cX5_favours 64 = .ok (.ior, 1) := by decide +kernel
theorem dX5_favours_65 : decode cX5_favours 65 = .ok (.istore_n 2, 1) := by decide +kernel
theorem dX5_favours_66 : decode cX5_favours 66 = .ok (.iinc 3 1, 3) := by decide +kernel
theorem dX5_favours_69 : decode cX5_favours 69 = .ok (.goto (-31), 3) := by decide +kernel
theorem dX5_favours_72 : decode cX5_favours 72 = .ok (.aload_n 0, 1) := by decide +kernel
theorem dX5_favours_73 : decode cX5_favours 73 = .ok (.invokevirtual 145, 3) := by decide +kernel
theorem dX5_favours_76 : decode cX5_favours 76 = .ok (.aload_n 0, 1) := by decide +kernel
theorem dX5_favours_77 : decode cX5_favours 77 = .ok (.iload_n 2, 1) := by decide +kernel
theorem dX5_favours_78 : decode cX5_favours 78 = .ok (.invokevirtual 133, 3) := by decide +kernel
theorem dX5_favours_81 : decode cX5_favours 81 = .ok (.ireturn, 1) := by decide +kernel
set_option maxRecDepth 20000 in
theorem ggX5_friend_X5_isRunner : GoodIn wsX5_friend wsX5_isRunner := goodIn_r _ [8, 2, 92, 93, 94, 95, 96, 97, 98, 99, 100, 101, 102, 103, 104, 105, 106] rfl (by decide +kernel)
set_option maxRecDepth 20000 in
theorem gX5_friend_X5_isRunner : GoodIn wsX5_friend (wsV RX5 86 RX5 yX5_isRunner wsX5_isRunner) := goodIn_app (goodIn_of _ (by decide +kernel)) ggX5_friend_X5_isRunner
set_option maxRecDepth 20000 in
theorem ggX5_friend_X5_finds : GoodIn wsX5_friend wsX5_finds := goodIn_r _ [12, 13, 1, 92, 93, 94, 95, 96, 97, 98, 99, 100, 101, 102, 103, 104, 105, 106] rfl (by decide +kernel)
set_option maxRecDepth 20000 in
theorem gX5_friend_X5_finds : GoodIn wsX5_friend (wsV RX5 40 RX5 yX5_finds wsX5_finds) := goodIn_app (goodIn_of _ (by decide +kernel)) ggX5_friend_X5_finds
set_option maxRecDepth 20000 in
theorem ggX5_friend_X5_hasIf : GoodIn wsX5_friend wsX5_hasIf := goodIn_r _ [17, 18, 19, 20, 7, 21, 22, 2, 23, 24, 25, 26, 27, 28, 29, 30, 31, 32, 33, 34, 35, 36, 37, 38, 39, 40, 41, 42, 43, 44, 45, 46, 47, 48, 49, 50, 51, 52, 53, 54, 55, 56, 57, 58, 59, 60, 61, 62, 63, 64, 65, 66, 67, 68, 69, 70, 71, 72, 73, 74, 75, 76, 77, 78, 79, 80, 81, 82, 83, 84, 85, 86, 87, 88, 89, 90, 91, 92, 93, 94, 95, 96, 97, 98, 99, 100, 101, 102, 103, 104, 105, 106] rfl (by decide +kernel)
set_option maxRecDepth 20000 in
theorem gX5_friend_X5_hasIf : GoodIn wsX5_friend (wsV RX5 157 RX5 yX5_hasIf wsX5_hasIf) := goodIn_app (goodIn_of _ (by decide +kernel)) ggX5_friend_X5_hasIf
theorem dX5_friend_0 : decode cX5_friend 0 = .ok (.aload_n 0, 1) := by decide +kernel
theorem dX5_friend_1 : decode cX5_friend 1 = .ok (.iload_n 1, 1) := by decide +kernel
theorem dX5_friend_2 : decode cX5_friend 2 = .ok (.invokevirtual 86, 3) := by decide +kernel
theorem dX5_friend_5 : decode cX5_friend 5 = .ok (.ifCond .ne 10, 3) := by decide +kernel
theorem dX5_friend_8 : decode cX5_friend 8 = .ok (.aload_n 0, 1) := by decide +kernel
theorem dX5_friend_9 : decode cX5_friend 9 = .ok (.ldc 38, 2) := by decide +kernel
theorem dX5_friend_11 : decode cX5_friend 11 = .ok (.invokevirtual 40, 3) := by decide +kernel
theorem dX5_friend_14 : decode cX5_friend 14 = .ok (.ireturn, 1) := by decide +kernel
theorem dX5_friend_15 : decode cX5_friend 15 = .ok (.iconst (-1), 1) := by decide +kernel
theorem dX5_friend_16 : decode cX5_friend 16 = .ok (.istore_n 2, 1) := by decide +kernel
theorem dX5_friend_17 : decode cX5_friend 17 = .ok (.iload_n 2, 1) := by decide +kernel
theorem dX5_friend_18 : decode cX5_friend 18 = .ok (.aload_n 0, 1) := by decide +kernel
theorem dX5_friend_19 : decode cX5_friend 19 = .ok (.getfield 7, 3) := by decide +kernel
theorem dX5_friend_22 : decode cX5_friend 22 = .ok (.iconst 0, 1) := by decide +kernel
theorem dX5_friend_23 : decode cX5_friend 23 = .ok (.iaload, 1) := by decide +kernel
theorem dX5_friend_24 : decode cX5_friend 24 = .ok (.if_icmp .ge 26, 3) := by decide +kernel
theorem dX5_friend_27 : decode cX5_friend 27 = .ok (.iload_n 2, 1) := by decide +kernel
theorem dX5_friend_28 : decode cX5_friend 28 = .ok (.iload_n 1, 1) := by decide +kernel
theorem dX5_friend_29 : decode cX5_friend 29 = .ok (.if_icmp .eq 15, 3) := by decide +kernel
theorem dX5_friend_32 : decode cX5_friend 32 = .ok (.aload_n 0, 1) := by decide +kernel
theorem dX5_friend_33 : decode cX5_friend 33 = .ok (.iload_n 1, 1) := by decide +kernel
theorem dX5_friend_34 : decode cX5_friend 34 = .ok (.iconst 3, 1) := by decide +kernel
theorem dX5_friend_35 : decode cX5_friend 35 = .ok (.iload_n 2, 1) := by decide +kernel
theorem dX5_friend_36 : decode cX5_friend 36 = .ok (.invokevirtual 157, 3) := by decide +kernel
theorem dX5_friend_39 : decode cX5_friend 39 = .ok (.ifCond .eq 5, 3) := by decide +kernel
theorem dX5_friend_42 : decode cX5_friend 42 = .ok (.iload_n 2, 1) := by decide +kernel
theorem dX5_friend_43 : decode cX5_friend 43 = .ok (.ireturn, 1) := by decide +kernel
theorem dX5_friend_44 : decode cX5_friend 44 = .ok (.iinc 2 1, 3) := by decide +kernel
theorem dX5_friend_47 : decode cX5_friend 47 = .ok (.goto (-30), 3) := by decide +kernel
theorem dX5_friend_50 : decode cX5_friend 50 = .ok (.aload_n 0, 1) := by decide +kernel
theorem dX5_friend_51 : decode cX5_friend 51 = .ok (.ldc 39, 2) := by decide +kernel
theorem dX5_friend_53 : decode cX5_friend 53 = .ok (.invokevirtual 40, 3) := by decide +kernel
theorem dX5_friend_56 : decode cX5_friend 56 = .ok (.ireturn, 1) := by decide +kernel
set_option maxRecDepth 20000 in
theorem ggX5_prizeIf_X5_laysBy : GoodIn wsX5_prizeIf wsX5_laysBy := goodIn_r _ [6, 1, 7, 77, 78, 79, 80, 81, 82, 83, 84, 85, 86, 87, 88, 89, 90, 91] rfl (by decide +kernel)
set_option maxRecDepth 20000 in
theorem gX5_prizeIf_X5_laysBy : GoodIn wsX5_prizeIf (wsV RX5 138 RX5 yX5_laysBy wsX5_laysBy) := goodIn_app (goodIn_of _ (by decide +kernel)) ggX5_prizeIf_X5_laysBy
set_option maxRecDepth 20000 in
theorem ggX5_prizeIf_X5_puts : GoodIn wsX5_prizeIf wsX5_puts := goodIn_r _ [11, 7, 77, 78, 79, 80, 81, 82, 83, 84, 85, 86, 87, 88, 89, 90, 91] rfl (by decide +kernel)
set_option maxRecDepth 20000 in
theorem gX5_prizeIf_X5_puts : GoodIn wsX5_prizeIf (wsV RX5 64 RX5 yX5_puts wsX5_puts) := goodIn_app (goodIn_of _ (by decide +kernel)) ggX5_prizeIf_X5_puts
set_option maxRecDepth 20000 in
theorem ggX5_prizeIf_X5_races : GoodIn wsX5_prizeIf wsX5_races := goodIn_r _ [15, 7, 16, 17, 18, 5, 19, 20, 21, 22, 23, 8, 9, 10, 11, 24, 25, 26, 27, 28, 29, 30, 31, 32, 33, 34, 35, 36, 37, 38, 39, 40, 41, 42, 43, 44, 45, 46, 47, 48, 49, 50, 51, 52, 53, 54, 55, 56, 57, 58, 59, 60, 61, 62, 63, 64, 65, 66, 67, 68, 69, 70, 71, 72, 77, 78, 79, 80, 81, 82, 83, 84, 85, 86, 87, 88, 89, 90, 91] rfl (by decide +kernel)
set_option maxRecDepth 20000 in
theorem gX5_prizeIf_X5_races : GoodIn wsX5_prizeIf (wsV RX5 154 RX5 yX5_races wsX5_races) := goodIn_app (goodIn_of _ (by decide +kernel)) ggX5_prizeIf_X5_races
set_option maxRecDepth 20000 in
theorem ggX5_prizeIf_X5_laysBack : GoodIn wsX5_prizeIf wsX5_laysBack := goodIn_r _ [76, 7, 1, 77, 78, 79, 80, 81, 82, 83, 84, 85, 86, 87, 88, 89, 90, 91] rfl (by decide +kernel)
set_option maxRecDepth 20000 in
theorem gX5_prizeIf_X5_laysBack : GoodIn wsX5_prizeIf (wsV RX5 145 RX5 yX5_laysBack wsX5_laysBack) := goodIn_app (goodIn_of _ (by decide +kernel)) ggX5_prizeIf_X5_laysBack
theorem dX5_prizeIf_0 : decode cX5_prizeIf 0 = .ok (.aload_n 0, 1) := by decide +kernel
theorem dX5_prizeIf_1 : decode cX5_prizeIf 1 = .ok (.invokevirtual 138, 3) := by decide +kernel
theorem dX5_prizeIf_4 : decode cX5_prizeIf 4 = .ok (.aload_n 0, 1) := by decide +kernel
theorem dX5_prizeIf_5 : decode cX5_prizeIf 5 = .ok (.iload_n 1, 1) := by decide +kernel
theorem dX5_prizeIf_6 : decode cX5_prizeIf 6 = .ok (.iconst 1, 1) := by decide +kernel
theorem dX5_prizeIf_7 : decode cX5_prizeIf 7 = .ok (.aload_n 0, 1) := by decide +kernel
theorem dX5_prizeIf_8 : decode cX5_prizeIf 8 = .ok (.getfield 16, 3) := by decide +kernel
theorem dX5_prizeIf_11 : decode cX5_prizeIf 11 = .ok (.iconst 5, 1) := by decide +kernel
theorem dX5_prizeIf_12 : decode cX5_prizeIf 12 = .ok (.bipush 8, 2) := by decide +kernel
theorem dX5_prizeIf_14 : decode cX5_prizeIf 14 = .ok (.iload_n 2, 1) := by decide +kernel
theorem dX5_prizeIf_15 : decode cX5_prizeIf 15 = .ok (.imul, 1) := by decide +kernel
theorem dX5_prizeIf_16 : decode cX5_prizeIf 16 = .ok (.iadd, 1) := by decide +kernel
theorem dX5_prizeIf_17 : decode cX5_prizeIf 17 = .ok (.iconst 1, 1) := by decide +kernel
theorem dX5_prizeIf_18 : decode cX5_prizeIf 18 = .ok (.iadd, 1) := by decide +kernel
theorem dX5_prizeIf_19 : decode cX5_prizeIf 19 = .ok (.iaload, 1) := by decide +kernel
theorem dX5_prizeIf_20 : decode cX5_prizeIf 20 = .ok (.invokevirtual 64, 3) := by decide +kernel
theorem dX5_prizeIf_23 : decode cX5_prizeIf 23 = .ok (.aload_n 0, 1) := by decide +kernel
theorem dX5_prizeIf_24 : decode cX5_prizeIf 24 = .ok (.iload_n 2, 1) := by decide +kernel
theorem dX5_prizeIf_25 : decode cX5_prizeIf 25 = .ok (.iconst 1, 1) := by decide +kernel
theorem dX5_prizeIf_26 : decode cX5_prizeIf 26 = .ok (.aload_n 0, 1) := by decide +kernel
theorem dX5_prizeIf_27 : decode cX5_prizeIf 27 = .ok (.getfield 16, 3) := by decide +kernel
theorem dX5_prizeIf_30 : decode cX5_prizeIf 30 = .ok (.iconst 5, 1) := by decide +kernel
theorem dX5_prizeIf_31 : decode cX5_prizeIf 31 = .ok (.bipush 8, 2) := by decide +kernel
theorem dX5_prizeIf_33 : decode cX5_prizeIf 33 = .ok (.iload_n 1, 1) := by decide +kernel
theorem dX5_prizeIf_34 : decode cX5_prizeIf 34 = .ok (.imul, 1) := by decide +kernel
theorem dX5_prizeIf_35 : decode cX5_prizeIf 35 = .ok (.iadd, 1) := by decide +kernel
theorem dX5_prizeIf_36 : decode cX5_prizeIf 36 = .ok (.iconst 1, 1) := by decide +kernel
theorem dX5_prizeIf_37 : decode cX5_prizeIf 37 = .ok (.iadd, 1) := by decide +kernel
theorem dX5_prizeIf_38 : decode cX5_prizeIf 38 = .ok (.iaload, 1) := by decide +kernel
theorem dX5_prizeIf_39 : decode cX5_prizeIf 39 = .ok (.invokevirtual 64, 3) := by decide +kernel
theorem dX5_prizeIf_42 : decode cX5_prizeIf 42 = .ok (.aload_n 0, 1) := by decide +kernel
theorem dX5_prizeIf_43 : decode cX5_prizeIf 43 = .ok (.invokevirtual 154, 3) := by decide +kernel
theorem dX5_prizeIf_46 : decode cX5_prizeIf 46 = .ok (.istore_n 3, 1) := by decide +kernel
theorem dX5_prizeIf_47 : decode cX5_prizeIf 47 = .ok (.aload_n 0, 1) := by decide +kernel
theorem dX5_prizeIf_48 : decode cX5_prizeIf 48 = .ok (.invokevirtual 145, 3) := by decide +kernel
theorem dX5_prizeIf_51 : decode cX5_prizeIf 51 = .ok (.iload_n 3, 1) := by decide +kernel
theorem dX5_prizeIf_52 : decode cX5_prizeIf 52 = .ok (.ireturn, 1) := by decide +kernel
set_option maxRecDepth 20000 in
theorem ggX5_deal_X5_laysBy : GoodIn wsX5_deal wsX5_laysBy := goodIn_r _ [7, 8, 1, 88, 89, 90, 91, 92, 93, 94, 95, 96, 97, 98, 99, 100, 101, 102] rfl (by decide +kernel)
set_option maxRecDepth 20000 in
theorem gX5_deal_X5_laysBy : GoodIn wsX5_deal (wsV RX5 138 RX5 yX5_laysBy wsX5_laysBy) := goodIn_app (goodIn_of _ (by decide +kernel)) ggX5_deal_X5_laysBy
set_option maxRecDepth 20000 in
theorem ggX5_deal_X5_races : GoodIn wsX5_deal wsX5_races := goodIn_r _ [12, 1, 13, 14, 15, 6, 16, 17, 18, 19, 20, 21, 22, 23, 24, 25, 26, 27, 28, 29, 30, 31, 32, 33, 34, 35, 36, 37, 38, 39, 40, 41, 42, 43, 44, 45, 46, 47, 48, 49, 50, 51, 52, 53, 54, 55, 56, 57, 58, 59, 60, 61, 62, 63, 64, 65, 66, 67, 68, 69, 70, 71, 72, 73, 88, 89, 90, 91, 92, 93, 94, 95, 96, 97, 98, 99, 100, 101, 102] rfl (by decide +kernel)
set_option maxRecDepth 20000 in
theorem gX5_deal_X5_races : GoodIn wsX5_deal (wsV RX5 154 RX5 yX5_races wsX5_races) := goodIn_app (goodIn_of _ (by decide +kernel)) ggX5_deal_X5_races
set_option maxRecDepth 20000 in
theorem ggX5_deal_X5_laysBack : GoodIn wsX5_deal wsX5_laysBack := goodIn_r _ [77, 1, 8, 88, 89, 90, 91, 92, 93, 94, 95, 96, 97, 98, 99, 100, 101, 102] rfl (by decide +kernel)
set_option maxRecDepth 20000 in
theorem gX5_deal_X5_laysBack : GoodIn wsX5_deal (wsV RX5 145 RX5 yX5_laysBack wsX5_laysBack) := goodIn_app (goodIn_of _ (by decide +kernel)) ggX5_deal_X5_laysBack
set_option maxRecDepth 20000 in
theorem ggX5_deal_X5_prizeIf : GoodIn wsX5_deal wsX5_prizeIf := goodIn_r _ [81, 8, 3, 4, 5, 6, 7, 1, 21, 22, 23, 24, 9, 10, 11, 12, 13, 14, 15, 16, 17, 18, 19, 20, 25, 26, 27, 28, 29, 30, 31, 32, 33, 34, 35, 36, 37, 38, 39, 40, 41, 42, 43, 44, 45, 46, 47, 48, 49, 50, 51, 52, 53, 54, 55, 56, 57, 58, 59, 60, 61, 62, 63, 64, 65, 66, 67, 68, 69, 70, 71, 72, 73, 74, 75, 76, 77, 88, 89, 90, 91, 92, 93, 94, 95, 96, 97, 98, 99, 100, 101, 102] rfl (by decide +kernel)
set_option maxRecDepth 20000 in
theorem gX5_deal_X5_prizeIf : GoodIn wsX5_deal (wsV RX5 160 RX5 yX5_prizeIf wsX5_prizeIf) := goodIn_app (goodIn_of _ (by decide +kernel)) ggX5_deal_X5_prizeIf
set_option maxRecDepth 20000 in
theorem ggX5_deal_X5_finds : GoodIn wsX5_deal wsX5_finds := goodIn_r _ [85, 86, 87, 88, 89, 90, 91, 92, 93, 94, 95, 96, 97, 98, 99, 100, 101, 102] rfl (by decide +kernel)
set_option maxRecDepth 20000 in
theorem gX5_deal_X5_finds : GoodIn wsX5_deal (wsV RX5 40 RX5 yX5_finds wsX5_finds) := goodIn_app (goodIn_of _ (by decide +kernel)) ggX5_deal_X5_finds
theorem dX5_deal_0 : decode cX5_deal 0 = .ok (.aload_n 0, 1) := by decide +kernel
theorem dX5_deal_1 : decode cX5_deal 1 = .ok (.invokevirtual 138, 3) := by decide +kernel
theorem dX5_deal_4 : decode cX5_deal 4 = .ok (.aload_n 0, 1) := by decide +kernel
theorem dX5_deal_5 : decode cX5_deal 5 = .ok (.invokevirtual 154, 3) := by decide +kernel
theorem dX5_deal_8 : decode cX5_deal 8 = .ok (.istore_n 1, 1) := by decide +kernel
theorem dX5_deal_9 : decode cX5_deal 9 = .ok (.aload_n 0, 1) := by decide +kernel
theorem dX5_deal_10 : decode cX5_deal 10 = .ok (.invokevirtual 145, 3) := by decide +kernel
theorem dX5_deal_13 : decode cX5_deal 13 = .ok (.iconst 0, 1) := by decide +kernel
theorem dX5_deal_14 : decode cX5_deal 14 = .ok (.istore_n 2, 1) := by decide +kernel
theorem dX5_deal_15 : decode cX5_deal 15 = .ok (.iload_n 2, 1) := by decide +kernel
theorem dX5_deal_16 : decode cX5_deal 16 = .ok (.aload_n 0, 1) := by decide +kernel
theorem dX5_deal_17 : decode cX5_deal 17 = .ok (.getfield 7, 3) := by decide +kernel
theorem dX5_deal_20 : decode cX5_deal 20 = .ok (.iconst 0, 1) := by decide +kernel
theorem dX5_deal_21 : decode cX5_deal 21 = .ok (.iaload, 1) := by decide +kernel
theorem dX5_deal_22 : decode cX5_deal 22 = .ok (.if_icmp .ge 59, 3) := by decide +kernel
theorem dX5_deal_25 : decode cX5_deal 25 = .ok (.iload_n 1, 1) := by decide +kernel
theorem dX5_deal_26 : decode cX5_deal 26 = .ok (.ifCond .lt 55, 3) := by decide +kernel
theorem dX5_deal_29 : decode cX5_deal 29 = .ok (.iload_n 2, 1) := by decide +kernel
theorem dX5_deal_30 : decode cX5_deal 30 = .ok (.iconst 1, 1) := by decide +kernel
theorem dX5_deal_31 : decode cX5_deal 31 = .ok (.iadd, 1) := by decide +kernel
theorem dX5_deal_32 : decode cX5_deal 32 = .ok (.istore_n 3, 1) := by decide +kernel
theorem dX5_deal_33 : decode cX5_deal 33 = .ok (.iload_n 3, 1) := by decide +kernel
theorem dX5_deal_34 : decode cX5_deal 34 = .ok (.aload_n 0, 1) := by decide +kernel
theorem dX5_deal_35 : decode cX5_deal 35 = .ok (.getfield 7, 3) := by decide +kernel
theorem dX5_deal_38 : decode cX5_deal 38 = .ok (.iconst 0, 1) := by decide +kernel
theorem dX5_deal_39 : decode cX5_deal 39 = .ok (.iaload, 1) := by decide +kernel
theorem dX5_deal_40 : decode cX5_deal 40 = .ok (.if_icmp .ge 35, 3) := by decide +kernel
theorem dX5_deal_43 : decode cX5_deal 43 = .ok (.aload_n 0, 1) := by decide +kernel
theorem dX5_deal_44 : decode cX5_deal 44 = .ok (.iload_n 2, 1) := by decide +kernel
theorem dX5_deal_45 : decode cX5_deal 45 = .ok (.iload_n 3, 1) := by decide +kernel
theorem dX5_deal_46 : decode cX5_deal 46 = .ok (.invokevirtual 160, 3) := by decide +kernel
theorem dX5_deal_49 : decode cX5_deal 49 = .ok (.istore 4, 2) := by decide +kernel
theorem dX5_deal_51 : decode cX5_deal 51 = .ok (.iload 4, 2) := by decide +kernel
theorem dX5_deal_53 : decode cX5_deal 53 = .ok (.ifCond .lt 16, 3) := by decide +kernel
theorem dX5_deal_56 : decode cX5_deal 56 = .ok (.iload 4, 2) := by decide +kernel
theorem dX5_deal_58 : decode cX5_deal 58 = .ok (.iload_n 1, 1) := by decide +kernel
theorem dX5_deal_59 : decode cX5_deal 59 = .ok (.if_icmp .eq 10, 3) := by decide +kernel
theorem dX5_deal_62 : decode cX5_deal 62 = .ok (.bipush 10, 2) := by decide +kernel
theorem dX5_deal_64 : decode cX5_deal 64 = .ok (.iload_n 2, 1) := by decide +kernel
theorem dX5_deal_65 : decode cX5_deal 65 = .ok (.imul, 1) := by decide +kernel
theorem dX5_deal_66 : decode cX5_deal 66 = .ok (.iload_n 3, 1) := by decide +kernel
theorem dX5_deal_67 : decode cX5_deal 67 = .ok (.iadd, 1) := by decide +kernel
theorem dX5_deal_68 : decode cX5_deal 68 = .ok (.ireturn, 1) := by decide +kernel
theorem dX5_deal_69 : decode cX5_deal 69 = .ok (.iinc 3 1, 3) := by decide +kernel
