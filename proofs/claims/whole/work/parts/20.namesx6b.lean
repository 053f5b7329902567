theorem dX6_isAllowed_181 : decode cX6_isAllowed 181 = .ok (.ifCond .ne 7, 3) := by decide +kernel
theorem dX6_isAllowed_184 : decode cX6_isAllowed 184 = .ok (.iconst 1, 1) := by decide +kernel
theorem dX6_isAllowed_185 : decode cX6_isAllowed 185 = .ok (.goto 4, 3) := by decide +kernel
theorem dX6_isAllowed_188 : decode cX6_isAllowed 188 = .ok (.iconst 0, 1) := by decide +kernel
theorem dX6_isAllowed_189 : decode cX6_isAllowed 189 = .ok (.ireturn, 1) := by decide +kernel
theorem dX6_isAllowed_190 : decode cX6_isAllowed 190 = .ok (.aload_n 0, 1) := by decide +kernel
theorem dX6_isAllowed_191 : decode cX6_isAllowed 191 = .ok (.getfield 26, 3) := by decide +kernel
theorem dX6_isAllowed_194 : decode cX6_isAllowed 194 = .ok (.iload_n 1, 1) := by decide +kernel
theorem dX6_isAllowed_195 : decode cX6_isAllowed 195 = .ok (.iaload, 1) := by decide +kernel
theorem dX6_isAllowed_196 : decode cX6_isAllowed 196 = .ok (.bipush 20, 2) := by decide +kernel
theorem dX6_isAllowed_198 : decode cX6_isAllowed 198 = .ok (.if_icmp .ge 43, 3) := by decide +kernel
theorem dX6_isAllowed_201 : decode cX6_isAllowed 201 = .ok (.aload_n 0, 1) := by decide +kernel
theorem dX6_isAllowed_202 : decode cX6_isAllowed 202 = .ok (.iload_n 1, 1) := by decide +kernel
theorem dX6_isAllowed_203 : decode cX6_isAllowed 203 = .ok (.iload_n 3, 1) := by decide +kernel
theorem dX6_isAllowed_204 : decode cX6_isAllowed 204 = .ok (.invokevirtual 57, 3) := by decide +kernel
theorem dX6_isAllowed_207 : decode cX6_isAllowed 207 = .ok (.ifCond .eq 34, 3) := by decide +kernel
theorem dX6_isAllowed_210 : decode cX6_isAllowed 210 = .ok (.aload_n 0, 1) := by decide +kernel
theorem dX6_isAllowed_211 : decode cX6_isAllowed 211 = .ok (.iload_n 1, 1) := by decide +kernel
theorem dX6_isAllowed_212 : decode cX6_isAllowed 212 = .ok (.iload 4, 2) := by decide +kernel
theorem dX6_isAllowed_214 : decode cX6_isAllowed 214 = .ok (.invokevirtual 57, 3) := by decide +kernel
theorem dX6_isAllowed_217 : decode cX6_isAllowed 217 = .ok (.ifCond .eq 24, 3) := by decide +kernel
theorem dX6_isAllowed_220 : decode cX6_isAllowed 220 = .ok (.iload_n 3, 1) := by decide +kernel
theorem dX6_isAllowed_221 : decode cX6_isAllowed 221 = .ok (.iload 4, 2) := by decide +kernel
theorem dX6_isAllowed_223 : decode cX6_isAllowed 223 = .ok (.if_icmp .eq 18, 3) := by decide +kernel
theorem dX6_isAllowed_226 : decode cX6_isAllowed 226 = .ok (.iload 5, 2) := by decide +kernel
theorem dX6_isAllowed_228 : decode cX6_isAllowed 228 = .ok (.ifCond .lt 13, 3) := by decide +kernel
theorem dX6_isAllowed_231 : decode cX6_isAllowed 231 = .ok (.iload 5, 2) := by decide +kernel
theorem dX6_isAllowed_233 : decode cX6_isAllowed 233 = .ok (.iconst 4, 1) := by decide +kernel
theorem dX6_isAllowed_234 : decode cX6_isAllowed 234 = .ok (.if_icmp .ge 7, 3) := by decide +kernel
theorem dX6_isAllowed_237 : decode cX6_isAllowed 237 = .ok (.iconst 1, 1) := by decide +kernel
theorem dX6_isAllowed_238 : decode cX6_isAllowed 238 = .ok (.goto 4, 3) := by decide +kernel
theorem dX6_isAllowed_241 : decode cX6_isAllowed 241 = .ok (.iconst 0, 1) := by decide +kernel
theorem dX6_isAllowed_242 : decode cX6_isAllowed 242 = .ok (.ireturn, 1) := by decide +kernel
theorem dX6_isAllowed_243 : decode cX6_isAllowed 243 = .ok (.aload_n 0, 1) := by decide +kernel
theorem dX6_isAllowed_244 : decode cX6_isAllowed 244 = .ok (.iload_n 1, 1) := by decide +kernel
theorem dX6_isAllowed_245 : decode cX6_isAllowed 245 = .ok (.iload_n 3, 1) := by decide +kernel
theorem dX6_isAllowed_246 : decode cX6_isAllowed 246 = .ok (.invokevirtual 57, 3) := by decide +kernel
theorem dX6_isAllowed_249 : decode cX6_isAllowed 249 = .ok (.ifCond .eq 39, 3) := by decide +kernel
theorem dX6_isAllowed_252 : decode cX6_isAllowed 252 = .ok (.iload 4, 2) := by decide +kernel
theorem dX6_isAllowed_254 : decode cX6_isAllowed 254 = .ok (.ifCond .lt 34, 3) := by decide +kernel
theorem dX6_isAllowed_257 : decode cX6_isAllowed 257 = .ok (.iload 4, 2) := by decide +kernel
theorem dX6_isAllowed_259 : decode cX6_isAllowed 259 = .ok (.bipush 8, 2) := by decide +kernel
theorem dX6_isAllowed_261 : decode cX6_isAllowed 261 = .ok (.if_icmp .ge 27, 3) := by decide +kernel
theorem dX6_isAllowed_264 : decode cX6_isAllowed 264 = .ok (.aload_n 0, 1) := by decide +kernel
theorem dX6_isAllowed_265 : decode cX6_isAllowed 265 = .ok (.getfield 32, 3) := by decide +kernel
theorem dX6_isAllowed_268 : decode cX6_isAllowed 268 = .ok (.bipush 80, 2) := by decide +kernel
theorem dX6_isAllowed_270 : decode cX6_isAllowed 270 = .ok (.iload_n 1, 1) := by decide +kernel
theorem dX6_isAllowed_271 : decode cX6_isAllowed 271 = .ok (.imul, 1) := by decide +kernel
theorem dX6_isAllowed_272 : decode cX6_isAllowed 272 = .ok (.bipush 8, 2) := by decide +kernel
theorem dX6_isAllowed_274 : decode cX6_isAllowed 274 = .ok (.iload_n 3, 1) := by decide +kernel
theorem dX6_isAllowed_275 : decode cX6_isAllowed 275 = .ok (.imul, 1) := by decide +kernel
theorem dX6_isAllowed_276 : decode cX6_isAllowed 276 = .ok (.iadd, 1) := by decide +kernel
theorem dX6_isAllowed_277 : decode cX6_isAllowed 277 = .ok (.iload 4, 2) := by decide +kernel
theorem dX6_isAllowed_279 : decode cX6_isAllowed 279 = .ok (.iadd, 1) := by decide +kernel
theorem dX6_isAllowed_280 : decode cX6_isAllowed 280 = .ok (.baload, 1) := by decide +kernel
theorem dX6_isAllowed_281 : decode cX6_isAllowed 281 = .ok (.ifCond .ne 7, 3) := by decide +kernel
theorem dX6_isAllowed_284 : decode cX6_isAllowed 284 = .ok (.iconst 1, 1) := by decide +kernel
theorem dX6_isAllowed_285 : decode cX6_isAllowed 285 = .ok (.goto 4, 3) := by decide +kernel
theorem dX6_isAllowed_288 : decode cX6_isAllowed 288 = .ok (.iconst 0, 1) := by decide +kernel
theorem dX6_isAllowed_289 : decode cX6_isAllowed 289 = .ok (.ireturn, 1) := by decide +kernel
theorem dX6_isAllowed_290 : decode cX6_isAllowed 290 = .ok (.aload_n 0, 1) := by decide +kernel
theorem dX6_isAllowed_291 : decode cX6_isAllowed 291 = .ok (.iload_n 1, 1) := by decide +kernel
theorem dX6_isAllowed_292 : decode cX6_isAllowed 292 = .ok (.iload_n 3, 1) := by decide +kernel
theorem dX6_isAllowed_293 : decode cX6_isAllowed 293 = .ok (.invokevirtual 57, 3) := by decide +kernel
theorem dX6_isAllowed_296 : decode cX6_isAllowed 296 = .ok (.ifCond .eq 34, 3) := by decide +kernel
theorem dX6_isAllowed_299 : decode cX6_isAllowed 299 = .ok (.iload 4, 2) := by decide +kernel
theorem dX6_isAllowed_301 : decode cX6_isAllowed 301 = .ok (.ifCond .lt 29, 3) := by decide +kernel
theorem dX6_isAllowed_304 : decode cX6_isAllowed 304 = .ok (.iload 4, 2) := by decide +kernel
theorem dX6_isAllowed_306 : decode cX6_isAllowed 306 = .ok (.iconst 4, 1) := by decide +kernel
theorem dX6_isAllowed_307 : decode cX6_isAllowed 307 = .ok (.if_icmp .ge 23, 3) := by decide +kernel
theorem dX6_isAllowed_310 : decode cX6_isAllowed 310 = .ok (.aload_n 0, 1) := by decide +kernel
theorem dX6_isAllowed_311 : decode cX6_isAllowed 311 = .ok (.getfield 35, 3) := by decide +kernel
theorem dX6_isAllowed_314 : decode cX6_isAllowed 314 = .ok (.bipush 10, 2) := by decide +kernel
theorem dX6_isAllowed_316 : decode cX6_isAllowed 316 = .ok (.iload_n 1, 1) := by decide +kernel
theorem dX6_isAllowed_317 : decode cX6_isAllowed 317 = .ok (.imul, 1) := by decide +kernel
theorem dX6_isAllowed_318 : decode cX6_isAllowed 318 = .ok (.iload_n 3, 1) := by decide +kernel
theorem dX6_isAllowed_319 : decode cX6_isAllowed 319 = .ok (.iadd, 1) := by decide +kernel
theorem dX6_isAllowed_320 : decode cX6_isAllowed 320 = .ok (.iaload, 1) := by decide +kernel
theorem dX6_isAllowed_321 : decode cX6_isAllowed 321 = .ok (.iload 4, 2) := by decide +kernel
theorem dX6_isAllowed_323 : decode cX6_isAllowed 323 = .ok (.if_icmp .eq 7, 3) := by decide +kernel
theorem dX6_isAllowed_326 : decode cX6_isAllowed 326 = .ok (.iconst 1, 1) := by decide +kernel
theorem dX6_isAllowed_327 : decode cX6_isAllowed 327 = .ok (.goto 4, 3) := by decide +kernel
theorem dX6_isAllowed_330 : decode cX6_isAllowed 330 = .ok (.iconst 0, 1) := by decide +kernel
theorem dX6_isAllowed_331 : decode cX6_isAllowed 331 = .ok (.ireturn, 1) := by decide +kernel
theorem dX6_isAllowed_332 : decode cX6_isAllowed 332 = .ok (.aload_n 0, 1) := by decide +kernel
theorem dX6_isAllowed_333 : decode cX6_isAllowed 333 = .ok (.iload_n 1, 1) := by decide +kernel
theorem dX6_isAllowed_334 : decode cX6_isAllowed 334 = .ok (.iload_n 3, 1) := by decide +kernel
theorem dX6_isAllowed_335 : decode cX6_isAllowed 335 = .ok (.invokevirtual 57, 3) := by decide +kernel
theorem dX6_isAllowed_338 : decode cX6_isAllowed 338 = .ok (.ifCond .eq 18, 3) := by decide +kernel
theorem dX6_isAllowed_341 : decode cX6_isAllowed 341 = .ok (.iload 4, 2) := by decide +kernel
theorem dX6_isAllowed_343 : decode cX6_isAllowed 343 = .ok (.ifCond .lt 13, 3) := by decide +kernel
theorem dX6_isAllowed_346 : decode cX6_isAllowed 346 = .ok (.iload 4, 2) := by decide +kernel
theorem dX6_isAllowed_348 : decode cX6_isAllowed 348 = .ok (.iconst 4, 1) := by decide +kernel
theorem dX6_isAllowed_349 : decode cX6_isAllowed 349 = .ok (.if_icmp .ge 7, 3) := by decide +kernel
theorem dX6_isAllowed_352 : decode cX6_isAllowed 352 = .ok (.iconst 1, 1) := by decide +kernel
theorem dX6_isAllowed_353 : decode cX6_isAllowed 353 = .ok (.goto 4, 3) := by decide +kernel
theorem dX6_isAllowed_356 : decode cX6_isAllowed 356 = .ok (.iconst 0, 1) := by decide +kernel
theorem dX6_isAllowed_357 : decode cX6_isAllowed 357 = .ok (.ireturn, 1) := by decide +kernel
set_option maxRecDepth 20000 in
theorem ggX6_make_X6_wayAt : GoodIn wsX6_make wsX6_wayAt := goodIn_r _ [14] (by decide +kernel) (by decide +kernel)
set_option maxRecDepth 20000 in
theorem gX6_make_X6_wayAt : GoodIn wsX6_make (va_wsS RX6 61 yX6_wayAt wsX6_wayAt) := goodIn_app (goodIn_of _ (by decide +kernel)) ggX6_make_X6_wayAt
theorem dX6_make_0 : decode cX6_make 0 = .ok (.iload_n 2, 1) := by decide +kernel
theorem dX6_make_1 : decode cX6_make 1 = .ok (.tableswitch 239 0 5 #[39, 87, 108, 126, 202, 223], 39) := by decide +kernel
theorem dX6_make_40 : decode cX6_make 40 = .ok (.aload_n 0, 1) := by decide +kernel
theorem dX6_make_41 : decode cX6_make 41 = .ok (.getfield 13, 3) := by decide +kernel
theorem dX6_make_44 : decode cX6_make 44 = .ok (.bipush 10, 2) := by decide +kernel
theorem dX6_make_46 : decode cX6_make 46 = .ok (.iload_n 1, 1) := by decide +kernel
theorem dX6_make_47 : decode cX6_make 47 = .ok (.imul, 1) := by decide +kernel
theorem dX6_make_48 : decode cX6_make 48 = .ok (.aload_n 0, 1) := by decide +kernel
theorem dX6_make_49 : decode cX6_make 49 = .ok (.getfield 7, 3) := by decide +kernel
theorem dX6_make_52 : decode cX6_make 52 = .ok (.iload_n 1, 1) := by decide +kernel
theorem dX6_make_53 : decode cX6_make 53 = .ok (.iaload, 1) := by decide +kernel
theorem dX6_make_54 : decode cX6_make 54 = .ok (.iadd, 1) := by decide +kernel
theorem dX6_make_55 : decode cX6_make 55 = .ok (.iload_n 3, 1) := by decide +kernel
theorem dX6_make_56 : decode cX6_make 56 = .ok (.iastore, 1) := by decide +kernel
theorem dX6_make_57 : decode cX6_make 57 = .ok (.aload_n 0, 1) := by decide +kernel
theorem dX6_make_58 : decode cX6_make 58 = .ok (.getfield 16, 3) := by decide +kernel
theorem dX6_make_61 : decode cX6_make 61 = .ok (.bipush 10, 2) := by decide +kernel
theorem dX6_make_63 : decode cX6_make 63 = .ok (.iload_n 1, 1) := by decide +kernel
theorem dX6_make_64 : decode cX6_make 64 = .ok (.imul, 1) := by decide +kernel
theorem dX6_make_65 : decode cX6_make 65 = .ok (.aload_n 0, 1) := by decide +kernel
theorem dX6_make_66 : decode cX6_make 66 = .ok (.getfield 7, 3) := by decide +kernel
theorem dX6_make_69 : decode cX6_make 69 = .ok (.iload_n 1, 1) := by decide +kernel
theorem dX6_make_70 : decode cX6_make 70 = .ok (.iaload, 1) := by decide +kernel
theorem dX6_make_71 : decode cX6_make 71 = .ok (.iadd, 1) := by decide +kernel
theorem dX6_make_72 : decode cX6_make 72 = .ok (.iload 4, 2) := by decide +kernel
theorem dX6_make_74 : decode cX6_make 74 = .ok (.iastore, 1) := by decide +kernel
theorem dX6_make_75 : decode cX6_make 75 = .ok (.aload_n 0, 1) := by decide +kernel
theorem dX6_make_76 : decode cX6_make 76 = .ok (.getfield 7, 3) := by decide +kernel
theorem dX6_make_79 : decode cX6_make 79 = .ok (.iload_n 1, 1) := by decide +kernel
theorem dX6_make_80 : decode cX6_make 80 = .ok (.dup2, 1) := by decide +kernel
theorem dX6_make_81 : decode cX6_make 81 = .ok (.iaload, 1) := by decide +kernel
theorem dX6_make_82 : decode cX6_make 82 = .ok (.iconst 1, 1) := by decide +kernel
theorem dX6_make_83 : decode cX6_make 83 = .ok (.iadd, 1) := by decide +kernel
theorem dX6_make_84 : decode cX6_make 84 = .ok (.iastore, 1) := by decide +kernel
theorem dX6_make_85 : decode cX6_make 85 = .ok (.goto 168, 3) := by decide +kernel
theorem dX6_make_88 : decode cX6_make 88 = .ok (.aload_n 0, 1) := by decide +kernel
theorem dX6_make_89 : decode cX6_make 89 = .ok (.getfield 19, 3) := by decide +kernel
theorem dX6_make_92 : decode cX6_make 92 = .ok (.bipush 100, 2) := by decide +kernel
theorem dX6_make_94 : decode cX6_make 94 = .ok (.iload_n 1, 1) := by decide +kernel
theorem dX6_make_95 : decode cX6_make 95 = .ok (.imul, 1) := by decide +kernel
theorem dX6_make_96 : decode cX6_make 96 = .ok (.bipush 10, 2) := by decide +kernel
theorem dX6_make_98 : decode cX6_make 98 = .ok (.iload_n 3, 1) := by decide +kernel
theorem dX6_make_99 : decode cX6_make 99 = .ok (.imul, 1) := by decide +kernel
theorem dX6_make_100 : decode cX6_make 100 = .ok (.iadd, 1) := by decide +kernel
theorem dX6_make_101 : decode cX6_make 101 = .ok (.iload 4, 2) := by decide +kernel
theorem dX6_make_103 : decode cX6_make 103 = .ok (.iadd, 1) := by decide +kernel
theorem dX6_make_104 : decode cX6_make 104 = .ok (.iconst 1, 1) := by decide +kernel
theorem dX6_make_105 : decode cX6_make 105 = .ok (.bastore, 1) := by decide +kernel
theorem dX6_make_106 : decode cX6_make 106 = .ok (.goto 147, 3) := by decide +kernel
theorem dX6_make_109 : decode cX6_make 109 = .ok (.aload_n 0, 1) := by decide +kernel
theorem dX6_make_110 : decode cX6_make 110 = .ok (.getfield 23, 3) := by decide +kernel
theorem dX6_make_113 : decode cX6_make 113 = .ok (.iload_n 1, 1) := by decide +kernel
theorem dX6_make_114 : decode cX6_make 114 = .ok (.iload_n 3, 1) := by decide +kernel
theorem dX6_make_115 : decode cX6_make 115 = .ok (.iload 4, 2) := by decide +kernel
theorem dX6_make_117 : decode cX6_make 117 = .ok (.iload 5, 2) := by decide +kernel
theorem dX6_make_119 : decode cX6_make 119 = .ok (.invokestatic 61, 3) := by decide +kernel
theorem dX6_make_122 : decode cX6_make 122 = .ok (.iconst 1, 1) := by decide +kernel
theorem dX6_make_123 : decode cX6_make 123 = .ok (.bastore, 1) := by decide +kernel
theorem dX6_make_124 : decode cX6_make 124 = .ok (.goto 129, 3) := by decide +kernel
theorem dX6_make_127 : decode cX6_make 127 = .ok (.aload_n 0, 1) := by decide +kernel
theorem dX6_make_128 : decode cX6_make 128 = .ok (.getfield 29, 3) := by decide +kernel
theorem dX6_make_131 : decode cX6_make 131 = .ok (.bipush 60, 2) := by decide +kernel
theorem dX6_make_133 : decode cX6_make 133 = .ok (.iload_n 1, 1) := by decide +kernel
theorem dX6_make_134 : decode cX6_make 134 = .ok (.imul, 1) := by decide +kernel
theorem dX6_make_135 : decode cX6_make 135 = .ok (.iconst 3, 1) := by decide +kernel
theorem dX6_make_136 : decode cX6_make 136 = .ok (.aload_n 0, 1) := by decide +kernel
theorem dX6_make_137 : decode cX6_make 137 = .ok (.getfield 26, 3) := by decide +kernel
theorem dX6_make_140 : decode cX6_make 140 = .ok (.iload_n 1, 1) := by decide +kernel
theorem dX6_make_141 : decode cX6_make 141 = .ok (.iaload, 1) := by decide +kernel
theorem dX6_make_142 : decode cX6_make 142 = .ok (.imul, 1) := by decide +kernel
theorem dX6_make_143 : decode cX6_make 143 = .ok (.iadd, 1) := by decide +kernel
theorem dX6_make_144 : decode cX6_make 144 = .ok (.iload_n 3, 1) := by decide +kernel
theorem dX6_make_145 : decode cX6_make 145 = .ok (.iastore, 1) := by decide +kernel
theorem dX6_make_146 : decode cX6_make 146 = .ok (.aload_n 0, 1) := by decide +kernel
theorem dX6_make_147 : decode cX6_make 147 = .ok (.getfield 29, 3) := by decide +kernel
theorem dX6_make_150 : decode cX6_make 150 = .ok (.bipush 60, 2) := by decide +kernel
theorem dX6_make_152 : decode cX6_make 152 = .ok (.iload_n 1, 1) := by decide +kernel
theorem dX6_make_153 : decode cX6_make 153 = .ok (.imul, 1) := by decide +kernel
theorem dX6_make_154 : decode cX6_make 154 = .ok (.iconst 3, 1) := by decide +kernel
theorem dX6_make_155 : decode cX6_make 155 = .ok (.aload_n 0, 1) := by decide +kernel
theorem dX6_make_156 : decode cX6_make 156 = .ok (.getfield 26, 3) := by decide +kernel
theorem dX6_make_159 : decode cX6_make 159 = .ok (.iload_n 1, 1) := by decide +kernel
theorem dX6_make_160 : decode cX6_make 160 = .ok (.iaload, 1) := by decide +kernel
theorem dX6_make_161 : decode cX6_make 161 = .ok (.imul, 1) := by decide +kernel
theorem dX6_make_162 : decode cX6_make 162 = .ok (.iadd, 1) := by decide +kernel
theorem dX6_make_163 : decode cX6_make 163 = .ok (.iconst 1, 1) := by decide +kernel
theorem dX6_make_164 : decode cX6_make 164 = .ok (.iadd, 1) := by decide +kernel
theorem dX6_make_165 : decode cX6_make 165 = .ok (.iload 4, 2) := by decide +kernel
theorem dX6_make_167 : decode cX6_make 167 = .ok (.iastore, 1) := by decide +kernel
theorem dX6_make_168 : decode cX6_make 168 = .ok (.aload_n 0, 1) := by decide +kernel
theorem dX6_make_169 : decode cX6_make 169 = .ok (.getfield 29, 3) := by decide +kernel
theorem dX6_make_172 : decode cX6_make 172 = .ok (.bipush 60, 2) := by decide +kernel
theorem dX6_make_174 : decode cX6_make 174 = .ok (.iload_n 1, 1) := by decide +kernel
theorem dX6_make_175 : decode cX6_make 175 = .ok (.imul, 1) := by decide +kernel
theorem dX6_make_176 : decode cX6_make 176 = .ok (.iconst 3, 1) := by decide +kernel
theorem dX6_make_177 : decode cX6_make 177 = .ok (.aload_n 0, 1) := by decide +kernel
theorem dX6_make_178 : decode cX6_make 178 = .ok (.getfield 26, 3) := by decide +kernel
theorem dX6_make_181 : decode cX6_make 181 = .ok (.iload_n 1, 1) := by decide +kernel
theorem dX6_make_182 : decode cX6_make 182 = .ok (.iaload, 1) := by decide +kernel
theorem dX6_make_183 : decode cX6_make 183 = .ok (.imul, 1) := by decide +kernel
theorem dX6_make_184 : decode cX6_make 184 = .ok (.iadd, 1) := by decide +kernel
theorem dX6_make_185 : decode cX6_make 185 = .ok (.iconst 2, 1) := by decide +kernel
theorem dX6_make_186 : decode cX6_make 186 = .ok (.iadd, 1) := by decide +kernel
theorem dX6_make_187 : decode cX6_make 187 = .ok (.iload 5, 2) := by decide +kernel
theorem dX6_make_189 : decode cX6_make 189 = .ok (.iastore, 1) := by decide +kernel
theorem dX6_make_190 : decode cX6_make 190 = .ok (.aload_n 0, 1) := by decide +kernel
theorem dX6_make_191 : decode cX6_make 191 = .ok (.getfield 26, 3) := by decide +kernel
theorem dX6_make_194 : decode cX6_make 194 = .ok (.iload_n 1, 1) := by decide +kernel
theorem dX6_make_195 : decode cX6_make 195 = .ok (.dup2, 1) := by decide +kernel
theorem dX6_make_196 : decode cX6_make 196 = .ok (.iaload, 1) := by decide +kernel
theorem dX6_make_197 : decode cX6_make 197 = .ok (.iconst 1, 1) := by decide +kernel
theorem dX6_make_198 : decode cX6_make 198 = .ok (.iadd, 1) := by decide +kernel
theorem dX6_make_199 : decode cX6_make 199 = .ok (.iastore, 1) := by decide +kernel
theorem dX6_make_200 : decode cX6_make 200 = .ok (.goto 53, 3) := by decide +kernel
theorem dX6_make_203 : decode cX6_make 203 = .ok (.aload_n 0, 1) := by decide +kernel
theorem dX6_make_204 : decode cX6_make 204 = .ok (.getfield 32, 3) := by decide +kernel
theorem dX6_make_207 : decode cX6_make 207 = .ok (.bipush 80, 2) := by decide +kernel
theorem dX6_make_209 : decode cX6_make 209 = .ok (.iload_n 1, 1) := by decide +kernel
theorem dX6_make_210 : decode cX6_make 210 = .ok (.imul, 1) := by decide +kernel
theorem dX6_make_211 : decode cX6_make 211 = .ok (.bipush 8, 2) := by decide +kernel
theorem dX6_make_213 : decode cX6_make 213 = .ok (.iload_n 3, 1) := by decide +kernel
theorem dX6_make_214 : decode cX6_make 214 = .ok (.imul, 1) := by decide +kernel
theorem dX6_make_215 : decode cX6_make 215 = .ok (.iadd, 1) := by decide +kernel
theorem dX6_make_216 : decode cX6_make 216 = .ok (.iload 4, 2) := by decide +kernel
theorem dX6_make_218 : decode cX6_make 218 = .ok (.iadd, 1) := by decide +kernel
theorem dX6_make_219 : decode cX6_make 219 = .ok (.iconst 1, 1) := by decide +kernel
theorem dX6_make_220 : decode cX6_make 220 = .ok (.bastore, 1) := by decide +kernel
theorem dX6_make_221 : decode cX6_make 221 = .ok (.goto 32, 3) := by decide +kernel
theorem dX6_make_224 : decode cX6_make 224 = .ok (.aload_n 0, 1) := by decide +kernel
theorem dX6_make_225 : decode cX6_make 225 = .ok (.getfield 35, 3) := by decide +kernel
theorem dX6_make_228 : decode cX6_make 228 = .ok (.bipush 10, 2) := by decide +kernel
theorem dX6_make_230 : decode cX6_make 230 = .ok (.iload_n 1, 1) := by decide +kernel
theorem dX6_make_231 : decode cX6_make 231 = .ok (.imul, 1) := by decide +kernel
theorem dX6_make_232 : decode cX6_make 232 = .ok (.iload_n 3, 1) := by decide +kernel
theorem dX6_make_233 : decode cX6_make 233 = .ok (.iadd, 1) := by decide +kernel
theorem dX6_make_234 : decode cX6_make 234 = .ok (.iload 4, 2) := by decide +kernel
theorem dX6_make_236 : decode cX6_make 236 = .ok (.iastore, 1) := by decide +kernel
theorem dX6_make_237 : decode cX6_make 237 = .ok (.goto 16, 3) := by decide +kernel
theorem dX6_make_240 : decode cX6_make 240 = .ok (.aload_n 0, 1) := by decide +kernel
theorem dX6_make_241 : decode cX6_make 241 = .ok (.getfield 38, 3) := by decide +kernel
theorem dX6_make_244 : decode cX6_make 244 = .ok (.bipush 10, 2) := by decide +kernel
theorem dX6_make_246 : decode cX6_make 246 = .ok (.iload_n 1, 1) := by decide +kernel
theorem dX6_make_247 : decode cX6_make 247 = .ok (.imul, 1) := by decide +kernel
theorem dX6_make_248 : decode cX6_make 248 = .ok (.iload_n 3, 1) := by decide +kernel
theorem dX6_make_249 : decode cX6_make 249 = .ok (.iadd, 1) := by decide +kernel
theorem dX6_make_250 : decode cX6_make 250 = .ok (.iload 4, 2) := by decide +kernel
theorem dX6_make_252 : decode cX6_make 252 = .ok (.iastore, 1) := by decide +kernel
theorem dX6_make_253 : decode cX6_make 253 = .ok (.return_, 1) := by decide +kernel
theorem dX6_numbersOf_0 : decode cX6_numbersOf 0 = .ok (.iload_n 0, 1) := by decide +kernel
theorem dX6_numbersOf_1 : decode cX6_numbersOf 1 = .ok (.iconst 2, 1) := by decide +kernel
theorem dX6_numbersOf_2 : decode cX6_numbersOf 2 = .ok (.if_icmp .eq 8, 3) := by decide +kernel
theorem dX6_numbersOf_5 : decode cX6_numbersOf 5 = .ok (.iload_n 0, 1) := by decide +kernel
theorem dX6_numbersOf_6 : decode cX6_numbersOf 6 = .ok (.iconst 3, 1) := by decide +kernel
theorem dX6_numbersOf_7 : decode cX6_numbersOf 7 = .ok (.if_icmp .ne 7, 3) := by decide +kernel
theorem dX6_numbersOf_10 : decode cX6_numbersOf 10 = .ok (.iconst 3, 1) := by decide +kernel
theorem dX6_numbersOf_11 : decode cX6_numbersOf 11 = .ok (.goto 4, 3) := by decide +kernel
theorem dX6_numbersOf_14 : decode cX6_numbersOf 14 = .ok (.iconst 2, 1) := by decide +kernel
theorem dX6_numbersOf_15 : decode cX6_numbersOf 15 = .ok (.ireturn, 1) := by decide +kernel
set_option maxRecDepth 20000 in
theorem ggX6_canBe_X6_isAllowed : GoodIn wsX6_canBe wsX6_isAllowed := goodIn_r _ [5, 6, 7, 8, 9, 10, 11, 12, 13, 14, 15, 4, 16, 17, 18, 19, 20, 21, 22, 23, 24, 25, 26, 27, 28, 29, 30, 31, 32, 33, 34, 35, 36, 37] (by decide +kernel) (by decide +kernel)
set_option maxRecDepth 20000 in
theorem gX6_canBe_X6_isAllowed : GoodIn wsX6_canBe (wsV RX6 65 RX6 yX6_isAllowed wsX6_isAllowed) := goodIn_app (goodIn_of _ (by decide +kernel)) ggX6_canBe_X6_isAllowed
theorem dX6_canBe_0 : decode cX6_canBe 0 = .ok (.iconst 0, 1) := by decide +kernel
theorem dX6_canBe_1 : decode cX6_canBe 1 = .ok (.istore 7, 2) := by decide +kernel
theorem dX6_canBe_3 : decode cX6_canBe 3 = .ok (.iload 7, 2) := by decide +kernel
theorem dX6_canBe_5 : decode cX6_canBe 5 = .ok (.bipush 10, 2) := by decide +kernel
theorem dX6_canBe_7 : decode cX6_canBe 7 = .ok (.if_icmp .ge 87, 3) := by decide +kernel
theorem dX6_canBe_10 : decode cX6_canBe 10 = .ok (.iconst 0, 1) := by decide +kernel
theorem dX6_canBe_11 : decode cX6_canBe 11 = .ok (.istore 8, 2) := by decide +kernel
theorem dX6_canBe_13 : decode cX6_canBe 13 = .ok (.iload 8, 2) := by decide +kernel
theorem dX6_canBe_15 : decode cX6_canBe 15 = .ok (.bipush 10, 2) := by decide +kernel
theorem dX6_canBe_17 : decode cX6_canBe 17 = .ok (.if_icmp .ge 71, 3) := by decide +kernel
theorem dX6_canBe_20 : decode cX6_canBe 20 = .ok (.iconst 0, 1) := by decide +kernel
theorem dX6_canBe_21 : decode cX6_canBe 21 = .ok (.istore 9, 2) := by decide +kernel
theorem dX6_canBe_23 : decode cX6_canBe 23 = .ok (.iload 9, 2) := by decide +kernel
theorem dX6_canBe_25 : decode cX6_canBe 25 = .ok (.bipush 10, 2) := by decide +kernel
theorem dX6_canBe_27 : decode cX6_canBe 27 = .ok (.if_icmp .ge 55, 3) := by decide +kernel
theorem dX6_canBe_30 : decode cX6_canBe 30 = .ok (.aload_n 0, 1) := by decide +kernel
theorem dX6_canBe_31 : decode cX6_canBe 31 = .ok (.iload_n 1, 1) := by decide +kernel
theorem dX6_canBe_32 : decode cX6_canBe 32 = .ok (.iload_n 2, 1) := by decide +kernel
theorem dX6_canBe_33 : decode cX6_canBe 33 = .ok (.iload_n 3, 1) := by decide +kernel
theorem dX6_canBe_34 : decode cX6_canBe 34 = .ok (.ifCond .le 8, 3) := by decide +kernel
theorem dX6_canBe_37 : decode cX6_canBe 37 = .ok (.iload 4, 2) := by decide +kernel
theorem dX6_canBe_39 : decode cX6_canBe 39 = .ok (.goto 5, 3) := by decide +kernel
theorem dX6_canBe_42 : decode cX6_canBe 42 = .ok (.iload 7, 2) := by decide +kernel
theorem dX6_canBe_44 : decode cX6_canBe 44 = .ok (.iload_n 3, 1) := by decide +kernel
theorem dX6_canBe_45 : decode cX6_canBe 45 = .ok (.iconst 1, 1) := by decide +kernel
theorem dX6_canBe_46 : decode cX6_canBe 46 = .ok (.if_icmp .le 8, 3) := by decide +kernel
theorem dX6_canBe_49 : decode cX6_canBe 49 = .ok (.iload 5, 2) := by decide +kernel
theorem dX6_canBe_51 : decode cX6_canBe 51 = .ok (.goto 5, 3) := by decide +kernel
theorem dX6_canBe_54 : decode cX6_canBe 54 = .ok (.iload 8, 2) := by decide +kernel
theorem dX6_canBe_56 : decode cX6_canBe 56 = .ok (.iload_n 3, 1) := by decide +kernel
theorem dX6_canBe_57 : decode cX6_canBe 57 = .ok (.iconst 2, 1) := by decide +kernel
theorem dX6_canBe_58 : decode cX6_canBe 58 = .ok (.if_icmp .le 8, 3) := by decide +kernel
theorem dX6_canBe_61 : decode cX6_canBe 61 = .ok (.iload 6, 2) := by decide +kernel
theorem dX6_canBe_63 : decode cX6_canBe 63 = .ok (.goto 5, 3) := by decide +kernel
theorem dX6_canBe_66 : decode cX6_canBe 66 = .ok (.iload 9, 2) := by decide +kernel
theorem dX6_canBe_68 : decode cX6_canBe 68 = .ok (.invokevirtual 65, 3) := by decide +kernel
theorem dX6_canBe_71 : decode cX6_canBe 71 = .ok (.ifCond .eq 5, 3) := by decide +kernel
theorem dX6_canBe_74 : decode cX6_canBe 74 = .ok (.iconst 1, 1) := by decide +kernel
theorem dX6_canBe_75 : decode cX6_canBe 75 = .ok (.ireturn, 1) := by decide +kernel
theorem dX6_canBe_76 : decode cX6_canBe 76 = .ok (.iinc 9 1, 3) := by decide +kernel
theorem dX6_canBe_79 : decode cX6_canBe 79 = .ok (.goto (-56), 3) := by decide +kernel
theorem dX6_canBe_82 : decode cX6_canBe 82 = .ok (.iinc 8 1, 3) := by decide +kernel
theorem dX6_canBe_85 : decode cX6_canBe 85 = .ok (.goto (-72), 3) := by decide +kernel
theorem dX6_canBe_88 : decode cX6_canBe 88 = .ok (.iinc 7 1, 3) := by decide +kernel
theorem dX6_canBe_91 : decode cX6_canBe 91 = .ok (.goto (-88), 3) := by decide +kernel
theorem dX6_canBe_94 : decode cX6_canBe 94 = .ok (.iconst 0, 1) := by decide +kernel
theorem dX6_canBe_95 : decode cX6_canBe 95 = .ok (.ireturn, 1) := by decide +kernel
theorem dX6_unit_0 : decode cX6_unit 0 = .ok (.aload_n 0, 1) := by decide +kernel
theorem dX6_unit_1 : decode cX6_unit 1 = .ok (.iconst 0, 1) := by decide +kernel
theorem dX6_unit_2 : decode cX6_unit 2 = .ok (.putfield 52, 3) := by decide +kernel
theorem dX6_unit_5 : decode cX6_unit 5 = .ok (.iload_n 1, 1) := by decide +kernel
theorem dX6_unit_6 : decode cX6_unit 6 = .ok (.ifCond .lt 20, 3) := by decide +kernel
theorem dX6_unit_9 : decode cX6_unit 9 = .ok (.iload_n 1, 1) := by decide +kernel
theorem dX6_unit_10 : decode cX6_unit 10 = .ok (.sipush 255, 3) := by decide +kernel
theorem dX6_unit_13 : decode cX6_unit 13 = .ok (.if_icmp .gt 13, 3) := by decide +kernel
theorem dX6_unit_16 : decode cX6_unit 16 = .ok (.aload_n 0, 1) := by decide +kernel
theorem dX6_unit_17 : decode cX6_unit 17 = .ok (.getfield 69, 3) := by decide +kernel
theorem dX6_unit_20 : decode cX6_unit 20 = .ok (.sipush 2000, 3) := by decide +kernel
theorem dX6_unit_23 : decode cX6_unit 23 = .ok (.if_icmp .ne 5, 3) := by decide +kernel
theorem dX6_unit_26 : decode cX6_unit 26 = .ok (.iconst 0, 1) := by decide +kernel
theorem dX6_unit_27 : decode cX6_unit 27 = .ok (.ireturn, 1) := by decide +kernel
theorem dX6_unit_28 : decode cX6_unit 28 = .ok (.aload_n 0, 1) := by decide +kernel
theorem dX6_unit_29 : decode cX6_unit 29 = .ok (.getfield 41, 3) := by decide +kernel
theorem dX6_unit_32 : decode cX6_unit 32 = .ok (.aload_n 0, 1) := by decide +kernel
theorem dX6_unit_33 : decode cX6_unit 33 = .ok (.getfield 69, 3) := by decide +kernel
theorem dX6_unit_36 : decode cX6_unit 36 = .ok (.iload_n 1, 1) := by decide +kernel
theorem dX6_unit_37 : decode cX6_unit 37 = .ok (.i2b, 1) := by decide +kernel
theorem dX6_unit_38 : decode cX6_unit 38 = .ok (.bastore, 1) := by decide +kernel
theorem dX6_unit_39 : decode cX6_unit 39 = .ok (.aload_n 0, 1) := by decide +kernel
theorem dX6_unit_40 : decode cX6_unit 40 = .ok (.dup, 1) := by decide +kernel
theorem dX6_unit_41 : decode cX6_unit 41 = .ok (.getfield 69, 3) := by decide +kernel
theorem dX6_unit_44 : decode cX6_unit 44 = .ok (.iconst 1, 1) := by decide +kernel
theorem dX6_unit_45 : decode cX6_unit 45 = .ok (.iadd, 1) := by decide +kernel
theorem dX6_unit_46 : decode cX6_unit 46 = .ok (.putfield 69, 3) := by decide +kernel
theorem dX6_unit_49 : decode cX6_unit 49 = .ok (.iconst 1, 1) := by decide +kernel
theorem dX6_unit_50 : decode cX6_unit 50 = .ok (.ireturn, 1) := by decide +kernel
theorem dX6_isGap_0 : decode cX6_isGap 0 = .ok (.aload_n 0, 1) := by decide +kernel
theorem dX6_isGap_1 : decode cX6_isGap 1 = .ok (.getfield 41, 3) := by decide +kernel
theorem dX6_isGap_4 : decode cX6_isGap 4 = .ok (.iload_n 1, 1) := by decide +kernel
theorem dX6_isGap_5 : decode cX6_isGap 5 = .ok (.baload, 1) := by decide +kernel
theorem dX6_isGap_6 : decode cX6_isGap 6 = .ok (.bipush 32, 2) := by decide +kernel
theorem dX6_isGap_8 : decode cX6_isGap 8 = .ok (.if_icmp .eq 14, 3) := by decide +kernel
theorem dX6_isGap_11 : decode cX6_isGap 11 = .ok (.aload_n 0, 1) := by decide +kernel
theorem dX6_isGap_12 : decode cX6_isGap 12 = .ok (.getfield 41, 3) := by decide +kernel
theorem dX6_isGap_15 : decode cX6_isGap 15 = .ok (.iload_n 1, 1) := by decide +kernel
theorem dX6_isGap_16 : decode cX6_isGap 16 = .ok (.baload, 1) := by decide +kernel
theorem dX6_isGap_17 : decode cX6_isGap 17 = .ok (.bipush 10, 2) := by decide +kernel
theorem dX6_isGap_19 : decode cX6_isGap 19 = .ok (.if_icmp .ne 7, 3) := by decide +kernel
theorem dX6_isGap_22 : decode cX6_isGap 22 = .ok (.iconst 1, 1) := by decide +kernel
theorem dX6_isGap_23 : decode cX6_isGap 23 = .ok (.goto 4, 3) := by decide +kernel
theorem dX6_isGap_26 : decode cX6_isGap 26 = .ok (.iconst 0, 1) := by decide +kernel
theorem dX6_isGap_27 : decode cX6_isGap 27 = .ok (.ireturn, 1) := by decide +kernel
set_option maxRecDepth 20000 in
theorem ggX6_wordBegin_X6_isGap : GoodIn wsX6_wordBegin wsX6_isGap := goodIn_r _ [6, 7, 8, 9, 10, 11, 12, 13, 14, 15, 16, 17, 18, 19, 20, 21, 22, 23, 24, 25] (by decide +kernel) (by decide +kernel)
set_option maxRecDepth 20000 in
theorem gX6_wordBegin_X6_isGap : GoodIn wsX6_wordBegin (wsV RX6 72 RX6 yX6_isGap wsX6_isGap) := goodIn_app (goodIn_of _ (by decide +kernel)) ggX6_wordBegin_X6_isGap
theorem dX6_wordBegin_0 : decode cX6_wordBegin 0 = .ok (.iload_n 1, 1) := by decide +kernel
theorem dX6_wordBegin_1 : decode cX6_wordBegin 1 = .ok (.istore_n 2, 1) := by decide +kernel
theorem dX6_wordBegin_2 : decode cX6_wordBegin 2 = .ok (.iload_n 2, 1) := by decide +kernel
theorem dX6_wordBegin_3 : decode cX6_wordBegin 3 = .ok (.aload_n 0, 1) := by decide +kernel
theorem dX6_wordBegin_4 : decode cX6_wordBegin 4 = .ok (.getfield 69, 3) := by decide +kernel
theorem dX6_wordBegin_7 : decode cX6_wordBegin 7 = .ok (.if_icmp .ge 17, 3) := by decide +kernel
theorem dX6_wordBegin_10 : decode cX6_wordBegin 10 = .ok (.aload_n 0, 1) := by decide +kernel
theorem dX6_wordBegin_11 : decode cX6_wordBegin 11 = .ok (.iload_n 2, 1) := by decide +kernel
theorem dX6_wordBegin_12 : decode cX6_wordBegin 12 = .ok (.invokevirtual 72, 3) := by decide +kernel
theorem dX6_wordBegin_15 : decode cX6_wordBegin 15 = .ok (.ifCond .eq 9, 3) := by decide +kernel
theorem dX6_wordBegin_18 : decode cX6_wordBegin 18 = .ok (.iinc 2 1, 3) := by decide +kernel
theorem dX6_wordBegin_21 : decode cX6_wordBegin 21 = .ok (.goto (-19), 3) := by decide +kernel
theorem dX6_wordBegin_24 : decode cX6_wordBegin 24 = .ok (.iload_n 2, 1) := by decide +kernel
theorem dX6_wordBegin_25 : decode cX6_wordBegin 25 = .ok (.ireturn, 1) := by decide +kernel
set_option maxRecDepth 20000 in
theorem ggX6_wordEnd_X6_isGap : GoodIn wsX6_wordEnd wsX6_isGap := goodIn_r _ [6, 7, 8, 9, 10, 11, 12, 13, 14, 15, 16, 17, 18, 19, 20, 21, 22, 23, 24, 25] (by decide +kernel) (by decide +kernel)
set_option maxRecDepth 20000 in
theorem gX6_wordEnd_X6_isGap : GoodIn wsX6_wordEnd (wsV RX6 72 RX6 yX6_isGap wsX6_isGap) := goodIn_app (goodIn_of _ (by decide +kernel)) ggX6_wordEnd_X6_isGap
theorem dX6_wordEnd_0 : decode cX6_wordEnd 0 = .ok (.iload_n 1, 1) := by decide +kernel
theorem dX6_wordEnd_1 : decode cX6_wordEnd 1 = .ok (.istore_n 2, 1) := by decide +kernel
theorem dX6_wordEnd_2 : decode cX6_wordEnd 2 = .ok (.iload_n 2, 1) := by decide +kernel
theorem dX6_wordEnd_3 : decode cX6_wordEnd 3 = .ok (.aload_n 0, 1) := by decide +kernel
theorem dX6_wordEnd_4 : decode cX6_wordEnd 4 = .ok (.getfield 69, 3) := by decide +kernel
theorem dX6_wordEnd_7 : decode cX6_wordEnd 7 = .ok (.if_icmp .ge 17, 3) := by decide +kernel
theorem dX6_wordEnd_10 : decode cX6_wordEnd 10 = .ok (.aload_n 0, 1) := by decide +kernel
theorem dX6_wordEnd_11 : decode cX6_wordEnd 11 = .ok (.iload_n 2, 1) := by decide +kernel
theorem dX6_wordEnd_12 : decode cX6_wordEnd 12 = .ok (.invokevirtual 72, 3) := by decide +kernel
theorem dX6_wordEnd_15 : decode cX6_wordEnd 15 = .ok (.ifCond .ne 9, 3) := by decide +kernel
theorem dX6_wordEnd_18 : decode cX6_wordEnd 18 = .ok (.iinc 2 1, 3) := by decide +kernel
theorem dX6_wordEnd_21 : decode cX6_wordEnd 21 = .ok (.goto (-19), 3) := by decide +kernel
theorem dX6_wordEnd_24 : decode cX6_wordEnd 24 = .ok (.iload_n 2, 1) := by decide +kernel
