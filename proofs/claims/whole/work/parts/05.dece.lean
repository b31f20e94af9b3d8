/-! instructions -/
theorem dd_La_law_0 : decode bb_La_law 0 = .ok (.new 8, 3) := by decide +kernel
theorem dd_La_law_3 : decode bb_La_law 3 = .ok (.dup, 1) := by decide +kernel
theorem dd_La_law_4 : decode bb_La_law 4 = .ok (.invokespecial 46, 3) := by decide +kernel
theorem dd_La_law_7 : decode bb_La_law 7 = .ok (.astore_n 1, 1) := by decide +kernel
theorem dd_La_law_8 : decode bb_La_law 8 = .ok (.new 47, 3) := by decide +kernel
theorem dd_La_law_11 : decode bb_La_law 11 = .ok (.dup, 1) := by decide +kernel
theorem dd_La_law_12 : decode bb_La_law 12 = .ok (.invokespecial 49, 3) := by decide +kernel
theorem dd_La_law_15 : decode bb_La_law 15 = .ok (.astore_n 2, 1) := by decide +kernel
theorem dd_La_law_16 : decode bb_La_law 16 = .ok (.iconst 1, 1) := by decide +kernel
theorem dd_La_law_17 : decode bb_La_law 17 = .ok (.newarray .long, 2) := by decide +kernel
theorem dd_La_law_19 : decode bb_La_law 19 = .ok (.astore_n 3, 1) := by decide +kernel
theorem dd_La_law_20 : decode bb_La_law 20 = .ok (.iconst 0, 1) := by decide +kernel
theorem dd_La_law_21 : decode bb_La_law 21 = .ok (.istore 4, 2) := by decide +kernel
theorem dd_La_law_23 : decode bb_La_law 23 = .ok (.iload 4, 2) := by decide +kernel
theorem dd_La_law_25 : decode bb_La_law 25 = .ok (.aload_n 0, 1) := by decide +kernel
theorem dd_La_law_26 : decode bb_La_law 26 = .ok (.arraylength, 1) := by decide +kernel
theorem dd_La_law_27 : decode bb_La_law 27 = .ok (.iconst 4, 1) := by decide +kernel
theorem dd_La_law_28 : decode bb_La_law 28 = .ok (.isub, 1) := by decide +kernel
theorem dd_La_law_29 : decode bb_La_law 29 = .ok (.if_icmp .gt 600, 3) := by decide +kernel
theorem dd_La_law_32 : decode bb_La_law 32 = .ok (.aload_n 0, 1) := by decide +kernel
theorem dd_La_law_33 : decode bb_La_law 33 = .ok (.iload 4, 2) := by decide +kernel
theorem dd_La_law_35 : decode bb_La_law 35 = .ok (.iaload, 1) := by decide +kernel
theorem dd_La_law_36 : decode bb_La_law 36 = .ok (.bipush 15, 2) := by decide +kernel
theorem dd_La_law_38 : decode bb_La_law 38 = .ok (.iand, 1) := by decide +kernel
theorem dd_La_law_39 : decode bb_La_law 39 = .ok (.tableswitch 584 0 9 #[53, 133, 181, 236, 303, 316, 371, 471, 515, 528], 53) := by decide +kernel
theorem dd_La_law_92 : decode bb_La_law 92 = .ok (.aload_n 1, 1) := by decide +kernel
theorem dd_La_law_93 : decode bb_La_law 93 = .ok (.aload_n 0, 1) := by decide +kernel
theorem dd_La_law_94 : decode bb_La_law 94 = .ok (.iload 4, 2) := by decide +kernel
theorem dd_La_law_96 : decode bb_La_law 96 = .ok (.iconst 1, 1) := by decide +kernel
theorem dd_La_law_97 : decode bb_La_law 97 = .ok (.iadd, 1) := by decide +kernel
theorem dd_La_law_98 : decode bb_La_law 98 = .ok (.iaload, 1) := by decide +kernel
theorem dd_La_law_99 : decode bb_La_law 99 = .ok (.aload_n 0, 1) := by decide +kernel
theorem dd_La_law_100 : decode bb_La_law 100 = .ok (.iload 4, 2) := by decide +kernel
theorem dd_La_law_102 : decode bb_La_law 102 = .ok (.iconst 2, 1) := by decide +kernel
theorem dd_La_law_103 : decode bb_La_law 103 = .ok (.iadd, 1) := by decide +kernel
theorem dd_La_law_104 : decode bb_La_law 104 = .ok (.iaload, 1) := by decide +kernel
theorem dd_La_law_105 : decode bb_La_law 105 = .ok (.i2l, 1) := by decide +kernel
theorem dd_La_law_106 : decode bb_La_law 106 = .ok (.bipush 32, 2) := by decide +kernel
theorem dd_La_law_108 : decode bb_La_law 108 = .ok (.lshl, 1) := by decide +kernel
theorem dd_La_law_109 : decode bb_La_law 109 = .ok (.aload_n 0, 1) := by decide +kernel
theorem dd_La_law_110 : decode bb_La_law 110 = .ok (.iload 4, 2) := by decide +kernel
theorem dd_La_law_112 : decode bb_La_law 112 = .ok (.iconst 3, 1) := by decide +kernel
theorem dd_La_law_113 : decode bb_La_law 113 = .ok (.iadd, 1) := by decide +kernel
theorem dd_La_law_114 : decode bb_La_law 114 = .ok (.iaload, 1) := by decide +kernel
theorem dd_La_law_115 : decode bb_La_law 115 = .ok (.i2l, 1) := by decide +kernel
theorem dd_La_law_116 : decode bb_La_law 116 = .ok (.ldc2_w 50, 3) := by decide +kernel
theorem dd_La_law_119 : decode bb_La_law 119 = .ok (.land, 1) := by decide +kernel
theorem dd_La_law_120 : decode bb_La_law 120 = .ok (.lor, 1) := by decide +kernel
theorem dd_La_law_121 : decode bb_La_law 121 = .ok (.invokestatic 52, 3) := by decide +kernel
theorem dd_La_law_124 : decode bb_La_law 124 = .ok (.istore 5, 2) := by decide +kernel
theorem dd_La_law_126 : decode bb_La_law 126 = .ok (.aload_n 2, 1) := by decide +kernel
theorem dd_La_law_127 : decode bb_La_law 127 = .ok (.aload_n 0, 1) := by decide +kernel
theorem dd_La_law_128 : decode bb_La_law 128 = .ok (.iload 4, 2) := by decide +kernel
theorem dd_La_law_130 : decode bb_La_law 130 = .ok (.iconst 1, 1) := by decide +kernel
theorem dd_La_law_131 : decode bb_La_law 131 = .ok (.iadd, 1) := by decide +kernel
theorem dd_La_law_132 : decode bb_La_law 132 = .ok (.iaload, 1) := by decide +kernel
theorem dd_La_law_133 : decode bb_La_law 133 = .ok (.aload_n 0, 1) := by decide +kernel
theorem dd_La_law_134 : decode bb_La_law 134 = .ok (.iload 4, 2) := by decide +kernel
theorem dd_La_law_136 : decode bb_La_law 136 = .ok (.iconst 2, 1) := by decide +kernel
theorem dd_La_law_137 : decode bb_La_law 137 = .ok (.iadd, 1) := by decide +kernel
theorem dd_La_law_138 : decode bb_La_law 138 = .ok (.iaload, 1) := by decide +kernel
theorem dd_La_law_139 : decode bb_La_law 139 = .ok (.i2l, 1) := by decide +kernel
theorem dd_La_law_140 : decode bb_La_law 140 = .ok (.bipush 32, 2) := by decide +kernel
theorem dd_La_law_142 : decode bb_La_law 142 = .ok (.lshl, 1) := by decide +kernel
theorem dd_La_law_143 : decode bb_La_law 143 = .ok (.aload_n 0, 1) := by decide +kernel
theorem dd_La_law_144 : decode bb_La_law 144 = .ok (.iload 4, 2) := by decide +kernel
theorem dd_La_law_146 : decode bb_La_law 146 = .ok (.iconst 3, 1) := by decide +kernel
theorem dd_La_law_147 : decode bb_La_law 147 = .ok (.iadd, 1) := by decide +kernel
theorem dd_La_law_148 : decode bb_La_law 148 = .ok (.iaload, 1) := by decide +kernel
theorem dd_La_law_149 : decode bb_La_law 149 = .ok (.i2l, 1) := by decide +kernel
theorem dd_La_law_150 : decode bb_La_law 150 = .ok (.ldc2_w 50, 3) := by decide +kernel
theorem dd_La_law_153 : decode bb_La_law 153 = .ok (.land, 1) := by decide +kernel
theorem dd_La_law_154 : decode bb_La_law 154 = .ok (.lor, 1) := by decide +kernel
theorem dd_La_law_155 : decode bb_La_law 155 = .ok (.invokevirtual 57, 3) := by decide +kernel
theorem dd_La_law_158 : decode bb_La_law 158 = .ok (.aload_n 2, 1) := by decide +kernel
theorem dd_La_law_159 : decode bb_La_law 159 = .ok (.invokevirtual 58, 3) := by decide +kernel
theorem dd_La_law_162 : decode bb_La_law 162 = .ok (.iload 5, 2) := by decide +kernel
theorem dd_La_law_164 : decode bb_La_law 164 = .ok (.if_icmp .eq 5, 3) := by decide +kernel
theorem dd_La_law_167 : decode bb_La_law 167 = .ok (.iconst 0, 1) := by decide +kernel
theorem dd_La_law_168 : decode bb_La_law 168 = .ok (.ireturn, 1) := by decide +kernel
theorem dd_La_law_169 : decode bb_La_law 169 = .ok (.goto 454, 3) := by decide +kernel
theorem dd_La_law_172 : decode bb_La_law 172 = .ok (.aload_n 1, 1) := by decide +kernel
theorem dd_La_law_173 : decode bb_La_law 173 = .ok (.aload_n 0, 1) := by decide +kernel
theorem dd_La_law_174 : decode bb_La_law 174 = .ok (.iload 4, 2) := by decide +kernel
theorem dd_La_law_176 : decode bb_La_law 176 = .ok (.iconst 1, 1) := by decide +kernel
theorem dd_La_law_177 : decode bb_La_law 177 = .ok (.iadd, 1) := by decide +kernel
theorem dd_La_law_178 : decode bb_La_law 178 = .ok (.iaload, 1) := by decide +kernel
theorem dd_La_law_179 : decode bb_La_law 179 = .ok (.aload_n 0, 1) := by decide +kernel
theorem dd_La_law_180 : decode bb_La_law 180 = .ok (.iload 4, 2) := by decide +kernel
theorem dd_La_law_182 : decode bb_La_law 182 = .ok (.iconst 2, 1) := by decide +kernel
theorem dd_La_law_183 : decode bb_La_law 183 = .ok (.iadd, 1) := by decide +kernel
theorem dd_La_law_184 : decode bb_La_law 184 = .ok (.iaload, 1) := by decide +kernel
theorem dd_La_law_185 : decode bb_La_law 185 = .ok (.invokestatic 61, 3) := by decide +kernel
theorem dd_La_law_188 : decode bb_La_law 188 = .ok (.istore 5, 2) := by decide +kernel
theorem dd_La_law_190 : decode bb_La_law 190 = .ok (.aload_n 2, 1) := by decide +kernel
theorem dd_La_law_191 : decode bb_La_law 191 = .ok (.aload_n 0, 1) := by decide +kernel
theorem dd_La_law_192 : decode bb_La_law 192 = .ok (.iload 4, 2) := by decide +kernel
theorem dd_La_law_194 : decode bb_La_law 194 = .ok (.iconst 1, 1) := by decide +kernel
theorem dd_La_law_195 : decode bb_La_law 195 = .ok (.iadd, 1) := by decide +kernel
theorem dd_La_law_196 : decode bb_La_law 196 = .ok (.iaload, 1) := by decide +kernel
theorem dd_La_law_197 : decode bb_La_law 197 = .ok (.aload_n 0, 1) := by decide +kernel
theorem dd_La_law_198 : decode bb_La_law 198 = .ok (.iload 4, 2) := by decide +kernel
theorem dd_La_law_200 : decode bb_La_law 200 = .ok (.iconst 2, 1) := by decide +kernel
theorem dd_La_law_201 : decode bb_La_law 201 = .ok (.iadd, 1) := by decide +kernel
theorem dd_La_law_202 : decode bb_La_law 202 = .ok (.iaload, 1) := by decide +kernel
theorem dd_La_law_203 : decode bb_La_law 203 = .ok (.invokevirtual 64, 3) := by decide +kernel
theorem dd_La_law_206 : decode bb_La_law 206 = .ok (.aload_n 2, 1) := by decide +kernel
theorem dd_La_law_207 : decode bb_La_law 207 = .ok (.invokevirtual 58, 3) := by decide +kernel
theorem dd_La_law_210 : decode bb_La_law 210 = .ok (.iload 5, 2) := by decide +kernel
theorem dd_La_law_212 : decode bb_La_law 212 = .ok (.if_icmp .eq 5, 3) := by decide +kernel
theorem dd_La_law_215 : decode bb_La_law 215 = .ok (.iconst 0, 1) := by decide +kernel
theorem dd_La_law_216 : decode bb_La_law 216 = .ok (.ireturn, 1) := by decide +kernel
theorem dd_La_law_217 : decode bb_La_law 217 = .ok (.goto 406, 3) := by decide +kernel
theorem dd_La_law_220 : decode bb_La_law 220 = .ok (.aload_n 1, 1) := by decide +kernel
theorem dd_La_law_221 : decode bb_La_law 221 = .ok (.aload_n 0, 1) := by decide +kernel
theorem dd_La_law_222 : decode bb_La_law 222 = .ok (.iload 4, 2) := by decide +kernel
theorem dd_La_law_224 : decode bb_La_law 224 = .ok (.iconst 1, 1) := by decide +kernel
theorem dd_La_law_225 : decode bb_La_law 225 = .ok (.iadd, 1) := by decide +kernel
theorem dd_La_law_226 : decode bb_La_law 226 = .ok (.iaload, 1) := by decide +kernel
theorem dd_La_law_227 : decode bb_La_law 227 = .ok (.aload_n 3, 1) := by decide +kernel
theorem dd_La_law_228 : decode bb_La_law 228 = .ok (.invokestatic 65, 3) := by decide +kernel
theorem dd_La_law_231 : decode bb_La_law 231 = .ok (.istore 5, 2) := by decide +kernel
theorem dd_La_law_233 : decode bb_La_law 233 = .ok (.aload_n 2, 1) := by decide +kernel
theorem dd_La_law_234 : decode bb_La_law 234 = .ok (.aload_n 0, 1) := by decide +kernel
theorem dd_La_law_235 : decode bb_La_law 235 = .ok (.iload 4, 2) := by decide +kernel
theorem dd_La_law_237 : decode bb_La_law 237 = .ok (.iconst 1, 1) := by decide +kernel
theorem dd_La_law_238 : decode bb_La_law 238 = .ok (.iadd, 1) := by decide +kernel
theorem dd_La_law_239 : decode bb_La_law 239 = .ok (.iaload, 1) := by decide +kernel
theorem dd_La_law_240 : decode bb_La_law 240 = .ok (.invokevirtual 68, 3) := by decide +kernel
theorem dd_La_law_243 : decode bb_La_law 243 = .ok (.lstore 6, 2) := by decide +kernel
theorem dd_La_law_245 : decode bb_La_law 245 = .ok (.aload_n 2, 1) := by decide +kernel
theorem dd_La_law_246 : decode bb_La_law 246 = .ok (.invokevirtual 58, 3) := by decide +kernel
theorem dd_La_law_249 : decode bb_La_law 249 = .ok (.iload 5, 2) := by decide +kernel
theorem dd_La_law_251 : decode bb_La_law 251 = .ok (.if_icmp .eq 5, 3) := by decide +kernel
theorem dd_La_law_254 : decode bb_La_law 254 = .ok (.iconst 0, 1) := by decide +kernel
theorem dd_La_law_255 : decode bb_La_law 255 = .ok (.ireturn, 1) := by decide +kernel
theorem dd_La_law_256 : decode bb_La_law 256 = .ok (.iload 5, 2) := by decide +kernel
theorem dd_La_law_258 : decode bb_La_law 258 = .ok (.ifCond .ne 14, 3) := by decide +kernel
theorem dd_La_law_261 : decode bb_La_law 261 = .ok (.aload_n 3, 1) := by decide +kernel
theorem dd_La_law_262 : decode bb_La_law 262 = .ok (.iconst 0, 1) := by decide +kernel
theorem dd_La_law_263 : decode bb_La_law 263 = .ok (.laload, 1) := by decide +kernel
theorem dd_La_law_264 : decode bb_La_law 264 = .ok (.lload 6, 2) := by decide +kernel
theorem dd_La_law_266 : decode bb_La_law 266 = .ok (.lcmp, 1) := by decide +kernel
theorem dd_La_law_267 : decode bb_La_law 267 = .ok (.ifCond .eq 5, 3) := by decide +kernel
theorem dd_La_law_270 : decode bb_La_law 270 = .ok (.iconst 0, 1) := by decide +kernel
theorem dd_La_law_271 : decode bb_La_law 271 = .ok (.ireturn, 1) := by decide +kernel
theorem dd_La_law_272 : decode bb_La_law 272 = .ok (.goto 351, 3) := by decide +kernel
theorem dd_La_law_275 : decode bb_La_law 275 = .ok (.aload_n 1, 1) := by decide +kernel
theorem dd_La_law_276 : decode bb_La_law 276 = .ok (.aload_n 0, 1) := by decide +kernel
theorem dd_La_law_277 : decode bb_La_law 277 = .ok (.iload 4, 2) := by decide +kernel
theorem dd_La_law_279 : decode bb_La_law 279 = .ok (.iconst 1, 1) := by decide +kernel
theorem dd_La_law_280 : decode bb_La_law 280 = .ok (.iadd, 1) := by decide +kernel
theorem dd_La_law_281 : decode bb_La_law 281 = .ok (.iaload, 1) := by decide +kernel
theorem dd_La_law_282 : decode bb_La_law 282 = .ok (.aload_n 0, 1) := by decide +kernel
theorem dd_La_law_283 : decode bb_La_law 283 = .ok (.iload 4, 2) := by decide +kernel
theorem dd_La_law_285 : decode bb_La_law 285 = .ok (.iconst 2, 1) := by decide +kernel
theorem dd_La_law_286 : decode bb_La_law 286 = .ok (.iadd, 1) := by decide +kernel
theorem dd_La_law_287 : decode bb_La_law 287 = .ok (.iaload, 1) := by decide +kernel
theorem dd_La_law_288 : decode bb_La_law 288 = .ok (.aload_n 3, 1) := by decide +kernel
theorem dd_La_law_289 : decode bb_La_law 289 = .ok (.invokestatic 69, 3) := by decide +kernel
theorem dd_La_law_292 : decode bb_La_law 292 = .ok (.istore 5, 2) := by decide +kernel
theorem dd_La_law_294 : decode bb_La_law 294 = .ok (.aload_n 2, 1) := by decide +kernel
theorem dd_La_law_295 : decode bb_La_law 295 = .ok (.aload_n 0, 1) := by decide +kernel
theorem dd_La_law_296 : decode bb_La_law 296 = .ok (.iload 4, 2) := by decide +kernel
theorem dd_La_law_298 : decode bb_La_law 298 = .ok (.iconst 1, 1) := by decide +kernel
theorem dd_La_law_299 : decode bb_La_law 299 = .ok (.iadd, 1) := by decide +kernel
theorem dd_La_law_300 : decode bb_La_law 300 = .ok (.iaload, 1) := by decide +kernel
theorem dd_La_law_301 : decode bb_La_law 301 = .ok (.aload_n 0, 1) := by decide +kernel
theorem dd_La_law_302 : decode bb_La_law 302 = .ok (.iload 4, 2) := by decide +kernel
theorem dd_La_law_304 : decode bb_La_law 304 = .ok (.iconst 2, 1) := by decide +kernel
theorem dd_La_law_305 : decode bb_La_law 305 = .ok (.iadd, 1) := by decide +kernel
theorem dd_La_law_306 : decode bb_La_law 306 = .ok (.iaload, 1) := by decide +kernel
theorem dd_La_law_307 : decode bb_La_law 307 = .ok (.invokevirtual 72, 3) := by decide +kernel
theorem dd_La_law_310 : decode bb_La_law 310 = .ok (.lstore 6, 2) := by decide +kernel
theorem dd_La_law_312 : decode bb_La_law 312 = .ok (.aload_n 2, 1) := by decide +kernel
theorem dd_La_law_313 : decode bb_La_law 313 = .ok (.invokevirtual 58, 3) := by decide +kernel
theorem dd_La_law_316 : decode bb_La_law 316 = .ok (.iload 5, 2) := by decide +kernel
theorem dd_La_law_318 : decode bb_La_law 318 = .ok (.if_icmp .eq 5, 3) := by decide +kernel
theorem dd_La_law_321 : decode bb_La_law 321 = .ok (.iconst 0, 1) := by decide +kernel
theorem dd_La_law_322 : decode bb_La_law 322 = .ok (.ireturn, 1) := by decide +kernel
theorem dd_La_law_323 : decode bb_La_law 323 = .ok (.iload 5, 2) := by decide +kernel
theorem dd_La_law_325 : decode bb_La_law 325 = .ok (.ifCond .ne 14, 3) := by decide +kernel
theorem dd_La_law_328 : decode bb_La_law 328 = .ok (.aload_n 3, 1) := by decide +kernel
theorem dd_La_law_329 : decode bb_La_law 329 = .ok (.iconst 0, 1) := by decide +kernel
theorem dd_La_law_330 : decode bb_La_law 330 = .ok (.laload, 1) := by decide +kernel
theorem dd_La_law_331 : decode bb_La_law 331 = .ok (.lload 6, 2) := by decide +kernel
