theorem d_L_cell_0 : decode method_2_code 0 = .ok (.iload_n 1, 1) := by decide +kernel
theorem d_L_cell_1 : decode method_2_code 1 = .ok (.aload_n 0, 1) := by decide +kernel
theorem d_L_cell_2 : decode method_2_code 2 = .ok (.arraylength, 1) := by decide +kernel
theorem d_L_cell_3 : decode method_2_code 3 = .ok (.if_icmp .ge 9, 3) := by decide +kernel
theorem d_L_cell_6 : decode method_2_code 6 = .ok (.aload_n 0, 1) := by decide +kernel
theorem d_L_cell_7 : decode method_2_code 7 = .ok (.iload_n 1, 1) := by decide +kernel
theorem d_L_cell_8 : decode method_2_code 8 = .ok (.iaload, 1) := by decide +kernel
theorem d_L_cell_9 : decode method_2_code 9 = .ok (.goto 4, 3) := by decide +kernel
theorem d_L_cell_12 : decode method_2_code 12 = .ok (.iconst 0, 1) := by decide +kernel
theorem d_L_cell_13 : decode method_2_code 13 = .ok (.ireturn, 1) := by decide +kernel
theorem d_L_law_0 : decode code 0 = .ok (.new 7, 3) := by decide +kernel
theorem d_L_law_3 : decode code 3 = .ok (.dup, 1) := by decide +kernel
theorem d_L_law_4 : decode code 4 = .ok (.aload_n 0, 1) := by decide +kernel
theorem d_L_law_5 : decode code 5 = .ok (.iconst 0, 1) := by decide +kernel
theorem d_L_law_6 : decode code 6 = .ok (.invokestatic 9, 3) := by decide +kernel
theorem d_L_law_9 : decode code 9 = .ok (.i2l, 1) := by decide +kernel
theorem d_L_law_10 : decode code 10 = .ok (.invokespecial 15, 3) := by decide +kernel
theorem d_L_law_13 : decode code 13 = .ok (.astore_n 1, 1) := by decide +kernel
theorem d_L_law_14 : decode code 14 = .ok (.new 18, 3) := by decide +kernel
theorem d_L_law_17 : decode code 17 = .ok (.dup, 1) := by decide +kernel
theorem d_L_law_18 : decode code 18 = .ok (.aload_n 0, 1) := by decide +kernel
theorem d_L_law_19 : decode code 19 = .ok (.iconst 0, 1) := by decide +kernel
theorem d_L_law_20 : decode code 20 = .ok (.invokestatic 9, 3) := by decide +kernel
theorem d_L_law_23 : decode code 23 = .ok (.i2l, 1) := by decide +kernel
theorem d_L_law_24 : decode code 24 = .ok (.invokespecial 20, 3) := by decide +kernel
theorem d_L_law_27 : decode code 27 = .ok (.astore_n 2, 1) := by decide +kernel
theorem d_L_law_28 : decode code 28 = .ok (.iconst 1, 1) := by decide +kernel
theorem d_L_law_29 : decode code 29 = .ok (.istore_n 3, 1) := by decide +kernel
theorem d_L_law_30 : decode code 30 = .ok (.iload_n 3, 1) := by decide +kernel
theorem d_L_law_31 : decode code 31 = .ok (.aload_n 0, 1) := by decide +kernel
theorem d_L_law_32 : decode code 32 = .ok (.arraylength, 1) := by decide +kernel
theorem d_L_law_33 : decode code 33 = .ok (.iconst 5, 1) := by decide +kernel
theorem d_L_law_34 : decode code 34 = .ok (.isub, 1) := by decide +kernel
theorem d_L_law_35 : decode code 35 = .ok (.if_icmp .gt 322, 3) := by decide +kernel
theorem d_L_law_38 : decode code 38 = .ok (.aload_n 0, 1) := by decide +kernel
theorem d_L_law_39 : decode code 39 = .ok (.iload_n 3, 1) := by decide +kernel
theorem d_L_law_40 : decode code 40 = .ok (.iaload, 1) := by decide +kernel
theorem d_L_law_41 : decode code 41 = .ok (.bipush 7, 2) := by decide +kernel
theorem d_L_law_43 : decode code 43 = .ok (.iand, 1) := by decide +kernel
theorem d_L_law_44 : decode code 44 = .ok (.tableswitch 307 0 7 #[48, 81, 115, 138, 185, 198, 221, 234], 48) := by decide +kernel
theorem d_L_law_92 : decode code 92 = .ok (.aload_n 1, 1) := by decide +kernel
theorem d_L_law_93 : decode code 93 = .ok (.aload_n 0, 1) := by decide +kernel
theorem d_L_law_94 : decode code 94 = .ok (.iload_n 3, 1) := by decide +kernel
theorem d_L_law_95 : decode code 95 = .ok (.iconst 1, 1) := by decide +kernel
theorem d_L_law_96 : decode code 96 = .ok (.iadd, 1) := by decide +kernel
theorem d_L_law_97 : decode code 97 = .ok (.iaload, 1) := by decide +kernel
theorem d_L_law_98 : decode code 98 = .ok (.aload_n 0, 1) := by decide +kernel
theorem d_L_law_99 : decode code 99 = .ok (.iload_n 3, 1) := by decide +kernel
theorem d_L_law_100 : decode code 100 = .ok (.iconst 2, 1) := by decide +kernel
theorem d_L_law_101 : decode code 101 = .ok (.iadd, 1) := by decide +kernel
theorem d_L_law_102 : decode code 102 = .ok (.iaload, 1) := by decide +kernel
theorem d_L_law_103 : decode code 103 = .ok (.invokevirtual 21, 3) := by decide +kernel
theorem d_L_law_106 : decode code 106 = .ok (.aload_n 2, 1) := by decide +kernel
theorem d_L_law_107 : decode code 107 = .ok (.aload_n 0, 1) := by decide +kernel
theorem d_L_law_108 : decode code 108 = .ok (.iload_n 3, 1) := by decide +kernel
theorem d_L_law_109 : decode code 109 = .ok (.iconst 1, 1) := by decide +kernel
theorem d_L_law_110 : decode code 110 = .ok (.iadd, 1) := by decide +kernel
theorem d_L_law_111 : decode code 111 = .ok (.iaload, 1) := by decide +kernel
theorem d_L_law_112 : decode code 112 = .ok (.aload_n 0, 1) := by decide +kernel
theorem d_L_law_113 : decode code 113 = .ok (.iload_n 3, 1) := by decide +kernel
theorem d_L_law_114 : decode code 114 = .ok (.iconst 2, 1) := by decide +kernel
theorem d_L_law_115 : decode code 115 = .ok (.iadd, 1) := by decide +kernel
theorem d_L_law_116 : decode code 116 = .ok (.iaload, 1) := by decide +kernel
theorem d_L_law_117 : decode code 117 = .ok (.invokevirtual 25, 3) := by decide +kernel
theorem d_L_law_120 : decode code 120 = .ok (.if_icmp .eq 231, 3) := by decide +kernel
theorem d_L_law_123 : decode code 123 = .ok (.iconst 0, 1) := by decide +kernel
theorem d_L_law_124 : decode code 124 = .ok (.ireturn, 1) := by decide +kernel
theorem d_L_law_125 : decode code 125 = .ok (.aload_n 1, 1) := by decide +kernel
theorem d_L_law_126 : decode code 126 = .ok (.aload_n 0, 1) := by decide +kernel
theorem d_L_law_127 : decode code 127 = .ok (.iload_n 3, 1) := by decide +kernel
theorem d_L_law_128 : decode code 128 = .ok (.iconst 1, 1) := by decide +kernel
theorem d_L_law_129 : decode code 129 = .ok (.iadd, 1) := by decide +kernel
theorem d_L_law_130 : decode code 130 = .ok (.iaload, 1) := by decide +kernel
theorem d_L_law_131 : decode code 131 = .ok (.aload_n 0, 1) := by decide +kernel
theorem d_L_law_132 : decode code 132 = .ok (.iload_n 3, 1) := by decide +kernel
theorem d_L_law_133 : decode code 133 = .ok (.iconst 2, 1) := by decide +kernel
theorem d_L_law_134 : decode code 134 = .ok (.iadd, 1) := by decide +kernel
theorem d_L_law_135 : decode code 135 = .ok (.iaload, 1) := by decide +kernel
theorem d_L_law_136 : decode code 136 = .ok (.invokevirtual 26, 3) := by decide +kernel
theorem d_L_law_139 : decode code 139 = .ok (.aload_n 2, 1) := by decide +kernel
theorem d_L_law_140 : decode code 140 = .ok (.aload_n 0, 1) := by decide +kernel
theorem d_L_law_141 : decode code 141 = .ok (.iload_n 3, 1) := by decide +kernel
theorem d_L_law_142 : decode code 142 = .ok (.iconst 1, 1) := by decide +kernel
theorem d_L_law_143 : decode code 143 = .ok (.iadd, 1) := by decide +kernel
theorem d_L_law_144 : decode code 144 = .ok (.iaload, 1) := by decide +kernel
theorem d_L_law_145 : decode code 145 = .ok (.aload_n 0, 1) := by decide +kernel
theorem d_L_law_146 : decode code 146 = .ok (.iload_n 3, 1) := by decide +kernel
theorem d_L_law_147 : decode code 147 = .ok (.iconst 2, 1) := by decide +kernel
theorem d_L_law_148 : decode code 148 = .ok (.iadd, 1) := by decide +kernel
theorem d_L_law_149 : decode code 149 = .ok (.iaload, 1) := by decide +kernel
theorem d_L_law_150 : decode code 150 = .ok (.invokevirtual 30, 3) := by decide +kernel
theorem d_L_law_153 : decode code 153 = .ok (.lcmp, 1) := by decide +kernel
theorem d_L_law_154 : decode code 154 = .ok (.ifCond .eq 197, 3) := by decide +kernel
theorem d_L_law_157 : decode code 157 = .ok (.iconst 0, 1) := by decide +kernel
theorem d_L_law_158 : decode code 158 = .ok (.ireturn, 1) := by decide +kernel
theorem d_L_law_159 : decode code 159 = .ok (.aload_n 1, 1) := by decide +kernel
theorem d_L_law_160 : decode code 160 = .ok (.aload_n 0, 1) := by decide +kernel
theorem d_L_law_161 : decode code 161 = .ok (.iload_n 3, 1) := by decide +kernel
theorem d_L_law_162 : decode code 162 = .ok (.iconst 1, 1) := by decide +kernel
theorem d_L_law_163 : decode code 163 = .ok (.iadd, 1) := by decide +kernel
theorem d_L_law_164 : decode code 164 = .ok (.iaload, 1) := by decide +kernel
theorem d_L_law_165 : decode code 165 = .ok (.invokevirtual 31, 3) := by decide +kernel
theorem d_L_law_168 : decode code 168 = .ok (.aload_n 2, 1) := by decide +kernel
theorem d_L_law_169 : decode code 169 = .ok (.aload_n 0, 1) := by decide +kernel
theorem d_L_law_170 : decode code 170 = .ok (.iload_n 3, 1) := by decide +kernel
theorem d_L_law_171 : decode code 171 = .ok (.iconst 1, 1) := by decide +kernel
theorem d_L_law_172 : decode code 172 = .ok (.iadd, 1) := by decide +kernel
theorem d_L_law_173 : decode code 173 = .ok (.iaload, 1) := by decide +kernel
theorem d_L_law_174 : decode code 174 = .ok (.invokevirtual 35, 3) := by decide +kernel
theorem d_L_law_177 : decode code 177 = .ok (.if_icmp .eq 174, 3) := by decide +kernel
theorem d_L_law_180 : decode code 180 = .ok (.iconst 0, 1) := by decide +kernel
theorem d_L_law_181 : decode code 181 = .ok (.ireturn, 1) := by decide +kernel
theorem d_L_law_182 : decode code 182 = .ok (.aload_n 1, 1) := by decide +kernel
theorem d_L_law_183 : decode code 183 = .ok (.aload_n 0, 1) := by decide +kernel
theorem d_L_law_184 : decode code 184 = .ok (.iload_n 3, 1) := by decide +kernel
theorem d_L_law_185 : decode code 185 = .ok (.iconst 1, 1) := by decide +kernel
theorem d_L_law_186 : decode code 186 = .ok (.iadd, 1) := by decide +kernel
theorem d_L_law_187 : decode code 187 = .ok (.iaload, 1) := by decide +kernel
theorem d_L_law_188 : decode code 188 = .ok (.aload_n 0, 1) := by decide +kernel
theorem d_L_law_189 : decode code 189 = .ok (.iload_n 3, 1) := by decide +kernel
theorem d_L_law_190 : decode code 190 = .ok (.iconst 2, 1) := by decide +kernel
theorem d_L_law_191 : decode code 191 = .ok (.iadd, 1) := by decide +kernel
theorem d_L_law_192 : decode code 192 = .ok (.iaload, 1) := by decide +kernel
theorem d_L_law_193 : decode code 193 = .ok (.ifCond .eq 7, 3) := by decide +kernel
theorem d_L_law_196 : decode code 196 = .ok (.iconst 1, 1) := by decide +kernel
theorem d_L_law_197 : decode code 197 = .ok (.goto 4, 3) := by decide +kernel
theorem d_L_law_200 : decode code 200 = .ok (.iconst 0, 1) := by decide +kernel
theorem d_L_law_201 : decode code 201 = .ok (.invokevirtual 36, 3) := by decide +kernel
theorem d_L_law_204 : decode code 204 = .ok (.aload_n 2, 1) := by decide +kernel
theorem d_L_law_205 : decode code 205 = .ok (.aload_n 0, 1) := by decide +kernel
theorem d_L_law_206 : decode code 206 = .ok (.iload_n 3, 1) := by decide +kernel
theorem d_L_law_207 : decode code 207 = .ok (.iconst 1, 1) := by decide +kernel
theorem d_L_law_208 : decode code 208 = .ok (.iadd, 1) := by decide +kernel
theorem d_L_law_209 : decode code 209 = .ok (.iaload, 1) := by decide +kernel
theorem d_L_law_210 : decode code 210 = .ok (.aload_n 0, 1) := by decide +kernel
theorem d_L_law_211 : decode code 211 = .ok (.iload_n 3, 1) := by decide +kernel
theorem d_L_law_212 : decode code 212 = .ok (.iconst 2, 1) := by decide +kernel
theorem d_L_law_213 : decode code 213 = .ok (.iadd, 1) := by decide +kernel
theorem d_L_law_214 : decode code 214 = .ok (.iaload, 1) := by decide +kernel
theorem d_L_law_215 : decode code 215 = .ok (.ifCond .eq 7, 3) := by decide +kernel
theorem d_L_law_218 : decode code 218 = .ok (.iconst 1, 1) := by decide +kernel
theorem d_L_law_219 : decode code 219 = .ok (.goto 4, 3) := by decide +kernel
theorem d_L_law_222 : decode code 222 = .ok (.iconst 0, 1) := by decide +kernel
theorem d_L_law_223 : decode code 223 = .ok (.invokevirtual 40, 3) := by decide +kernel
theorem d_L_law_226 : decode code 226 = .ok (.goto 125, 3) := by decide +kernel
theorem d_L_law_229 : decode code 229 = .ok (.aload_n 1, 1) := by decide +kernel
theorem d_L_law_230 : decode code 230 = .ok (.invokevirtual 41, 3) := by decide +kernel
theorem d_L_law_233 : decode code 233 = .ok (.aload_n 2, 1) := by decide +kernel
theorem d_L_law_234 : decode code 234 = .ok (.invokevirtual 45, 3) := by decide +kernel
theorem d_L_law_237 : decode code 237 = .ok (.if_icmp .eq 114, 3) := by decide +kernel
theorem d_L_law_240 : decode code 240 = .ok (.iconst 0, 1) := by decide +kernel
theorem d_L_law_241 : decode code 241 = .ok (.ireturn, 1) := by decide +kernel
theorem d_L_law_242 : decode code 242 = .ok (.aload_n 1, 1) := by decide +kernel
theorem d_L_law_243 : decode code 243 = .ok (.aload_n 0, 1) := by decide +kernel
theorem d_L_law_244 : decode code 244 = .ok (.iload_n 3, 1) := by decide +kernel
theorem d_L_law_245 : decode code 245 = .ok (.iconst 1, 1) := by decide +kernel
theorem d_L_law_246 : decode code 246 = .ok (.iadd, 1) := by decide +kernel
theorem d_L_law_247 : decode code 247 = .ok (.iaload, 1) := by decide +kernel
theorem d_L_law_248 : decode code 248 = .ok (.invokevirtual 46, 3) := by decide +kernel
theorem d_L_law_251 : decode code 251 = .ok (.aload_n 2, 1) := by decide +kernel
theorem d_L_law_252 : decode code 252 = .ok (.aload_n 0, 1) := by decide +kernel
theorem d_L_law_253 : decode code 253 = .ok (.iload_n 3, 1) := by decide +kernel
theorem d_L_law_254 : decode code 254 = .ok (.iconst 1, 1) := by decide +kernel
theorem d_L_law_255 : decode code 255 = .ok (.iadd, 1) := by decide +kernel
theorem d_L_law_256 : decode code 256 = .ok (.iaload, 1) := by decide +kernel
theorem d_L_law_257 : decode code 257 = .ok (.invokevirtual 49, 3) := by decide +kernel
theorem d_L_law_260 : decode code 260 = .ok (.if_icmp .eq 91, 3) := by decide +kernel
theorem d_L_law_263 : decode code 263 = .ok (.iconst 0, 1) := by decide +kernel
theorem d_L_law_264 : decode code 264 = .ok (.ireturn, 1) := by decide +kernel
theorem d_L_law_265 : decode code 265 = .ok (.aload_n 1, 1) := by decide +kernel
theorem d_L_law_266 : decode code 266 = .ok (.invokevirtual 50, 3) := by decide +kernel
theorem d_L_law_269 : decode code 269 = .ok (.aload_n 2, 1) := by decide +kernel
theorem d_L_law_270 : decode code 270 = .ok (.invokevirtual 54, 3) := by decide +kernel
theorem d_L_law_273 : decode code 273 = .ok (.if_icmp .eq 78, 3) := by decide +kernel
theorem d_L_law_276 : decode code 276 = .ok (.iconst 0, 1) := by decide +kernel
theorem d_L_law_277 : decode code 277 = .ok (.ireturn, 1) := by decide +kernel
theorem d_L_law_278 : decode code 278 = .ok (.aload_n 1, 1) := by decide +kernel
theorem d_L_law_279 : decode code 279 = .ok (.aload_n 0, 1) := by decide +kernel
theorem d_L_law_280 : decode code 280 = .ok (.iload_n 3, 1) := by decide +kernel
theorem d_L_law_281 : decode code 281 = .ok (.iconst 1, 1) := by decide +kernel
theorem d_L_law_282 : decode code 282 = .ok (.iadd, 1) := by decide +kernel
theorem d_L_law_283 : decode code 283 = .ok (.iaload, 1) := by decide +kernel
theorem d_L_law_284 : decode code 284 = .ok (.i2l, 1) := by decide +kernel
theorem d_L_law_285 : decode code 285 = .ok (.bipush 32, 2) := by decide +kernel
theorem d_L_law_287 : decode code 287 = .ok (.lshl, 1) := by decide +kernel
theorem d_L_law_288 : decode code 288 = .ok (.aload_n 0, 1) := by decide +kernel
theorem d_L_law_289 : decode code 289 = .ok (.iload_n 3, 1) := by decide +kernel
theorem d_L_law_290 : decode code 290 = .ok (.iconst 2, 1) := by decide +kernel
theorem d_L_law_291 : decode code 291 = .ok (.iadd, 1) := by decide +kernel
theorem d_L_law_292 : decode code 292 = .ok (.iaload, 1) := by decide +kernel
theorem d_L_law_293 : decode code 293 = .ok (.i2l, 1) := by decide +kernel
theorem d_L_law_294 : decode code 294 = .ok (.ldc2_w 55, 3) := by decide +kernel
theorem d_L_law_297 : decode code 297 = .ok (.land, 1) := by decide +kernel
theorem d_L_law_298 : decode code 298 = .ok (.lor, 1) := by decide +kernel
theorem d_L_law_299 : decode code 299 = .ok (.aload_n 0, 1) := by decide +kernel
theorem d_L_law_300 : decode code 300 = .ok (.iload_n 3, 1) := by decide +kernel
theorem d_L_law_301 : decode code 301 = .ok (.iconst 3, 1) := by decide +kernel
theorem d_L_law_302 : decode code 302 = .ok (.iadd, 1) := by decide +kernel
theorem d_L_law_303 : decode code 303 = .ok (.iaload, 1) := by decide +kernel
theorem d_L_law_304 : decode code 304 = .ok (.aload_n 0, 1) := by decide +kernel
theorem d_L_law_305 : decode code 305 = .ok (.iload_n 3, 1) := by decide +kernel
theorem d_L_law_306 : decode code 306 = .ok (.iconst 4, 1) := by decide +kernel
theorem d_L_law_307 : decode code 307 = .ok (.iadd, 1) := by decide +kernel
theorem d_L_law_308 : decode code 308 = .ok (.iaload, 1) := by decide +kernel
theorem d_L_law_309 : decode code 309 = .ok (.invokevirtual 57, 3) := by decide +kernel
theorem d_L_law_312 : decode code 312 = .ok (.aload_n 2, 1) := by decide +kernel
theorem d_L_law_313 : decode code 313 = .ok (.aload_n 0, 1) := by decide +kernel
theorem d_L_law_314 : decode code 314 = .ok (.iload_n 3, 1) := by decide +kernel
theorem d_L_law_315 : decode code 315 = .ok (.iconst 1, 1) := by decide +kernel
theorem d_L_law_316 : decode code 316 = .ok (.iadd, 1) := by decide +kernel
theorem d_L_law_317 : decode code 317 = .ok (.iaload, 1) := by decide +kernel
theorem d_L_law_318 : decode code 318 = .ok (.i2l, 1) := by decide +kernel
theorem d_L_law_319 : decode code 319 = .ok (.bipush 32, 2) := by decide +kernel
theorem d_L_law_321 : decode code 321 = .ok (.lshl, 1) := by decide +kernel
theorem d_L_law_322 : decode code 322 = .ok (.aload_n 0, 1) := by decide +kernel
theorem d_L_law_323 : decode code 323 = .ok (.iload_n 3, 1) := by decide +kernel
theorem d_L_law_324 : decode code 324 = .ok (.iconst 2, 1) := by decide +kernel
theorem d_L_law_325 : decode code 325 = .ok (.iadd, 1) := by decide +kernel
theorem d_L_law_326 : decode code 326 = .ok (.iaload, 1) := by decide +kernel
theorem d_L_law_327 : decode code 327 = .ok (.i2l, 1) := by decide +kernel
theorem d_L_law_328 : decode code 328 = .ok (.ldc2_w 55, 3) := by decide +kernel
theorem d_L_law_331 : decode code 331 = .ok (.land, 1) := by decide +kernel
theorem d_L_law_332 : decode code 332 = .ok (.lor, 1) := by decide +kernel
theorem d_L_law_333 : decode code 333 = .ok (.aload_n 0, 1) := by decide +kernel
theorem d_L_law_334 : decode code 334 = .ok (.iload_n 3, 1) := by decide +kernel
theorem d_L_law_335 : decode code 335 = .ok (.iconst 3, 1) := by decide +kernel
theorem d_L_law_336 : decode code 336 = .ok (.iadd, 1) := by decide +kernel
theorem d_L_law_337 : decode code 337 = .ok (.iaload, 1) := by decide +kernel
theorem d_L_law_338 : decode code 338 = .ok (.aload_n 0, 1) := by decide +kernel
theorem d_L_law_339 : decode code 339 = .ok (.iload_n 3, 1) := by decide +kernel
theorem d_L_law_340 : decode code 340 = .ok (.iconst 4, 1) := by decide +kernel
theorem d_L_law_341 : decode code 341 = .ok (.iadd, 1) := by decide +kernel
theorem d_L_law_342 : decode code 342 = .ok (.iaload, 1) := by decide +kernel
theorem d_L_law_343 : decode code 343 = .ok (.invokevirtual 61, 3) := by decide +kernel
theorem d_L_law_346 : decode code 346 = .ok (.if_icmp .eq 5, 3) := by decide +kernel
theorem d_L_law_349 : decode code 349 = .ok (.iconst 0, 1) := by decide +kernel
theorem d_L_law_350 : decode code 350 = .ok (.ireturn, 1) := by decide +kernel
theorem d_L_law_351 : decode code 351 = .ok (.iinc 3 5, 3) := by decide +kernel
theorem d_L_law_354 : decode code 354 = .ok (.goto (-324), 3) := by decide +kernel
theorem d_L_law_357 : decode code 357 = .ok (.iconst 1, 1) := by decide +kernel
theorem d_L_law_358 : decode code 358 = .ok (.ireturn, 1) := by decide +kernel
