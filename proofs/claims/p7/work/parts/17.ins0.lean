theorem i_0_0 : a_ins 0 0 = some (.new 7, (10, 12, 123)) := by decide +kernel
theorem i_0_3 : a_ins 0 3 = some (.dup, (0, 0, 0)) := by decide +kernel
theorem i_0_4 : a_ins 0 4 = some (.invokespecial 9, (2, 1, 0)) := by decide +kernel
theorem i_0_7 : a_ins 0 7 = some (.astore_n 1, (0, 0, 0)) := by decide +kernel
theorem i_0_8 : a_ins 0 8 = some (.new 10, (11, 67, 1199)) := by decide +kernel
theorem i_0_11 : a_ins 0 11 = some (.dup, (0, 0, 0)) := by decide +kernel
theorem i_0_12 : a_ins 0 12 = some (.invokespecial 12, (2, 132, 0)) := by decide +kernel
theorem i_0_15 : a_ins 0 15 = some (.astore_n 2, (0, 0, 0)) := by decide +kernel
theorem i_0_16 : a_ins 0 16 = some (.iconst 0, (0, 0, 0)) := by decide +kernel
theorem i_0_17 : a_ins 0 17 = some (.istore_n 3, (0, 0, 0)) := by decide +kernel
theorem i_0_18 : a_ins 0 18 = some (.iload_n 3, (0, 0, 0)) := by decide +kernel
theorem i_0_19 : a_ins 0 19 = some (.aload_n 0, (0, 0, 0)) := by decide +kernel
theorem i_0_20 : a_ins 0 20 = some (.arraylength, (0, 0, 0)) := by decide +kernel
theorem i_0_21 : a_ins 0 21 = some (.bipush 6, (0, 0, 0)) := by decide +kernel
theorem i_0_23 : a_ins 0 23 = some (.isub, (0, 0, 0)) := by decide +kernel
theorem i_0_24 : a_ins 0 24 = some (.if_icmp .gt 643, (0, 0, 0)) := by decide +kernel
theorem i_0_27 : a_ins 0 27 = some (.aload_n 0, (0, 0, 0)) := by decide +kernel
theorem i_0_28 : a_ins 0 28 = some (.iload_n 3, (0, 0, 0)) := by decide +kernel
theorem i_0_29 : a_ins 0 29 = some (.iaload, (0, 0, 0)) := by decide +kernel
theorem i_0_30 : a_ins 0 30 = some (.bipush 31, (0, 0, 0)) := by decide +kernel
theorem i_0_32 : a_ins 0 32 = some (.iand, (0, 0, 0)) := by decide +kernel
theorem i_0_33 : a_ins 0 33 = some (.tableswitch 628 0 18 #[91, 154, 177, 190, 213, 236, 259, 282, 325, 368, 381, 404, 427, 460, 493, 526, 549, 572, 605], (0, 0, 0)) := by decide +kernel
theorem i_0_124 : a_ins 0 124 = some (.aload_n 1, (0, 0, 0)) := by decide +kernel
theorem i_0_125 : a_ins 0 125 = some (.aload_n 0, (0, 0, 0)) := by decide +kernel
theorem i_0_126 : a_ins 0 126 = some (.iload_n 3, (0, 0, 0)) := by decide +kernel
theorem i_0_127 : a_ins 0 127 = some (.iconst 1, (0, 0, 0)) := by decide +kernel
theorem i_0_128 : a_ins 0 128 = some (.iadd, (0, 0, 0)) := by decide +kernel
theorem i_0_129 : a_ins 0 129 = some (.iaload, (0, 0, 0)) := by decide +kernel
theorem i_0_130 : a_ins 0 130 = some (.aload_n 0, (0, 0, 0)) := by decide +kernel
theorem i_0_131 : a_ins 0 131 = some (.iload_n 3, (0, 0, 0)) := by decide +kernel
theorem i_0_132 : a_ins 0 132 = some (.iconst 2, (0, 0, 0)) := by decide +kernel
theorem i_0_133 : a_ins 0 133 = some (.iadd, (0, 0, 0)) := by decide +kernel
theorem i_0_134 : a_ins 0 134 = some (.iaload, (0, 0, 0)) := by decide +kernel
theorem i_0_135 : a_ins 0 135 = some (.aload_n 0, (0, 0, 0)) := by decide +kernel
theorem i_0_136 : a_ins 0 136 = some (.iload_n 3, (0, 0, 0)) := by decide +kernel
theorem i_0_137 : a_ins 0 137 = some (.iconst 3, (0, 0, 0)) := by decide +kernel
theorem i_0_138 : a_ins 0 138 = some (.iadd, (0, 0, 0)) := by decide +kernel
theorem i_0_139 : a_ins 0 139 = some (.iaload, (0, 0, 0)) := by decide +kernel
theorem i_0_140 : a_ins 0 140 = some (.aload_n 0, (0, 0, 0)) := by decide +kernel
theorem i_0_141 : a_ins 0 141 = some (.iload_n 3, (0, 0, 0)) := by decide +kernel
theorem i_0_142 : a_ins 0 142 = some (.iconst 4, (0, 0, 0)) := by decide +kernel
theorem i_0_143 : a_ins 0 143 = some (.iadd, (0, 0, 0)) := by decide +kernel
theorem i_0_144 : a_ins 0 144 = some (.iaload, (0, 0, 0)) := by decide +kernel
theorem i_0_145 : a_ins 0 145 = some (.aload_n 0, (0, 0, 0)) := by decide +kernel
theorem i_0_146 : a_ins 0 146 = some (.iload_n 3, (0, 0, 0)) := by decide +kernel
theorem i_0_147 : a_ins 0 147 = some (.iconst 5, (0, 0, 0)) := by decide +kernel
theorem i_0_148 : a_ins 0 148 = some (.iadd, (0, 0, 0)) := by decide +kernel
theorem i_0_149 : a_ins 0 149 = some (.iaload, (0, 0, 0)) := by decide +kernel
theorem i_0_150 : a_ins 0 150 = some (.invokevirtual 13, (0, 35, 5)) := by decide +kernel
theorem i_0_153 : a_ins 0 153 = some (.pop, (0, 0, 0)) := by decide +kernel
theorem i_0_154 : a_ins 0 154 = some (.aload_n 2, (0, 0, 0)) := by decide +kernel
theorem i_0_155 : a_ins 0 155 = some (.aload_n 0, (0, 0, 0)) := by decide +kernel
theorem i_0_156 : a_ins 0 156 = some (.iload_n 3, (0, 0, 0)) := by decide +kernel
theorem i_0_157 : a_ins 0 157 = some (.iconst 1, (0, 0, 0)) := by decide +kernel
theorem i_0_158 : a_ins 0 158 = some (.iadd, (0, 0, 0)) := by decide +kernel
theorem i_0_159 : a_ins 0 159 = some (.iaload, (0, 0, 0)) := by decide +kernel
theorem i_0_160 : a_ins 0 160 = some (.aload_n 0, (0, 0, 0)) := by decide +kernel
theorem i_0_161 : a_ins 0 161 = some (.iload_n 3, (0, 0, 0)) := by decide +kernel
theorem i_0_162 : a_ins 0 162 = some (.iconst 2, (0, 0, 0)) := by decide +kernel
theorem i_0_163 : a_ins 0 163 = some (.iadd, (0, 0, 0)) := by decide +kernel
theorem i_0_164 : a_ins 0 164 = some (.iaload, (0, 0, 0)) := by decide +kernel
theorem i_0_165 : a_ins 0 165 = some (.aload_n 0, (0, 0, 0)) := by decide +kernel
theorem i_0_166 : a_ins 0 166 = some (.iload_n 3, (0, 0, 0)) := by decide +kernel
theorem i_0_167 : a_ins 0 167 = some (.iconst 3, (0, 0, 0)) := by decide +kernel
theorem i_0_168 : a_ins 0 168 = some (.iadd, (0, 0, 0)) := by decide +kernel
theorem i_0_169 : a_ins 0 169 = some (.iaload, (0, 0, 0)) := by decide +kernel
theorem i_0_170 : a_ins 0 170 = some (.aload_n 0, (0, 0, 0)) := by decide +kernel
theorem i_0_171 : a_ins 0 171 = some (.iload_n 3, (0, 0, 0)) := by decide +kernel
theorem i_0_172 : a_ins 0 172 = some (.iconst 4, (0, 0, 0)) := by decide +kernel
theorem i_0_173 : a_ins 0 173 = some (.iadd, (0, 0, 0)) := by decide +kernel
theorem i_0_174 : a_ins 0 174 = some (.iaload, (0, 0, 0)) := by decide +kernel
theorem i_0_175 : a_ins 0 175 = some (.aload_n 0, (0, 0, 0)) := by decide +kernel
theorem i_0_176 : a_ins 0 176 = some (.iload_n 3, (0, 0, 0)) := by decide +kernel
theorem i_0_177 : a_ins 0 177 = some (.iconst 5, (0, 0, 0)) := by decide +kernel
theorem i_0_178 : a_ins 0 178 = some (.iadd, (0, 0, 0)) := by decide +kernel
theorem i_0_179 : a_ins 0 179 = some (.iaload, (0, 0, 0)) := by decide +kernel
theorem i_0_180 : a_ins 0 180 = some (.invokevirtual 17, (0, 210, 5)) := by decide +kernel
theorem i_0_183 : a_ins 0 183 = some (.pop, (0, 0, 0)) := by decide +kernel
theorem i_0_184 : a_ins 0 184 = some (.goto 477, (0, 0, 0)) := by decide +kernel
theorem i_0_187 : a_ins 0 187 = some (.aload_n 1, (0, 0, 0)) := by decide +kernel
theorem i_0_188 : a_ins 0 188 = some (.aload_n 0, (0, 0, 0)) := by decide +kernel
theorem i_0_189 : a_ins 0 189 = some (.iload_n 3, (0, 0, 0)) := by decide +kernel
theorem i_0_190 : a_ins 0 190 = some (.iconst 1, (0, 0, 0)) := by decide +kernel
theorem i_0_191 : a_ins 0 191 = some (.iadd, (0, 0, 0)) := by decide +kernel
theorem i_0_192 : a_ins 0 192 = some (.iaload, (0, 0, 0)) := by decide +kernel
theorem i_0_193 : a_ins 0 193 = some (.invokevirtual 18, (0, 37, 1)) := by decide +kernel
theorem i_0_196 : a_ins 0 196 = some (.pop, (0, 0, 0)) := by decide +kernel
theorem i_0_197 : a_ins 0 197 = some (.aload_n 2, (0, 0, 0)) := by decide +kernel
theorem i_0_198 : a_ins 0 198 = some (.aload_n 0, (0, 0, 0)) := by decide +kernel
theorem i_0_199 : a_ins 0 199 = some (.iload_n 3, (0, 0, 0)) := by decide +kernel
theorem i_0_200 : a_ins 0 200 = some (.iconst 1, (0, 0, 0)) := by decide +kernel
theorem i_0_201 : a_ins 0 201 = some (.iadd, (0, 0, 0)) := by decide +kernel
theorem i_0_202 : a_ins 0 202 = some (.iaload, (0, 0, 0)) := by decide +kernel
theorem i_0_203 : a_ins 0 203 = some (.invokevirtual 22, (0, 211, 1)) := by decide +kernel
theorem i_0_206 : a_ins 0 206 = some (.pop, (0, 0, 0)) := by decide +kernel
theorem i_0_207 : a_ins 0 207 = some (.goto 454, (0, 0, 0)) := by decide +kernel
theorem i_0_210 : a_ins 0 210 = some (.aload_n 1, (0, 0, 0)) := by decide +kernel
theorem i_0_211 : a_ins 0 211 = some (.invokevirtual 23, (0, 38, 0)) := by decide +kernel
theorem i_0_214 : a_ins 0 214 = some (.pop, (0, 0, 0)) := by decide +kernel
theorem i_0_215 : a_ins 0 215 = some (.aload_n 2, (0, 0, 0)) := by decide +kernel
theorem i_0_216 : a_ins 0 216 = some (.invokevirtual 27, (0, 133, 0)) := by decide +kernel
theorem i_0_219 : a_ins 0 219 = some (.pop, (0, 0, 0)) := by decide +kernel
theorem i_0_220 : a_ins 0 220 = some (.goto 441, (0, 0, 0)) := by decide +kernel
theorem i_0_223 : a_ins 0 223 = some (.aload_n 1, (0, 0, 0)) := by decide +kernel
theorem i_0_224 : a_ins 0 224 = some (.aload_n 0, (0, 0, 0)) := by decide +kernel
theorem i_0_225 : a_ins 0 225 = some (.iload_n 3, (0, 0, 0)) := by decide +kernel
theorem i_0_226 : a_ins 0 226 = some (.iconst 1, (0, 0, 0)) := by decide +kernel
theorem i_0_227 : a_ins 0 227 = some (.iadd, (0, 0, 0)) := by decide +kernel
theorem i_0_228 : a_ins 0 228 = some (.iaload, (0, 0, 0)) := by decide +kernel
theorem i_0_229 : a_ins 0 229 = some (.invokevirtual 28, (0, 68, 1)) := by decide +kernel
theorem i_0_232 : a_ins 0 232 = some (.pop, (0, 0, 0)) := by decide +kernel
theorem i_0_233 : a_ins 0 233 = some (.aload_n 2, (0, 0, 0)) := by decide +kernel
theorem i_0_234 : a_ins 0 234 = some (.aload_n 0, (0, 0, 0)) := by decide +kernel
theorem i_0_235 : a_ins 0 235 = some (.iload_n 3, (0, 0, 0)) := by decide +kernel
theorem i_0_236 : a_ins 0 236 = some (.iconst 1, (0, 0, 0)) := by decide +kernel
theorem i_0_237 : a_ins 0 237 = some (.iadd, (0, 0, 0)) := by decide +kernel
theorem i_0_238 : a_ins 0 238 = some (.iaload, (0, 0, 0)) := by decide +kernel
theorem i_0_239 : a_ins 0 239 = some (.invokevirtual 31, (0, 156, 1)) := by decide +kernel
theorem i_0_242 : a_ins 0 242 = some (.pop, (0, 0, 0)) := by decide +kernel
theorem i_0_243 : a_ins 0 243 = some (.goto 418, (0, 0, 0)) := by decide +kernel
theorem i_0_246 : a_ins 0 246 = some (.aload_n 1, (0, 0, 0)) := by decide +kernel
theorem i_0_247 : a_ins 0 247 = some (.aload_n 0, (0, 0, 0)) := by decide +kernel
theorem i_0_248 : a_ins 0 248 = some (.iload_n 3, (0, 0, 0)) := by decide +kernel
theorem i_0_249 : a_ins 0 249 = some (.iconst 1, (0, 0, 0)) := by decide +kernel
theorem i_0_250 : a_ins 0 250 = some (.iadd, (0, 0, 0)) := by decide +kernel
theorem i_0_251 : a_ins 0 251 = some (.iaload, (0, 0, 0)) := by decide +kernel
theorem i_0_252 : a_ins 0 252 = some (.invokevirtual 32, (0, 72, 1)) := by decide +kernel
theorem i_0_255 : a_ins 0 255 = some (.pop, (0, 0, 0)) := by decide +kernel
theorem i_0_256 : a_ins 0 256 = some (.aload_n 2, (0, 0, 0)) := by decide +kernel
theorem i_0_257 : a_ins 0 257 = some (.aload_n 0, (0, 0, 0)) := by decide +kernel
theorem i_0_258 : a_ins 0 258 = some (.iload_n 3, (0, 0, 0)) := by decide +kernel
theorem i_0_259 : a_ins 0 259 = some (.iconst 1, (0, 0, 0)) := by decide +kernel
theorem i_0_260 : a_ins 0 260 = some (.iadd, (0, 0, 0)) := by decide +kernel
theorem i_0_261 : a_ins 0 261 = some (.iaload, (0, 0, 0)) := by decide +kernel
theorem i_0_262 : a_ins 0 262 = some (.invokevirtual 35, (0, 155, 1)) := by decide +kernel
theorem i_0_265 : a_ins 0 265 = some (.pop, (0, 0, 0)) := by decide +kernel
theorem i_0_266 : a_ins 0 266 = some (.goto 395, (0, 0, 0)) := by decide +kernel
theorem i_0_269 : a_ins 0 269 = some (.aload_n 1, (0, 0, 0)) := by decide +kernel
theorem i_0_270 : a_ins 0 270 = some (.aload_n 0, (0, 0, 0)) := by decide +kernel
theorem i_0_271 : a_ins 0 271 = some (.iload_n 3, (0, 0, 0)) := by decide +kernel
theorem i_0_272 : a_ins 0 272 = some (.iconst 1, (0, 0, 0)) := by decide +kernel
theorem i_0_273 : a_ins 0 273 = some (.iadd, (0, 0, 0)) := by decide +kernel
theorem i_0_274 : a_ins 0 274 = some (.iaload, (0, 0, 0)) := by decide +kernel
theorem i_0_275 : a_ins 0 275 = some (.invokevirtual 36, (0, 73, 1)) := by decide +kernel
theorem i_0_278 : a_ins 0 278 = some (.aload_n 2, (0, 0, 0)) := by decide +kernel
theorem i_0_279 : a_ins 0 279 = some (.aload_n 0, (0, 0, 0)) := by decide +kernel
theorem i_0_280 : a_ins 0 280 = some (.iload_n 3, (0, 0, 0)) := by decide +kernel
theorem i_0_281 : a_ins 0 281 = some (.iconst 1, (0, 0, 0)) := by decide +kernel
theorem i_0_282 : a_ins 0 282 = some (.iadd, (0, 0, 0)) := by decide +kernel
theorem i_0_283 : a_ins 0 283 = some (.iaload, (0, 0, 0)) := by decide +kernel
theorem i_0_284 : a_ins 0 284 = some (.invokevirtual 40, (0, 158, 1)) := by decide +kernel
theorem i_0_287 : a_ins 0 287 = some (.if_icmp .eq 374, (0, 0, 0)) := by decide +kernel
theorem i_0_290 : a_ins 0 290 = some (.iconst 0, (0, 0, 0)) := by decide +kernel
theorem i_0_291 : a_ins 0 291 = some (.ireturn, (0, 0, 0)) := by decide +kernel
theorem i_0_292 : a_ins 0 292 = some (.aload_n 1, (0, 0, 0)) := by decide +kernel
theorem i_0_293 : a_ins 0 293 = some (.aload_n 0, (0, 0, 0)) := by decide +kernel
theorem i_0_294 : a_ins 0 294 = some (.iload_n 3, (0, 0, 0)) := by decide +kernel
theorem i_0_295 : a_ins 0 295 = some (.iconst 1, (0, 0, 0)) := by decide +kernel
theorem i_0_296 : a_ins 0 296 = some (.iadd, (0, 0, 0)) := by decide +kernel
theorem i_0_297 : a_ins 0 297 = some (.iaload, (0, 0, 0)) := by decide +kernel
theorem i_0_298 : a_ins 0 298 = some (.invokevirtual 41, (0, 74, 1)) := by decide +kernel
theorem i_0_301 : a_ins 0 301 = some (.pop, (0, 0, 0)) := by decide +kernel
theorem i_0_302 : a_ins 0 302 = some (.aload_n 2, (0, 0, 0)) := by decide +kernel
theorem i_0_303 : a_ins 0 303 = some (.aload_n 0, (0, 0, 0)) := by decide +kernel
theorem i_0_304 : a_ins 0 304 = some (.iload_n 3, (0, 0, 0)) := by decide +kernel
theorem i_0_305 : a_ins 0 305 = some (.iconst 1, (0, 0, 0)) := by decide +kernel
theorem i_0_306 : a_ins 0 306 = some (.iadd, (0, 0, 0)) := by decide +kernel
theorem i_0_307 : a_ins 0 307 = some (.iaload, (0, 0, 0)) := by decide +kernel
theorem i_0_308 : a_ins 0 308 = some (.invokevirtual 44, (0, 159, 1)) := by decide +kernel
theorem i_0_311 : a_ins 0 311 = some (.pop, (0, 0, 0)) := by decide +kernel
theorem i_0_312 : a_ins 0 312 = some (.goto 349, (0, 0, 0)) := by decide +kernel
theorem i_0_315 : a_ins 0 315 = some (.aload_n 1, (0, 0, 0)) := by decide +kernel
theorem i_0_316 : a_ins 0 316 = some (.aload_n 0, (0, 0, 0)) := by decide +kernel
theorem i_0_317 : a_ins 0 317 = some (.iload_n 3, (0, 0, 0)) := by decide +kernel
theorem i_0_318 : a_ins 0 318 = some (.iconst 1, (0, 0, 0)) := by decide +kernel
theorem i_0_319 : a_ins 0 319 = some (.iadd, (0, 0, 0)) := by decide +kernel
theorem i_0_320 : a_ins 0 320 = some (.iaload, (0, 0, 0)) := by decide +kernel
theorem i_0_321 : a_ins 0 321 = some (.aload_n 0, (0, 0, 0)) := by decide +kernel
theorem i_0_322 : a_ins 0 322 = some (.iload_n 3, (0, 0, 0)) := by decide +kernel
theorem i_0_323 : a_ins 0 323 = some (.iconst 2, (0, 0, 0)) := by decide +kernel
theorem i_0_324 : a_ins 0 324 = some (.iadd, (0, 0, 0)) := by decide +kernel
theorem i_0_325 : a_ins 0 325 = some (.iaload, (0, 0, 0)) := by decide +kernel
theorem i_0_326 : a_ins 0 326 = some (.aload_n 0, (0, 0, 0)) := by decide +kernel
theorem i_0_327 : a_ins 0 327 = some (.iload_n 3, (0, 0, 0)) := by decide +kernel
theorem i_0_328 : a_ins 0 328 = some (.iconst 3, (0, 0, 0)) := by decide +kernel
theorem i_0_329 : a_ins 0 329 = some (.iadd, (0, 0, 0)) := by decide +kernel
theorem i_0_330 : a_ins 0 330 = some (.iaload, (0, 0, 0)) := by decide +kernel
theorem i_0_331 : a_ins 0 331 = some (.invokevirtual 45, (0, 76, 3)) := by decide +kernel
theorem i_0_334 : a_ins 0 334 = some (.pop, (0, 0, 0)) := by decide +kernel
theorem i_0_335 : a_ins 0 335 = some (.aload_n 2, (0, 0, 0)) := by decide +kernel
theorem i_0_336 : a_ins 0 336 = some (.aload_n 0, (0, 0, 0)) := by decide +kernel
theorem i_0_337 : a_ins 0 337 = some (.iload_n 3, (0, 0, 0)) := by decide +kernel
theorem i_0_338 : a_ins 0 338 = some (.iconst 1, (0, 0, 0)) := by decide +kernel
theorem i_0_339 : a_ins 0 339 = some (.iadd, (0, 0, 0)) := by decide +kernel
theorem i_0_340 : a_ins 0 340 = some (.iaload, (0, 0, 0)) := by decide +kernel
theorem i_0_341 : a_ins 0 341 = some (.aload_n 0, (0, 0, 0)) := by decide +kernel
theorem i_0_342 : a_ins 0 342 = some (.iload_n 3, (0, 0, 0)) := by decide +kernel
theorem i_0_343 : a_ins 0 343 = some (.iconst 2, (0, 0, 0)) := by decide +kernel
theorem i_0_344 : a_ins 0 344 = some (.iadd, (0, 0, 0)) := by decide +kernel
theorem i_0_345 : a_ins 0 345 = some (.iaload, (0, 0, 0)) := by decide +kernel
theorem i_0_346 : a_ins 0 346 = some (.aload_n 0, (0, 0, 0)) := by decide +kernel
theorem i_0_347 : a_ins 0 347 = some (.iload_n 3, (0, 0, 0)) := by decide +kernel
theorem i_0_348 : a_ins 0 348 = some (.iconst 3, (0, 0, 0)) := by decide +kernel
theorem i_0_349 : a_ins 0 349 = some (.iadd, (0, 0, 0)) := by decide +kernel
theorem i_0_350 : a_ins 0 350 = some (.iaload, (0, 0, 0)) := by decide +kernel
theorem i_0_351 : a_ins 0 351 = some (.invokevirtual 49, (0, 184, 3)) := by decide +kernel
theorem i_0_354 : a_ins 0 354 = some (.pop, (0, 0, 0)) := by decide +kernel
theorem i_0_355 : a_ins 0 355 = some (.goto 306, (0, 0, 0)) := by decide +kernel
theorem i_0_358 : a_ins 0 358 = some (.aload_n 1, (0, 0, 0)) := by decide +kernel
theorem i_0_359 : a_ins 0 359 = some (.aload_n 0, (0, 0, 0)) := by decide +kernel
theorem i_0_360 : a_ins 0 360 = some (.iload_n 3, (0, 0, 0)) := by decide +kernel
theorem i_0_361 : a_ins 0 361 = some (.iconst 1, (0, 0, 0)) := by decide +kernel
theorem i_0_362 : a_ins 0 362 = some (.iadd, (0, 0, 0)) := by decide +kernel
theorem i_0_363 : a_ins 0 363 = some (.iaload, (0, 0, 0)) := by decide +kernel
theorem i_0_364 : a_ins 0 364 = some (.aload_n 0, (0, 0, 0)) := by decide +kernel
theorem i_0_365 : a_ins 0 365 = some (.iload_n 3, (0, 0, 0)) := by decide +kernel
theorem i_0_366 : a_ins 0 366 = some (.iconst 2, (0, 0, 0)) := by decide +kernel
theorem i_0_367 : a_ins 0 367 = some (.iadd, (0, 0, 0)) := by decide +kernel
theorem i_0_368 : a_ins 0 368 = some (.iaload, (0, 0, 0)) := by decide +kernel
theorem i_0_369 : a_ins 0 369 = some (.aload_n 0, (0, 0, 0)) := by decide +kernel
theorem i_0_370 : a_ins 0 370 = some (.iload_n 3, (0, 0, 0)) := by decide +kernel
theorem i_0_371 : a_ins 0 371 = some (.iconst 3, (0, 0, 0)) := by decide +kernel
theorem i_0_372 : a_ins 0 372 = some (.iadd, (0, 0, 0)) := by decide +kernel
theorem i_0_373 : a_ins 0 373 = some (.iaload, (0, 0, 0)) := by decide +kernel
theorem i_0_374 : a_ins 0 374 = some (.invokevirtual 50, (0, 99, 3)) := by decide +kernel
theorem i_0_377 : a_ins 0 377 = some (.pop, (0, 0, 0)) := by decide +kernel
theorem i_0_378 : a_ins 0 378 = some (.aload_n 2, (0, 0, 0)) := by decide +kernel
theorem i_0_379 : a_ins 0 379 = some (.aload_n 0, (0, 0, 0)) := by decide +kernel
theorem i_0_380 : a_ins 0 380 = some (.iload_n 3, (0, 0, 0)) := by decide +kernel
theorem i_0_381 : a_ins 0 381 = some (.iconst 1, (0, 0, 0)) := by decide +kernel
theorem i_0_382 : a_ins 0 382 = some (.iadd, (0, 0, 0)) := by decide +kernel
theorem i_0_383 : a_ins 0 383 = some (.iaload, (0, 0, 0)) := by decide +kernel
theorem i_0_384 : a_ins 0 384 = some (.aload_n 0, (0, 0, 0)) := by decide +kernel
theorem i_0_385 : a_ins 0 385 = some (.iload_n 3, (0, 0, 0)) := by decide +kernel
theorem i_0_386 : a_ins 0 386 = some (.iconst 2, (0, 0, 0)) := by decide +kernel
theorem i_0_387 : a_ins 0 387 = some (.iadd, (0, 0, 0)) := by decide +kernel
theorem i_0_388 : a_ins 0 388 = some (.iaload, (0, 0, 0)) := by decide +kernel
theorem i_0_389 : a_ins 0 389 = some (.aload_n 0, (0, 0, 0)) := by decide +kernel
theorem i_0_390 : a_ins 0 390 = some (.iload_n 3, (0, 0, 0)) := by decide +kernel
theorem i_0_391 : a_ins 0 391 = some (.iconst 3, (0, 0, 0)) := by decide +kernel
theorem i_0_392 : a_ins 0 392 = some (.iadd, (0, 0, 0)) := by decide +kernel
theorem i_0_393 : a_ins 0 393 = some (.iaload, (0, 0, 0)) := by decide +kernel
theorem i_0_394 : a_ins 0 394 = some (.invokevirtual 53, (0, 188, 3)) := by decide +kernel
theorem i_0_397 : a_ins 0 397 = some (.pop, (0, 0, 0)) := by decide +kernel
theorem i_0_398 : a_ins 0 398 = some (.goto 263, (0, 0, 0)) := by decide +kernel
theorem i_0_401 : a_ins 0 401 = some (.aload_n 1, (0, 0, 0)) := by decide +kernel
theorem i_0_402 : a_ins 0 402 = some (.invokevirtual 54, (0, 100, 0)) := by decide +kernel
theorem i_0_405 : a_ins 0 405 = some (.pop, (0, 0, 0)) := by decide +kernel
theorem i_0_406 : a_ins 0 406 = some (.aload_n 2, (0, 0, 0)) := by decide +kernel
theorem i_0_407 : a_ins 0 407 = some (.invokevirtual 57, (0, 189, 0)) := by decide +kernel
theorem i_0_410 : a_ins 0 410 = some (.pop, (0, 0, 0)) := by decide +kernel
theorem i_0_411 : a_ins 0 411 = some (.goto 250, (0, 0, 0)) := by decide +kernel
theorem i_0_414 : a_ins 0 414 = some (.aload_n 1, (0, 0, 0)) := by decide +kernel
theorem i_0_415 : a_ins 0 415 = some (.aload_n 0, (0, 0, 0)) := by decide +kernel
theorem i_0_416 : a_ins 0 416 = some (.iload_n 3, (0, 0, 0)) := by decide +kernel
theorem i_0_417 : a_ins 0 417 = some (.iconst 1, (0, 0, 0)) := by decide +kernel
theorem i_0_418 : a_ins 0 418 = some (.iadd, (0, 0, 0)) := by decide +kernel
theorem i_0_419 : a_ins 0 419 = some (.iaload, (0, 0, 0)) := by decide +kernel
theorem i_0_420 : a_ins 0 420 = some (.invokevirtual 58, (0, 102, 1)) := by decide +kernel
theorem i_0_423 : a_ins 0 423 = some (.pop, (0, 0, 0)) := by decide +kernel
theorem i_0_424 : a_ins 0 424 = some (.aload_n 2, (0, 0, 0)) := by decide +kernel
theorem i_0_425 : a_ins 0 425 = some (.aload_n 0, (0, 0, 0)) := by decide +kernel
theorem i_0_426 : a_ins 0 426 = some (.iload_n 3, (0, 0, 0)) := by decide +kernel
theorem i_0_427 : a_ins 0 427 = some (.iconst 1, (0, 0, 0)) := by decide +kernel
theorem i_0_428 : a_ins 0 428 = some (.iadd, (0, 0, 0)) := by decide +kernel
theorem i_0_429 : a_ins 0 429 = some (.iaload, (0, 0, 0)) := by decide +kernel
theorem i_0_430 : a_ins 0 430 = some (.invokevirtual 61, (0, 190, 1)) := by decide +kernel
theorem i_0_433 : a_ins 0 433 = some (.pop, (0, 0, 0)) := by decide +kernel
theorem i_0_434 : a_ins 0 434 = some (.goto 227, (0, 0, 0)) := by decide +kernel
theorem i_0_437 : a_ins 0 437 = some (.aload_n 1, (0, 0, 0)) := by decide +kernel
theorem i_0_438 : a_ins 0 438 = some (.aload_n 0, (0, 0, 0)) := by decide +kernel
theorem i_0_439 : a_ins 0 439 = some (.iload_n 3, (0, 0, 0)) := by decide +kernel
theorem i_0_440 : a_ins 0 440 = some (.iconst 1, (0, 0, 0)) := by decide +kernel
theorem i_0_441 : a_ins 0 441 = some (.iadd, (0, 0, 0)) := by decide +kernel
theorem i_0_442 : a_ins 0 442 = some (.iaload, (0, 0, 0)) := by decide +kernel
theorem i_0_443 : a_ins 0 443 = some (.invokevirtual 62, (0, 103, 1)) := by decide +kernel
theorem i_0_446 : a_ins 0 446 = some (.pop2, (0, 0, 0)) := by decide +kernel
theorem i_0_447 : a_ins 0 447 = some (.aload_n 2, (0, 0, 0)) := by decide +kernel
theorem i_0_448 : a_ins 0 448 = some (.aload_n 0, (0, 0, 0)) := by decide +kernel
theorem i_0_449 : a_ins 0 449 = some (.iload_n 3, (0, 0, 0)) := by decide +kernel
theorem i_0_450 : a_ins 0 450 = some (.iconst 1, (0, 0, 0)) := by decide +kernel
theorem i_0_451 : a_ins 0 451 = some (.iadd, (0, 0, 0)) := by decide +kernel
theorem i_0_452 : a_ins 0 452 = some (.iaload, (0, 0, 0)) := by decide +kernel
theorem i_0_453 : a_ins 0 453 = some (.invokevirtual 66, (0, 193, 1)) := by decide +kernel
theorem i_0_456 : a_ins 0 456 = some (.pop2, (0, 0, 0)) := by decide +kernel
theorem i_0_457 : a_ins 0 457 = some (.goto 204, (0, 0, 0)) := by decide +kernel
theorem i_0_460 : a_ins 0 460 = some (.aload_n 1, (0, 0, 0)) := by decide +kernel
theorem i_0_461 : a_ins 0 461 = some (.aload_n 0, (0, 0, 0)) := by decide +kernel
theorem i_0_462 : a_ins 0 462 = some (.iload_n 3, (0, 0, 0)) := by decide +kernel
theorem i_0_463 : a_ins 0 463 = some (.iconst 1, (0, 0, 0)) := by decide +kernel
theorem i_0_464 : a_ins 0 464 = some (.iadd, (0, 0, 0)) := by decide +kernel
theorem i_0_465 : a_ins 0 465 = some (.iaload, (0, 0, 0)) := by decide +kernel
theorem i_0_466 : a_ins 0 466 = some (.aload_n 0, (0, 0, 0)) := by decide +kernel
theorem i_0_467 : a_ins 0 467 = some (.iload_n 3, (0, 0, 0)) := by decide +kernel
theorem i_0_468 : a_ins 0 468 = some (.iconst 2, (0, 0, 0)) := by decide +kernel
theorem i_0_469 : a_ins 0 469 = some (.iadd, (0, 0, 0)) := by decide +kernel
theorem i_0_470 : a_ins 0 470 = some (.iaload, (0, 0, 0)) := by decide +kernel
theorem i_0_471 : a_ins 0 471 = some (.invokevirtual 67, (0, 115, 2)) := by decide +kernel
theorem i_0_474 : a_ins 0 474 = some (.pop, (0, 0, 0)) := by decide +kernel
theorem i_0_475 : a_ins 0 475 = some (.aload_n 2, (0, 0, 0)) := by decide +kernel
theorem i_0_476 : a_ins 0 476 = some (.aload_n 0, (0, 0, 0)) := by decide +kernel
theorem i_0_477 : a_ins 0 477 = some (.iload_n 3, (0, 0, 0)) := by decide +kernel
theorem i_0_478 : a_ins 0 478 = some (.iconst 1, (0, 0, 0)) := by decide +kernel
theorem i_0_479 : a_ins 0 479 = some (.iadd, (0, 0, 0)) := by decide +kernel
theorem i_0_480 : a_ins 0 480 = some (.iaload, (0, 0, 0)) := by decide +kernel
theorem i_0_481 : a_ins 0 481 = some (.aload_n 0, (0, 0, 0)) := by decide +kernel
theorem i_0_482 : a_ins 0 482 = some (.iload_n 3, (0, 0, 0)) := by decide +kernel
theorem i_0_483 : a_ins 0 483 = some (.iconst 2, (0, 0, 0)) := by decide +kernel
theorem i_0_484 : a_ins 0 484 = some (.iadd, (0, 0, 0)) := by decide +kernel
theorem i_0_485 : a_ins 0 485 = some (.iaload, (0, 0, 0)) := by decide +kernel
theorem i_0_486 : a_ins 0 486 = some (.invokevirtual 71, (0, 200, 2)) := by decide +kernel
theorem i_0_489 : a_ins 0 489 = some (.pop, (0, 0, 0)) := by decide +kernel
theorem i_0_490 : a_ins 0 490 = some (.goto 171, (0, 0, 0)) := by decide +kernel
theorem i_0_493 : a_ins 0 493 = some (.aload_n 1, (0, 0, 0)) := by decide +kernel
theorem i_0_494 : a_ins 0 494 = some (.aload_n 0, (0, 0, 0)) := by decide +kernel
theorem i_0_495 : a_ins 0 495 = some (.iload_n 3, (0, 0, 0)) := by decide +kernel
theorem i_0_496 : a_ins 0 496 = some (.iconst 1, (0, 0, 0)) := by decide +kernel
theorem i_0_497 : a_ins 0 497 = some (.iadd, (0, 0, 0)) := by decide +kernel
theorem i_0_498 : a_ins 0 498 = some (.iaload, (0, 0, 0)) := by decide +kernel
theorem i_0_499 : a_ins 0 499 = some (.aload_n 0, (0, 0, 0)) := by decide +kernel
theorem i_0_500 : a_ins 0 500 = some (.iload_n 3, (0, 0, 0)) := by decide +kernel
theorem i_0_501 : a_ins 0 501 = some (.iconst 2, (0, 0, 0)) := by decide +kernel
theorem i_0_502 : a_ins 0 502 = some (.iadd, (0, 0, 0)) := by decide +kernel
theorem i_0_503 : a_ins 0 503 = some (.iaload, (0, 0, 0)) := by decide +kernel
theorem i_0_504 : a_ins 0 504 = some (.invokevirtual 72, (0, 120, 2)) := by decide +kernel
theorem i_0_507 : a_ins 0 507 = some (.pop, (0, 0, 0)) := by decide +kernel
theorem i_0_508 : a_ins 0 508 = some (.aload_n 2, (0, 0, 0)) := by decide +kernel
theorem i_0_509 : a_ins 0 509 = some (.aload_n 0, (0, 0, 0)) := by decide +kernel
theorem i_0_510 : a_ins 0 510 = some (.iload_n 3, (0, 0, 0)) := by decide +kernel
theorem i_0_511 : a_ins 0 511 = some (.iconst 1, (0, 0, 0)) := by decide +kernel
theorem i_0_512 : a_ins 0 512 = some (.iadd, (0, 0, 0)) := by decide +kernel
theorem i_0_513 : a_ins 0 513 = some (.iaload, (0, 0, 0)) := by decide +kernel
theorem i_0_514 : a_ins 0 514 = some (.aload_n 0, (0, 0, 0)) := by decide +kernel
theorem i_0_515 : a_ins 0 515 = some (.iload_n 3, (0, 0, 0)) := by decide +kernel
theorem i_0_516 : a_ins 0 516 = some (.iconst 2, (0, 0, 0)) := by decide +kernel
theorem i_0_517 : a_ins 0 517 = some (.iadd, (0, 0, 0)) := by decide +kernel
theorem i_0_518 : a_ins 0 518 = some (.iaload, (0, 0, 0)) := by decide +kernel
theorem i_0_519 : a_ins 0 519 = some (.invokevirtual 75, (0, 204, 2)) := by decide +kernel
theorem i_0_522 : a_ins 0 522 = some (.pop, (0, 0, 0)) := by decide +kernel
theorem i_0_523 : a_ins 0 523 = some (.goto 138, (0, 0, 0)) := by decide +kernel
theorem i_0_526 : a_ins 0 526 = some (.aload_n 1, (0, 0, 0)) := by decide +kernel
theorem i_0_527 : a_ins 0 527 = some (.aload_n 0, (0, 0, 0)) := by decide +kernel
theorem i_0_528 : a_ins 0 528 = some (.iload_n 3, (0, 0, 0)) := by decide +kernel
theorem i_0_529 : a_ins 0 529 = some (.iconst 1, (0, 0, 0)) := by decide +kernel
theorem i_0_530 : a_ins 0 530 = some (.iadd, (0, 0, 0)) := by decide +kernel
theorem i_0_531 : a_ins 0 531 = some (.iaload, (0, 0, 0)) := by decide +kernel
theorem i_0_532 : a_ins 0 532 = some (.aload_n 0, (0, 0, 0)) := by decide +kernel
theorem i_0_533 : a_ins 0 533 = some (.iload_n 3, (0, 0, 0)) := by decide +kernel
theorem i_0_534 : a_ins 0 534 = some (.iconst 2, (0, 0, 0)) := by decide +kernel
theorem i_0_535 : a_ins 0 535 = some (.iadd, (0, 0, 0)) := by decide +kernel
theorem i_0_536 : a_ins 0 536 = some (.iaload, (0, 0, 0)) := by decide +kernel
theorem i_0_537 : a_ins 0 537 = some (.invokevirtual 76, (0, 123, 2)) := by decide +kernel
theorem i_0_540 : a_ins 0 540 = some (.pop, (0, 0, 0)) := by decide +kernel
theorem i_0_541 : a_ins 0 541 = some (.aload_n 2, (0, 0, 0)) := by decide +kernel
theorem i_0_542 : a_ins 0 542 = some (.aload_n 0, (0, 0, 0)) := by decide +kernel
theorem i_0_543 : a_ins 0 543 = some (.iload_n 3, (0, 0, 0)) := by decide +kernel
theorem i_0_544 : a_ins 0 544 = some (.iconst 1, (0, 0, 0)) := by decide +kernel
theorem i_0_545 : a_ins 0 545 = some (.iadd, (0, 0, 0)) := by decide +kernel
theorem i_0_546 : a_ins 0 546 = some (.iaload, (0, 0, 0)) := by decide +kernel
theorem i_0_547 : a_ins 0 547 = some (.aload_n 0, (0, 0, 0)) := by decide +kernel
theorem i_0_548 : a_ins 0 548 = some (.iload_n 3, (0, 0, 0)) := by decide +kernel
theorem i_0_549 : a_ins 0 549 = some (.iconst 2, (0, 0, 0)) := by decide +kernel
theorem i_0_550 : a_ins 0 550 = some (.iadd, (0, 0, 0)) := by decide +kernel
theorem i_0_551 : a_ins 0 551 = some (.iaload, (0, 0, 0)) := by decide +kernel
theorem i_0_552 : a_ins 0 552 = some (.invokevirtual 79, (0, 206, 2)) := by decide +kernel
theorem i_0_555 : a_ins 0 555 = some (.pop, (0, 0, 0)) := by decide +kernel
theorem i_0_556 : a_ins 0 556 = some (.goto 105, (0, 0, 0)) := by decide +kernel
theorem i_0_559 : a_ins 0 559 = some (.aload_n 1, (0, 0, 0)) := by decide +kernel
theorem i_0_560 : a_ins 0 560 = some (.aload_n 0, (0, 0, 0)) := by decide +kernel
theorem i_0_561 : a_ins 0 561 = some (.iload_n 3, (0, 0, 0)) := by decide +kernel
theorem i_0_562 : a_ins 0 562 = some (.iconst 1, (0, 0, 0)) := by decide +kernel
theorem i_0_563 : a_ins 0 563 = some (.iadd, (0, 0, 0)) := by decide +kernel
theorem i_0_564 : a_ins 0 564 = some (.iaload, (0, 0, 0)) := by decide +kernel
theorem i_0_565 : a_ins 0 565 = some (.invokevirtual 80, (0, 125, 1)) := by decide +kernel
theorem i_0_568 : a_ins 0 568 = some (.pop, (0, 0, 0)) := by decide +kernel
theorem i_0_569 : a_ins 0 569 = some (.aload_n 2, (0, 0, 0)) := by decide +kernel
theorem i_0_570 : a_ins 0 570 = some (.aload_n 0, (0, 0, 0)) := by decide +kernel
theorem i_0_571 : a_ins 0 571 = some (.iload_n 3, (0, 0, 0)) := by decide +kernel
theorem i_0_572 : a_ins 0 572 = some (.iconst 1, (0, 0, 0)) := by decide +kernel
theorem i_0_573 : a_ins 0 573 = some (.iadd, (0, 0, 0)) := by decide +kernel
theorem i_0_574 : a_ins 0 574 = some (.iaload, (0, 0, 0)) := by decide +kernel
theorem i_0_575 : a_ins 0 575 = some (.invokevirtual 83, (0, 207, 1)) := by decide +kernel
theorem i_0_578 : a_ins 0 578 = some (.pop, (0, 0, 0)) := by decide +kernel
theorem i_0_579 : a_ins 0 579 = some (.goto 82, (0, 0, 0)) := by decide +kernel
theorem i_0_582 : a_ins 0 582 = some (.aload_n 1, (0, 0, 0)) := by decide +kernel
theorem i_0_583 : a_ins 0 583 = some (.aload_n 0, (0, 0, 0)) := by decide +kernel
theorem i_0_584 : a_ins 0 584 = some (.iload_n 3, (0, 0, 0)) := by decide +kernel
theorem i_0_585 : a_ins 0 585 = some (.iconst 1, (0, 0, 0)) := by decide +kernel
theorem i_0_586 : a_ins 0 586 = some (.iadd, (0, 0, 0)) := by decide +kernel
theorem i_0_587 : a_ins 0 587 = some (.iaload, (0, 0, 0)) := by decide +kernel
theorem i_0_588 : a_ins 0 588 = some (.invokevirtual 84, (0, 127, 1)) := by decide +kernel
theorem i_0_591 : a_ins 0 591 = some (.pop, (0, 0, 0)) := by decide +kernel
theorem i_0_592 : a_ins 0 592 = some (.aload_n 2, (0, 0, 0)) := by decide +kernel
theorem i_0_593 : a_ins 0 593 = some (.aload_n 0, (0, 0, 0)) := by decide +kernel
theorem i_0_594 : a_ins 0 594 = some (.iload_n 3, (0, 0, 0)) := by decide +kernel
theorem i_0_595 : a_ins 0 595 = some (.iconst 1, (0, 0, 0)) := by decide +kernel
theorem i_0_596 : a_ins 0 596 = some (.iadd, (0, 0, 0)) := by decide +kernel
theorem i_0_597 : a_ins 0 597 = some (.iaload, (0, 0, 0)) := by decide +kernel
theorem i_0_598 : a_ins 0 598 = some (.invokevirtual 87, (0, 205, 1)) := by decide +kernel
theorem i_0_601 : a_ins 0 601 = some (.pop, (0, 0, 0)) := by decide +kernel
theorem i_0_602 : a_ins 0 602 = some (.goto 59, (0, 0, 0)) := by decide +kernel
theorem i_0_605 : a_ins 0 605 = some (.aload_n 1, (0, 0, 0)) := by decide +kernel
theorem i_0_606 : a_ins 0 606 = some (.aload_n 0, (0, 0, 0)) := by decide +kernel
theorem i_0_607 : a_ins 0 607 = some (.iload_n 3, (0, 0, 0)) := by decide +kernel
theorem i_0_608 : a_ins 0 608 = some (.iconst 1, (0, 0, 0)) := by decide +kernel
theorem i_0_609 : a_ins 0 609 = some (.iadd, (0, 0, 0)) := by decide +kernel
theorem i_0_610 : a_ins 0 610 = some (.iaload, (0, 0, 0)) := by decide +kernel
theorem i_0_611 : a_ins 0 611 = some (.aload_n 0, (0, 0, 0)) := by decide +kernel
theorem i_0_612 : a_ins 0 612 = some (.iload_n 3, (0, 0, 0)) := by decide +kernel
theorem i_0_613 : a_ins 0 613 = some (.iconst 2, (0, 0, 0)) := by decide +kernel
theorem i_0_614 : a_ins 0 614 = some (.iadd, (0, 0, 0)) := by decide +kernel
theorem i_0_615 : a_ins 0 615 = some (.iaload, (0, 0, 0)) := by decide +kernel
theorem i_0_616 : a_ins 0 616 = some (.invokevirtual 88, (0, 130, 2)) := by decide +kernel
theorem i_0_619 : a_ins 0 619 = some (.pop, (0, 0, 0)) := by decide +kernel
theorem i_0_620 : a_ins 0 620 = some (.aload_n 2, (0, 0, 0)) := by decide +kernel
theorem i_0_621 : a_ins 0 621 = some (.aload_n 0, (0, 0, 0)) := by decide +kernel
theorem i_0_622 : a_ins 0 622 = some (.iload_n 3, (0, 0, 0)) := by decide +kernel
theorem i_0_623 : a_ins 0 623 = some (.iconst 1, (0, 0, 0)) := by decide +kernel
theorem i_0_624 : a_ins 0 624 = some (.iadd, (0, 0, 0)) := by decide +kernel
theorem i_0_625 : a_ins 0 625 = some (.iaload, (0, 0, 0)) := by decide +kernel
theorem i_0_626 : a_ins 0 626 = some (.aload_n 0, (0, 0, 0)) := by decide +kernel
theorem i_0_627 : a_ins 0 627 = some (.iload_n 3, (0, 0, 0)) := by decide +kernel
theorem i_0_628 : a_ins 0 628 = some (.iconst 2, (0, 0, 0)) := by decide +kernel
theorem i_0_629 : a_ins 0 629 = some (.iadd, (0, 0, 0)) := by decide +kernel
theorem i_0_630 : a_ins 0 630 = some (.iaload, (0, 0, 0)) := by decide +kernel
theorem i_0_631 : a_ins 0 631 = some (.invokevirtual 91, (0, 208, 2)) := by decide +kernel
theorem i_0_634 : a_ins 0 634 = some (.pop, (0, 0, 0)) := by decide +kernel
theorem i_0_635 : a_ins 0 635 = some (.goto 26, (0, 0, 0)) := by decide +kernel
theorem i_0_638 : a_ins 0 638 = some (.aload_n 1, (0, 0, 0)) := by decide +kernel
theorem i_0_639 : a_ins 0 639 = some (.aload_n 0, (0, 0, 0)) := by decide +kernel
theorem i_0_640 : a_ins 0 640 = some (.iload_n 3, (0, 0, 0)) := by decide +kernel
theorem i_0_641 : a_ins 0 641 = some (.iconst 1, (0, 0, 0)) := by decide +kernel
theorem i_0_642 : a_ins 0 642 = some (.iadd, (0, 0, 0)) := by decide +kernel
theorem i_0_643 : a_ins 0 643 = some (.iaload, (0, 0, 0)) := by decide +kernel
theorem i_0_644 : a_ins 0 644 = some (.invokevirtual 92, (0, 131, 1)) := by decide +kernel
theorem i_0_647 : a_ins 0 647 = some (.pop, (0, 0, 0)) := by decide +kernel
theorem i_0_648 : a_ins 0 648 = some (.aload_n 2, (0, 0, 0)) := by decide +kernel
theorem i_0_649 : a_ins 0 649 = some (.aload_n 0, (0, 0, 0)) := by decide +kernel
theorem i_0_650 : a_ins 0 650 = some (.iload_n 3, (0, 0, 0)) := by decide +kernel
theorem i_0_651 : a_ins 0 651 = some (.iconst 1, (0, 0, 0)) := by decide +kernel
theorem i_0_652 : a_ins 0 652 = some (.iadd, (0, 0, 0)) := by decide +kernel
theorem i_0_653 : a_ins 0 653 = some (.iaload, (0, 0, 0)) := by decide +kernel
theorem i_0_654 : a_ins 0 654 = some (.invokevirtual 95, (0, 209, 1)) := by decide +kernel
theorem i_0_657 : a_ins 0 657 = some (.pop, (0, 0, 0)) := by decide +kernel
theorem i_0_658 : a_ins 0 658 = some (.goto 3, (0, 0, 0)) := by decide +kernel
theorem i_0_661 : a_ins 0 661 = some (.iinc 3 6, (0, 0, 0)) := by decide +kernel
theorem i_0_664 : a_ins 0 664 = some (.goto (-646), (0, 0, 0)) := by decide +kernel
theorem i_0_667 : a_ins 0 667 = some (.iconst 1, (0, 0, 0)) := by decide +kernel
theorem i_0_668 : a_ins 0 668 = some (.ireturn, (0, 0, 0)) := by decide +kernel
theorem i_1_0 : a_ins 1 0 = some (.aload_n 0, (0, 0, 0)) := by decide +kernel
theorem i_1_1 : a_ins 1 1 = some (.invokespecial 3, (4, 0, 0)) := by decide +kernel
theorem i_1_4 : a_ins 1 4 = some (.aload_n 0, (0, 0, 0)) := by decide +kernel
theorem i_1_5 : a_ins 1 5 = some (.sipush 2000, (0, 0, 0)) := by decide +kernel
theorem i_1_8 : a_ins 1 8 = some (.newarray .char, (0, 0, 0)) := by decide +kernel
theorem i_1_10 : a_ins 1 10 = some (.putfield 9, (10, 0, 728)) := by decide +kernel
theorem i_1_13 : a_ins 1 13 = some (.aload_n 0, (0, 0, 0)) := by decide +kernel
theorem i_1_14 : a_ins 1 14 = some (.new 13, (1, 10, 131)) := by decide +kernel
theorem i_1_17 : a_ins 1 17 = some (.dup, (0, 0, 0)) := by decide +kernel
theorem i_1_18 : a_ins 1 18 = some (.aload_n 0, (0, 0, 0)) := by decide +kernel
theorem i_1_19 : a_ins 1 19 = some (.getfield 9, (10, 0, 728)) := by decide +kernel
theorem i_1_22 : a_ins 1 22 = some (.invokespecial 15, (2, 2, 1)) := by decide +kernel
theorem i_1_25 : a_ins 1 25 = some (.putfield 18, (10, 1, 729)) := by decide +kernel
theorem i_1_28 : a_ins 1 28 = some (.aload_n 0, (0, 0, 0)) := by decide +kernel
theorem i_1_29 : a_ins 1 29 = some (.new 22, (4, 4, 311)) := by decide +kernel
theorem i_1_32 : a_ins 1 32 = some (.dup, (0, 0, 0)) := by decide +kernel
theorem i_1_33 : a_ins 1 33 = some (.invokespecial 24, (3, 6, 0)) := by decide +kernel
theorem i_1_36 : a_ins 1 36 = some (.putfield 25, (10, 2, 730)) := by decide +kernel
theorem i_1_39 : a_ins 1 39 = some (.aload_n 0, (0, 0, 0)) := by decide +kernel
theorem i_1_40 : a_ins 1 40 = some (.new 29, (2, 9, 333)) := by decide +kernel
theorem i_1_43 : a_ins 1 43 = some (.dup, (0, 0, 0)) := by decide +kernel
theorem i_1_44 : a_ins 1 44 = some (.invokespecial 31, (3, 7, 0)) := by decide +kernel
theorem i_1_47 : a_ins 1 47 = some (.putfield 32, (10, 3, 731)) := by decide +kernel
theorem i_1_50 : a_ins 1 50 = some (.aload_n 0, (0, 0, 0)) := by decide +kernel
theorem i_1_51 : a_ins 1 51 = some (.new 36, (6, 12, 389)) := by decide +kernel
theorem i_1_54 : a_ins 1 54 = some (.dup, (0, 0, 0)) := by decide +kernel
theorem i_1_55 : a_ins 1 55 = some (.aload_n 0, (0, 0, 0)) := by decide +kernel
theorem i_1_56 : a_ins 1 56 = some (.getfield 32, (10, 3, 731)) := by decide +kernel
theorem i_1_59 : a_ins 1 59 = some (.invokespecial 38, (2, 8, 1)) := by decide +kernel
theorem i_1_62 : a_ins 1 62 = some (.putfield 41, (10, 4, 732)) := by decide +kernel
theorem i_1_65 : a_ins 1 65 = some (.aload_n 0, (0, 0, 0)) := by decide +kernel
theorem i_1_66 : a_ins 1 66 = some (.iconst 0, (0, 0, 0)) := by decide +kernel
theorem i_1_67 : a_ins 1 67 = some (.putfield 45, (10, 5, 733)) := by decide +kernel
theorem i_1_70 : a_ins 1 70 = some (.aload_n 0, (0, 0, 0)) := by decide +kernel
theorem i_1_71 : a_ins 1 71 = some (.new 49, (0, 16, 506)) := by decide +kernel
theorem i_1_74 : a_ins 1 74 = some (.dup, (0, 0, 0)) := by decide +kernel
theorem i_1_75 : a_ins 1 75 = some (.invokespecial 51, (3, 3, 0)) := by decide +kernel
theorem i_1_78 : a_ins 1 78 = some (.putfield 52, (10, 6, 734)) := by decide +kernel
theorem i_1_81 : a_ins 1 81 = some (.aload_n 0, (0, 0, 0)) := by decide +kernel
theorem i_1_82 : a_ins 1 82 = some (.new 56, (5, 7, 508)) := by decide +kernel
theorem i_1_85 : a_ins 1 85 = some (.dup, (0, 0, 0)) := by decide +kernel
theorem i_1_86 : a_ins 1 86 = some (.invokespecial 58, (3, 11, 0)) := by decide +kernel
theorem i_1_89 : a_ins 1 89 = some (.putfield 59, (10, 7, 735)) := by decide +kernel
theorem i_1_92 : a_ins 1 92 = some (.aload_n 0, (0, 0, 0)) := by decide +kernel
theorem i_1_93 : a_ins 1 93 = some (.new 56, (5, 7, 508)) := by decide +kernel
theorem i_1_96 : a_ins 1 96 = some (.dup, (0, 0, 0)) := by decide +kernel
theorem i_1_97 : a_ins 1 97 = some (.invokespecial 58, (3, 11, 0)) := by decide +kernel
theorem i_1_100 : a_ins 1 100 = some (.putfield 63, (10, 8, 736)) := by decide +kernel
theorem i_1_103 : a_ins 1 103 = some (.aload_n 0, (0, 0, 0)) := by decide +kernel
theorem i_1_104 : a_ins 1 104 = some (.iconst 0, (0, 0, 0)) := by decide +kernel
theorem i_1_105 : a_ins 1 105 = some (.putfield 66, (10, 9, 737)) := by decide +kernel
theorem i_1_108 : a_ins 1 108 = some (.aload_n 0, (0, 0, 0)) := by decide +kernel
theorem i_1_109 : a_ins 1 109 = some (.iconst (-1), (0, 0, 0)) := by decide +kernel
theorem i_1_110 : a_ins 1 110 = some (.putfield 69, (10, 10, 738)) := by decide +kernel
theorem i_1_113 : a_ins 1 113 = some (.aload_n 0, (0, 0, 0)) := by decide +kernel
theorem i_1_114 : a_ins 1 114 = some (.iconst (-1), (0, 0, 0)) := by decide +kernel
theorem i_1_115 : a_ins 1 115 = some (.putfield 72, (10, 11, 739)) := by decide +kernel
theorem i_1_118 : a_ins 1 118 = some (.aload_n 0, (0, 0, 0)) := by decide +kernel
theorem i_1_119 : a_ins 1 119 = some (.invokevirtual 75, (0, 12, 0)) := by decide +kernel
theorem i_1_122 : a_ins 1 122 = some (.return_, (0, 0, 0)) := by decide +kernel
theorem i_2_0 : a_ins 2 0 = some (.aload_n 0, (0, 0, 0)) := by decide +kernel
theorem i_2_1 : a_ins 2 1 = some (.invokespecial 3, (4, 0, 0)) := by decide +kernel
theorem i_2_4 : a_ins 2 4 = some (.aload_n 0, (0, 0, 0)) := by decide +kernel
theorem i_2_5 : a_ins 2 5 = some (.iconst 0, (0, 0, 0)) := by decide +kernel
theorem i_2_6 : a_ins 2 6 = some (.putfield 9, (1, 0, 277)) := by decide +kernel
theorem i_2_9 : a_ins 2 9 = some (.aload_n 0, (0, 0, 0)) := by decide +kernel
theorem i_2_10 : a_ins 2 10 = some (.iconst (-1), (0, 0, 0)) := by decide +kernel
theorem i_2_11 : a_ins 2 11 = some (.putfield 15, (1, 1, 279)) := by decide +kernel
theorem i_2_14 : a_ins 2 14 = some (.aload_n 0, (0, 0, 0)) := by decide +kernel
theorem i_2_15 : a_ins 2 15 = some (.new 18, (0, 16, 137)) := by decide +kernel
theorem i_2_18 : a_ins 2 18 = some (.dup, (0, 0, 0)) := by decide +kernel
theorem i_2_19 : a_ins 2 19 = some (.invokespecial 20, (3, 3, 0)) := by decide +kernel
theorem i_2_22 : a_ins 2 22 = some (.putfield 21, (1, 2, 281)) := by decide +kernel
theorem i_2_25 : a_ins 2 25 = some (.aload_n 0, (0, 0, 0)) := by decide +kernel
theorem i_2_26 : a_ins 2 26 = some (.new 25, (8, 5, 250)) := by decide +kernel
theorem i_2_29 : a_ins 2 29 = some (.dup, (0, 0, 0)) := by decide +kernel
theorem i_2_30 : a_ins 2 30 = some (.invokespecial 27, (3, 5, 0)) := by decide +kernel
theorem i_2_33 : a_ins 2 33 = some (.putfield 28, (1, 4, 284)) := by decide +kernel
theorem i_2_36 : a_ins 2 36 = some (.aload_n 0, (0, 0, 0)) := by decide +kernel
theorem i_2_37 : a_ins 2 37 = some (.iconst 0, (0, 0, 0)) := by decide +kernel
theorem i_2_38 : a_ins 2 38 = some (.putfield 32, (1, 5, 285)) := by decide +kernel
theorem i_2_41 : a_ins 2 41 = some (.aload_n 0, (0, 0, 0)) := by decide +kernel
theorem i_2_42 : a_ins 2 42 = some (.iconst 3, (0, 0, 0)) := by decide +kernel
theorem i_2_43 : a_ins 2 43 = some (.putfield 35, (1, 6, 286)) := by decide +kernel
theorem i_2_46 : a_ins 2 46 = some (.aload_n 0, (0, 0, 0)) := by decide +kernel
theorem i_2_47 : a_ins 2 47 = some (.iconst 0, (0, 0, 0)) := by decide +kernel
theorem i_2_48 : a_ins 2 48 = some (.putfield 38, (1, 7, 287)) := by decide +kernel
theorem i_2_51 : a_ins 2 51 = some (.aload_n 0, (0, 0, 0)) := by decide +kernel
theorem i_2_52 : a_ins 2 52 = some (.iconst 0, (0, 0, 0)) := by decide +kernel
theorem i_2_53 : a_ins 2 53 = some (.putfield 41, (1, 8, 288)) := by decide +kernel
theorem i_2_56 : a_ins 2 56 = some (.aload_n 0, (0, 0, 0)) := by decide +kernel
theorem i_2_57 : a_ins 2 57 = some (.iconst 0, (0, 0, 0)) := by decide +kernel
theorem i_2_58 : a_ins 2 58 = some (.putfield 44, (1, 9, 289)) := by decide +kernel
theorem i_2_61 : a_ins 2 61 = some (.aload_n 0, (0, 0, 0)) := by decide +kernel
theorem i_2_62 : a_ins 2 62 = some (.aload_n 1, (0, 0, 0)) := by decide +kernel
theorem i_2_63 : a_ins 2 63 = some (.putfield 47, (1, 3, 283)) := by decide +kernel
theorem i_2_66 : a_ins 2 66 = some (.return_, (0, 0, 0)) := by decide +kernel
theorem i_3_0 : a_ins 3 0 = some (.aload_n 0, (0, 0, 0)) := by decide +kernel
theorem i_3_1 : a_ins 3 1 = some (.invokespecial 3, (4, 0, 0)) := by decide +kernel
theorem i_3_4 : a_ins 3 4 = some (.aload_n 0, (0, 0, 0)) := by decide +kernel
theorem i_3_5 : a_ins 3 5 = some (.new 9, (3, 3, 143)) := by decide +kernel
theorem i_3_8 : a_ins 3 8 = some (.dup, (0, 0, 0)) := by decide +kernel
theorem i_3_9 : a_ins 3 9 = some (.bipush 80, (0, 0, 0)) := by decide +kernel
theorem i_3_11 : a_ins 3 11 = some (.invokespecial 11, (2, 4, 1)) := by decide +kernel
theorem i_3_14 : a_ins 3 14 = some (.putfield 14, (0, 0, 168)) := by decide +kernel
theorem i_3_17 : a_ins 3 17 = some (.aload_n 0, (0, 0, 0)) := by decide +kernel
theorem i_3_18 : a_ins 3 18 = some (.bipush 80, (0, 0, 0)) := by decide +kernel
theorem i_3_20 : a_ins 3 20 = some (.newarray .int, (0, 0, 0)) := by decide +kernel
theorem i_3_22 : a_ins 3 22 = some (.putfield 20, (0, 1, 172)) := by decide +kernel
theorem i_3_25 : a_ins 3 25 = some (.aload_n 0, (0, 0, 0)) := by decide +kernel
theorem i_3_26 : a_ins 3 26 = some (.bipush 80, (0, 0, 0)) := by decide +kernel
theorem i_3_28 : a_ins 3 28 = some (.newarray .int, (0, 0, 0)) := by decide +kernel
theorem i_3_30 : a_ins 3 30 = some (.putfield 24, (0, 2, 176)) := by decide +kernel
theorem i_3_33 : a_ins 3 33 = some (.aload_n 0, (0, 0, 0)) := by decide +kernel
theorem i_3_34 : a_ins 3 34 = some (.bipush 80, (0, 0, 0)) := by decide +kernel
theorem i_3_36 : a_ins 3 36 = some (.newarray .int, (0, 0, 0)) := by decide +kernel
theorem i_3_38 : a_ins 3 38 = some (.putfield 27, (0, 3, 179)) := by decide +kernel
theorem i_3_41 : a_ins 3 41 = some (.aload_n 0, (0, 0, 0)) := by decide +kernel
theorem i_3_42 : a_ins 3 42 = some (.bipush 80, (0, 0, 0)) := by decide +kernel
theorem i_3_44 : a_ins 3 44 = some (.newarray .int, (0, 0, 0)) := by decide +kernel
theorem i_3_46 : a_ins 3 46 = some (.putfield 30, (0, 4, 182)) := by decide +kernel
theorem i_3_49 : a_ins 3 49 = some (.aload_n 0, (0, 0, 0)) := by decide +kernel
theorem i_3_50 : a_ins 3 50 = some (.bipush 80, (0, 0, 0)) := by decide +kernel
theorem i_3_52 : a_ins 3 52 = some (.newarray .int, (0, 0, 0)) := by decide +kernel
theorem i_3_54 : a_ins 3 54 = some (.putfield 33, (0, 5, 185)) := by decide +kernel
theorem i_3_57 : a_ins 3 57 = some (.aload_n 0, (0, 0, 0)) := by decide +kernel
theorem i_3_58 : a_ins 3 58 = some (.new 9, (3, 3, 143)) := by decide +kernel
theorem i_3_61 : a_ins 3 61 = some (.dup, (0, 0, 0)) := by decide +kernel
theorem i_3_62 : a_ins 3 62 = some (.bipush 20, (0, 0, 0)) := by decide +kernel
theorem i_3_64 : a_ins 3 64 = some (.invokespecial 11, (2, 4, 1)) := by decide +kernel
theorem i_3_67 : a_ins 3 67 = some (.putfield 36, (0, 6, 188)) := by decide +kernel
theorem i_3_70 : a_ins 3 70 = some (.aload_n 0, (0, 0, 0)) := by decide +kernel
theorem i_3_71 : a_ins 3 71 = some (.bipush 20, (0, 0, 0)) := by decide +kernel
theorem i_3_73 : a_ins 3 73 = some (.newarray .int, (0, 0, 0)) := by decide +kernel
theorem i_3_75 : a_ins 3 75 = some (.putfield 39, (0, 7, 192)) := by decide +kernel
theorem i_3_78 : a_ins 3 78 = some (.aload_n 0, (0, 0, 0)) := by decide +kernel
theorem i_3_79 : a_ins 3 79 = some (.bipush 20, (0, 0, 0)) := by decide +kernel
theorem i_3_81 : a_ins 3 81 = some (.newarray .int, (0, 0, 0)) := by decide +kernel
theorem i_3_83 : a_ins 3 83 = some (.putfield 42, (0, 8, 195)) := by decide +kernel
theorem i_3_86 : a_ins 3 86 = some (.aload_n 0, (0, 0, 0)) := by decide +kernel
theorem i_3_87 : a_ins 3 87 = some (.new 9, (3, 3, 143)) := by decide +kernel
theorem i_3_90 : a_ins 3 90 = some (.dup, (0, 0, 0)) := by decide +kernel
theorem i_3_91 : a_ins 3 91 = some (.bipush 20, (0, 0, 0)) := by decide +kernel
theorem i_3_93 : a_ins 3 93 = some (.invokespecial 11, (2, 4, 1)) := by decide +kernel
theorem i_3_96 : a_ins 3 96 = some (.putfield 45, (0, 9, 198)) := by decide +kernel
theorem i_3_99 : a_ins 3 99 = some (.aload_n 0, (0, 0, 0)) := by decide +kernel
theorem i_3_100 : a_ins 3 100 = some (.bipush 64, (0, 0, 0)) := by decide +kernel
theorem i_3_102 : a_ins 3 102 = some (.newarray .int, (0, 0, 0)) := by decide +kernel
theorem i_3_104 : a_ins 3 104 = some (.putfield 48, (0, 10, 201)) := by decide +kernel
theorem i_3_107 : a_ins 3 107 = some (.aload_n 0, (0, 0, 0)) := by decide +kernel
theorem i_3_108 : a_ins 3 108 = some (.bipush 64, (0, 0, 0)) := by decide +kernel
theorem i_3_110 : a_ins 3 110 = some (.newarray .boolean, (0, 0, 0)) := by decide +kernel
theorem i_3_112 : a_ins 3 112 = some (.putfield 51, (0, 11, 203)) := by decide +kernel
theorem i_3_115 : a_ins 3 115 = some (.aload_n 0, (0, 0, 0)) := by decide +kernel
theorem i_3_116 : a_ins 3 116 = some (.iconst 0, (0, 0, 0)) := by decide +kernel
theorem i_3_117 : a_ins 3 117 = some (.putfield 55, (0, 12, 205)) := by decide +kernel
theorem i_3_120 : a_ins 3 120 = some (.aload_n 0, (0, 0, 0)) := by decide +kernel
theorem i_3_121 : a_ins 3 121 = some (.iconst 0, (0, 0, 0)) := by decide +kernel
theorem i_3_122 : a_ins 3 122 = some (.putfield 59, (0, 13, 208)) := by decide +kernel
theorem i_3_125 : a_ins 3 125 = some (.aload_n 0, (0, 0, 0)) := by decide +kernel
theorem i_3_126 : a_ins 3 126 = some (.iconst 0, (0, 0, 0)) := by decide +kernel
theorem i_3_127 : a_ins 3 127 = some (.putfield 63, (0, 14, 210)) := by decide +kernel
theorem i_3_130 : a_ins 3 130 = some (.aload_n 0, (0, 0, 0)) := by decide +kernel
theorem i_3_131 : a_ins 3 131 = some (.bipush 50, (0, 0, 0)) := by decide +kernel
theorem i_3_133 : a_ins 3 133 = some (.putfield 66, (0, 15, 213)) := by decide +kernel
theorem i_3_136 : a_ins 3 136 = some (.return_, (0, 0, 0)) := by decide +kernel
theorem i_4_0 : a_ins 4 0 = some (.aload_n 0, (0, 0, 0)) := by decide +kernel
theorem i_4_1 : a_ins 4 1 = some (.invokespecial 3, (4, 0, 0)) := by decide +kernel
theorem i_4_4 : a_ins 4 4 = some (.aload_n 0, (0, 0, 0)) := by decide +kernel
theorem i_4_5 : a_ins 4 5 = some (.iconst 0, (0, 0, 0)) := by decide +kernel
theorem i_4_6 : a_ins 4 6 = some (.putfield 9, (3, 2, 154)) := by decide +kernel
theorem i_4_9 : a_ins 4 9 = some (.aload_n 0, (0, 0, 0)) := by decide +kernel
theorem i_4_10 : a_ins 4 10 = some (.iload_n 1, (0, 0, 0)) := by decide +kernel
theorem i_4_11 : a_ins 4 11 = some (.bipush 12, (0, 0, 0)) := by decide +kernel
theorem i_4_13 : a_ins 4 13 = some (.imul, (0, 0, 0)) := by decide +kernel
theorem i_4_14 : a_ins 4 14 = some (.newarray .char, (0, 0, 0)) := by decide +kernel
theorem i_4_16 : a_ins 4 16 = some (.putfield 15, (3, 0, 149)) := by decide +kernel
theorem i_4_19 : a_ins 4 19 = some (.aload_n 0, (0, 0, 0)) := by decide +kernel
theorem i_4_20 : a_ins 4 20 = some (.iload_n 1, (0, 0, 0)) := by decide +kernel
theorem i_4_21 : a_ins 4 21 = some (.newarray .int, (0, 0, 0)) := by decide +kernel
theorem i_4_23 : a_ins 4 23 = some (.putfield 19, (3, 1, 151)) := by decide +kernel
theorem i_4_26 : a_ins 4 26 = some (.return_, (0, 0, 0)) := by decide +kernel
theorem i_5_0 : a_ins 5 0 = some (.aload_n 0, (0, 0, 0)) := by decide +kernel
theorem i_5_1 : a_ins 5 1 = some (.invokespecial 3, (4, 0, 0)) := by decide +kernel
theorem i_5_4 : a_ins 5 4 = some (.aload_n 0, (0, 0, 0)) := by decide +kernel
theorem i_5_5 : a_ins 5 5 = some (.sipush 2001, (0, 0, 0)) := by decide +kernel
theorem i_5_8 : a_ins 5 8 = some (.newarray .int, (0, 0, 0)) := by decide +kernel
theorem i_5_10 : a_ins 5 10 = some (.putfield 9, (8, 0, 256)) := by decide +kernel
theorem i_5_13 : a_ins 5 13 = some (.aload_n 0, (0, 0, 0)) := by decide +kernel
theorem i_5_14 : a_ins 5 14 = some (.sipush 2001, (0, 0, 0)) := by decide +kernel
theorem i_5_17 : a_ins 5 17 = some (.newarray .int, (0, 0, 0)) := by decide +kernel
theorem i_5_19 : a_ins 5 19 = some (.putfield 15, (8, 1, 258)) := by decide +kernel
theorem i_5_22 : a_ins 5 22 = some (.aload_n 0, (0, 0, 0)) := by decide +kernel
theorem i_5_23 : a_ins 5 23 = some (.sipush 2001, (0, 0, 0)) := by decide +kernel
theorem i_5_26 : a_ins 5 26 = some (.newarray .int, (0, 0, 0)) := by decide +kernel
theorem i_5_28 : a_ins 5 28 = some (.putfield 18, (8, 2, 260)) := by decide +kernel
theorem i_5_31 : a_ins 5 31 = some (.aload_n 0, (0, 0, 0)) := by decide +kernel
theorem i_5_32 : a_ins 5 32 = some (.sipush 2001, (0, 0, 0)) := by decide +kernel
theorem i_5_35 : a_ins 5 35 = some (.newarray .int, (0, 0, 0)) := by decide +kernel
theorem i_5_37 : a_ins 5 37 = some (.putfield 21, (8, 3, 262)) := by decide +kernel
theorem i_5_40 : a_ins 5 40 = some (.aload_n 0, (0, 0, 0)) := by decide +kernel
theorem i_5_41 : a_ins 5 41 = some (.iconst 0, (0, 0, 0)) := by decide +kernel
theorem i_5_42 : a_ins 5 42 = some (.putfield 24, (8, 4, 264)) := by decide +kernel
theorem i_5_45 : a_ins 5 45 = some (.return_, (0, 0, 0)) := by decide +kernel
theorem i_6_0 : a_ins 6 0 = some (.aload_n 0, (0, 0, 0)) := by decide +kernel
theorem i_6_1 : a_ins 6 1 = some (.invokespecial 3, (4, 0, 0)) := by decide +kernel
theorem i_6_4 : a_ins 6 4 = some (.aload_n 0, (0, 0, 0)) := by decide +kernel
theorem i_6_5 : a_ins 6 5 = some (.bipush 60, (0, 0, 0)) := by decide +kernel
theorem i_6_7 : a_ins 6 7 = some (.newarray .int, (0, 0, 0)) := by decide +kernel
theorem i_6_9 : a_ins 6 9 = some (.putfield 9, (4, 0, 317)) := by decide +kernel
theorem i_6_12 : a_ins 6 12 = some (.aload_n 0, (0, 0, 0)) := by decide +kernel
theorem i_6_13 : a_ins 6 13 = some (.bipush 60, (0, 0, 0)) := by decide +kernel
theorem i_6_15 : a_ins 6 15 = some (.newarray .int, (0, 0, 0)) := by decide +kernel
theorem i_6_17 : a_ins 6 17 = some (.putfield 15, (4, 1, 318)) := by decide +kernel
theorem i_6_20 : a_ins 6 20 = some (.aload_n 0, (0, 0, 0)) := by decide +kernel
theorem i_6_21 : a_ins 6 21 = some (.bipush 60, (0, 0, 0)) := by decide +kernel
theorem i_6_23 : a_ins 6 23 = some (.newarray .boolean, (0, 0, 0)) := by decide +kernel
theorem i_6_25 : a_ins 6 25 = some (.putfield 18, (4, 2, 320)) := by decide +kernel
theorem i_6_28 : a_ins 6 28 = some (.aload_n 0, (0, 0, 0)) := by decide +kernel
theorem i_6_29 : a_ins 6 29 = some (.iconst 0, (0, 0, 0)) := by decide +kernel
theorem i_6_30 : a_ins 6 30 = some (.putfield 22, (4, 3, 322)) := by decide +kernel
theorem i_6_33 : a_ins 6 33 = some (.return_, (0, 0, 0)) := by decide +kernel
theorem i_7_0 : a_ins 7 0 = some (.aload_n 0, (0, 0, 0)) := by decide +kernel
theorem i_7_1 : a_ins 7 1 = some (.invokespecial 3, (4, 0, 0)) := by decide +kernel
theorem i_7_4 : a_ins 7 4 = some (.aload_n 0, (0, 0, 0)) := by decide +kernel
theorem i_7_5 : a_ins 7 5 = some (.bipush 14, (0, 0, 0)) := by decide +kernel
theorem i_7_7 : a_ins 7 7 = some (.newarray .int, (0, 0, 0)) := by decide +kernel
theorem i_7_9 : a_ins 7 9 = some (.putfield 9, (2, 0, 341)) := by decide +kernel
theorem i_7_12 : a_ins 7 12 = some (.aload_n 0, (0, 0, 0)) := by decide +kernel
theorem i_7_13 : a_ins 7 13 = some (.bipush 14, (0, 0, 0)) := by decide +kernel
theorem i_7_15 : a_ins 7 15 = some (.newarray .int, (0, 0, 0)) := by decide +kernel
theorem i_7_17 : a_ins 7 17 = some (.putfield 15, (2, 1, 346)) := by decide +kernel
theorem i_7_20 : a_ins 7 20 = some (.aload_n 0, (0, 0, 0)) := by decide +kernel
theorem i_7_21 : a_ins 7 21 = some (.new 18, (3, 3, 339)) := by decide +kernel
theorem i_7_24 : a_ins 7 24 = some (.dup, (0, 0, 0)) := by decide +kernel
theorem i_7_25 : a_ins 7 25 = some (.sipush 168, (0, 0, 0)) := by decide +kernel
theorem i_7_28 : a_ins 7 28 = some (.invokespecial 20, (2, 4, 1)) := by decide +kernel
theorem i_7_31 : a_ins 7 31 = some (.putfield 23, (2, 2, 349)) := by decide +kernel
theorem i_7_34 : a_ins 7 34 = some (.aload_n 0, (0, 0, 0)) := by decide +kernel
theorem i_7_35 : a_ins 7 35 = some (.sipush 168, (0, 0, 0)) := by decide +kernel
theorem i_7_38 : a_ins 7 38 = some (.newarray .int, (0, 0, 0)) := by decide +kernel
theorem i_7_40 : a_ins 7 40 = some (.putfield 27, (2, 3, 351)) := by decide +kernel
theorem i_7_43 : a_ins 7 43 = some (.aload_n 0, (0, 0, 0)) := by decide +kernel
theorem i_7_44 : a_ins 7 44 = some (.sipush 168, (0, 0, 0)) := by decide +kernel
theorem i_7_47 : a_ins 7 47 = some (.newarray .int, (0, 0, 0)) := by decide +kernel
theorem i_7_49 : a_ins 7 49 = some (.putfield 30, (2, 4, 355)) := by decide +kernel
theorem i_7_52 : a_ins 7 52 = some (.aload_n 0, (0, 0, 0)) := by decide +kernel
theorem i_7_53 : a_ins 7 53 = some (.sipush 168, (0, 0, 0)) := by decide +kernel
theorem i_7_56 : a_ins 7 56 = some (.newarray .int, (0, 0, 0)) := by decide +kernel
theorem i_7_58 : a_ins 7 58 = some (.putfield 33, (2, 5, 359)) := by decide +kernel
theorem i_7_61 : a_ins 7 61 = some (.aload_n 0, (0, 0, 0)) := by decide +kernel
theorem i_7_62 : a_ins 7 62 = some (.sipush 168, (0, 0, 0)) := by decide +kernel
theorem i_7_65 : a_ins 7 65 = some (.newarray .int, (0, 0, 0)) := by decide +kernel
theorem i_7_67 : a_ins 7 67 = some (.putfield 36, (2, 6, 362)) := by decide +kernel
theorem i_7_70 : a_ins 7 70 = some (.aload_n 0, (0, 0, 0)) := by decide +kernel
theorem i_7_71 : a_ins 7 71 = some (.bipush 12, (0, 0, 0)) := by decide +kernel
theorem i_7_73 : a_ins 7 73 = some (.newarray .char, (0, 0, 0)) := by decide +kernel
theorem i_7_75 : a_ins 7 75 = some (.putfield 39, (2, 7, 364)) := by decide +kernel
theorem i_7_78 : a_ins 7 78 = some (.aload_n 0, (0, 0, 0)) := by decide +kernel
theorem i_7_79 : a_ins 7 79 = some (.iconst 0, (0, 0, 0)) := by decide +kernel
theorem i_7_80 : a_ins 7 80 = some (.putfield 43, (2, 8, 365)) := by decide +kernel
theorem i_7_83 : a_ins 7 83 = some (.return_, (0, 0, 0)) := by decide +kernel
theorem i_8_0 : a_ins 8 0 = some (.aload_n 0, (0, 0, 0)) := by decide +kernel
theorem i_8_1 : a_ins 8 1 = some (.invokespecial 3, (4, 0, 0)) := by decide +kernel
theorem i_8_4 : a_ins 8 4 = some (.aload_n 0, (0, 0, 0)) := by decide +kernel
theorem i_8_5 : a_ins 8 5 = some (.sipush 168, (0, 0, 0)) := by decide +kernel
theorem i_8_8 : a_ins 8 8 = some (.newarray .int, (0, 0, 0)) := by decide +kernel
theorem i_8_10 : a_ins 8 10 = some (.putfield 9, (6, 3, 470)) := by decide +kernel
theorem i_8_13 : a_ins 8 13 = some (.aload_n 0, (0, 0, 0)) := by decide +kernel
theorem i_8_14 : a_ins 8 14 = some (.bipush 14, (0, 0, 0)) := by decide +kernel
theorem i_8_16 : a_ins 8 16 = some (.newarray .int, (0, 0, 0)) := by decide +kernel
theorem i_8_18 : a_ins 8 18 = some (.putfield 15, (6, 4, 471)) := by decide +kernel
theorem i_8_21 : a_ins 8 21 = some (.aload_n 0, (0, 0, 0)) := by decide +kernel
theorem i_8_22 : a_ins 8 22 = some (.sipush 2352, (0, 0, 0)) := by decide +kernel
theorem i_8_25 : a_ins 8 25 = some (.newarray .int, (0, 0, 0)) := by decide +kernel
theorem i_8_27 : a_ins 8 27 = some (.putfield 18, (6, 5, 473)) := by decide +kernel
theorem i_8_30 : a_ins 8 30 = some (.aload_n 0, (0, 0, 0)) := by decide +kernel
theorem i_8_31 : a_ins 8 31 = some (.bipush 14, (0, 0, 0)) := by decide +kernel
theorem i_8_33 : a_ins 8 33 = some (.newarray .boolean, (0, 0, 0)) := by decide +kernel
theorem i_8_35 : a_ins 8 35 = some (.putfield 21, (6, 6, 474)) := by decide +kernel
theorem i_8_38 : a_ins 8 38 = some (.aload_n 0, (0, 0, 0)) := by decide +kernel
theorem i_8_39 : a_ins 8 39 = some (.iconst 0, (0, 0, 0)) := by decide +kernel
theorem i_8_40 : a_ins 8 40 = some (.putfield 25, (6, 7, 475)) := by decide +kernel
theorem i_8_43 : a_ins 8 43 = some (.aload_n 0, (0, 0, 0)) := by decide +kernel
theorem i_8_44 : a_ins 8 44 = some (.bipush 64, (0, 0, 0)) := by decide +kernel
theorem i_8_46 : a_ins 8 46 = some (.newarray .int, (0, 0, 0)) := by decide +kernel
theorem i_8_48 : a_ins 8 48 = some (.putfield 29, (6, 8, 477)) := by decide +kernel
theorem i_8_51 : a_ins 8 51 = some (.aload_n 0, (0, 0, 0)) := by decide +kernel
theorem i_8_52 : a_ins 8 52 = some (.iconst (-1), (0, 0, 0)) := by decide +kernel
theorem i_8_53 : a_ins 8 53 = some (.putfield 32, (6, 9, 478)) := by decide +kernel
theorem i_8_56 : a_ins 8 56 = some (.aload_n 0, (0, 0, 0)) := by decide +kernel
theorem i_8_57 : a_ins 8 57 = some (.iconst 0, (0, 0, 0)) := by decide +kernel
theorem i_8_58 : a_ins 8 58 = some (.putfield 35, (6, 10, 479)) := by decide +kernel
theorem i_8_61 : a_ins 8 61 = some (.aload_n 0, (0, 0, 0)) := by decide +kernel
theorem i_8_62 : a_ins 8 62 = some (.iconst 0, (0, 0, 0)) := by decide +kernel
theorem i_8_63 : a_ins 8 63 = some (.putfield 39, (6, 11, 480)) := by decide +kernel
theorem i_8_66 : a_ins 8 66 = some (.aload_n 0, (0, 0, 0)) := by decide +kernel
theorem i_8_67 : a_ins 8 67 = some (.aload_n 1, (0, 0, 0)) := by decide +kernel
theorem i_8_68 : a_ins 8 68 = some (.putfield 42, (6, 0, 467)) := by decide +kernel
theorem i_8_71 : a_ins 8 71 = some (.aload_n 0, (0, 0, 0)) := by decide +kernel
theorem i_8_72 : a_ins 8 72 = some (.new 46, (9, 12, 395)) := by decide +kernel
theorem i_8_75 : a_ins 8 75 = some (.dup, (0, 0, 0)) := by decide +kernel
theorem i_8_76 : a_ins 8 76 = some (.aload_n 1, (0, 0, 0)) := by decide +kernel
theorem i_8_77 : a_ins 8 77 = some (.invokespecial 48, (2, 9, 1)) := by decide +kernel
theorem i_8_80 : a_ins 8 80 = some (.putfield 51, (6, 1, 468)) := by decide +kernel
theorem i_8_83 : a_ins 8 83 = some (.aload_n 0, (0, 0, 0)) := by decide +kernel
theorem i_8_84 : a_ins 8 84 = some (.new 55, (7, 5, 443)) := by decide +kernel
theorem i_8_87 : a_ins 8 87 = some (.dup, (0, 0, 0)) := by decide +kernel
theorem i_8_88 : a_ins 8 88 = some (.aload_n 0, (0, 0, 0)) := by decide +kernel
theorem i_8_89 : a_ins 8 89 = some (.getfield 51, (6, 1, 468)) := by decide +kernel
theorem i_8_92 : a_ins 8 92 = some (.invokespecial 57, (2, 10, 1)) := by decide +kernel
theorem i_8_95 : a_ins 8 95 = some (.putfield 60, (6, 2, 469)) := by decide +kernel
theorem i_8_98 : a_ins 8 98 = some (.return_, (0, 0, 0)) := by decide +kernel
theorem i_9_0 : a_ins 9 0 = some (.aload_n 0, (0, 0, 0)) := by decide +kernel
theorem i_9_1 : a_ins 9 1 = some (.invokespecial 3, (4, 0, 0)) := by decide +kernel
theorem i_9_4 : a_ins 9 4 = some (.aload_n 0, (0, 0, 0)) := by decide +kernel
theorem i_9_5 : a_ins 9 5 = some (.bipush 14, (0, 0, 0)) := by decide +kernel
theorem i_9_7 : a_ins 9 7 = some (.newarray .int, (0, 0, 0)) := by decide +kernel
theorem i_9_9 : a_ins 9 9 = some (.putfield 9, (9, 1, 403)) := by decide +kernel
theorem i_9_12 : a_ins 9 12 = some (.aload_n 0, (0, 0, 0)) := by decide +kernel
theorem i_9_13 : a_ins 9 13 = some (.bipush 14, (0, 0, 0)) := by decide +kernel
theorem i_9_15 : a_ins 9 15 = some (.newarray .int, (0, 0, 0)) := by decide +kernel
theorem i_9_17 : a_ins 9 17 = some (.putfield 15, (9, 2, 405)) := by decide +kernel
theorem i_9_20 : a_ins 9 20 = some (.aload_n 0, (0, 0, 0)) := by decide +kernel
theorem i_9_21 : a_ins 9 21 = some (.sipush 168, (0, 0, 0)) := by decide +kernel
theorem i_9_24 : a_ins 9 24 = some (.newarray .int, (0, 0, 0)) := by decide +kernel
theorem i_9_26 : a_ins 9 26 = some (.putfield 18, (9, 3, 407)) := by decide +kernel
theorem i_9_29 : a_ins 9 29 = some (.aload_n 0, (0, 0, 0)) := by decide +kernel
theorem i_9_30 : a_ins 9 30 = some (.bipush 64, (0, 0, 0)) := by decide +kernel
theorem i_9_32 : a_ins 9 32 = some (.newarray .int, (0, 0, 0)) := by decide +kernel
theorem i_9_34 : a_ins 9 34 = some (.putfield 21, (9, 4, 409)) := by decide +kernel
theorem i_9_37 : a_ins 9 37 = some (.aload_n 0, (0, 0, 0)) := by decide +kernel
theorem i_9_38 : a_ins 9 38 = some (.bipush 14, (0, 0, 0)) := by decide +kernel
theorem i_9_40 : a_ins 9 40 = some (.newarray .int, (0, 0, 0)) := by decide +kernel
theorem i_9_42 : a_ins 9 42 = some (.putfield 24, (9, 5, 411)) := by decide +kernel
theorem i_9_45 : a_ins 9 45 = some (.aload_n 0, (0, 0, 0)) := by decide +kernel
theorem i_9_46 : a_ins 9 46 = some (.sipush 9520, (0, 0, 0)) := by decide +kernel
theorem i_9_49 : a_ins 9 49 = some (.newarray .int, (0, 0, 0)) := by decide +kernel
theorem i_9_51 : a_ins 9 51 = some (.putfield 27, (9, 6, 412)) := by decide +kernel
theorem i_9_54 : a_ins 9 54 = some (.aload_n 0, (0, 0, 0)) := by decide +kernel
theorem i_9_55 : a_ins 9 55 = some (.sipush 680, (0, 0, 0)) := by decide +kernel
theorem i_9_58 : a_ins 9 58 = some (.newarray .int, (0, 0, 0)) := by decide +kernel
theorem i_9_60 : a_ins 9 60 = some (.putfield 30, (9, 7, 413)) := by decide +kernel
theorem i_9_63 : a_ins 9 63 = some (.aload_n 0, (0, 0, 0)) := by decide +kernel
theorem i_9_64 : a_ins 9 64 = some (.sipush 680, (0, 0, 0)) := by decide +kernel
theorem i_9_67 : a_ins 9 67 = some (.newarray .int, (0, 0, 0)) := by decide +kernel
theorem i_9_69 : a_ins 9 69 = some (.putfield 33, (9, 8, 414)) := by decide +kernel
theorem i_9_72 : a_ins 9 72 = some (.aload_n 0, (0, 0, 0)) := by decide +kernel
theorem i_9_73 : a_ins 9 73 = some (.iconst 0, (0, 0, 0)) := by decide +kernel
theorem i_9_74 : a_ins 9 74 = some (.putfield 36, (9, 9, 415)) := by decide +kernel
theorem i_9_77 : a_ins 9 77 = some (.aload_n 0, (0, 0, 0)) := by decide +kernel
theorem i_9_78 : a_ins 9 78 = some (.iconst (-1), (0, 0, 0)) := by decide +kernel
theorem i_9_79 : a_ins 9 79 = some (.putfield 40, (9, 10, 416)) := by decide +kernel
theorem i_9_82 : a_ins 9 82 = some (.aload_n 0, (0, 0, 0)) := by decide +kernel
theorem i_9_83 : a_ins 9 83 = some (.iconst (-1), (0, 0, 0)) := by decide +kernel
theorem i_9_84 : a_ins 9 84 = some (.putfield 44, (9, 11, 417)) := by decide +kernel
theorem i_9_87 : a_ins 9 87 = some (.aload_n 0, (0, 0, 0)) := by decide +kernel
theorem i_9_88 : a_ins 9 88 = some (.aload_n 1, (0, 0, 0)) := by decide +kernel
theorem i_9_89 : a_ins 9 89 = some (.putfield 47, (9, 0, 402)) := by decide +kernel
theorem i_9_92 : a_ins 9 92 = some (.return_, (0, 0, 0)) := by decide +kernel
theorem i_10_0 : a_ins 10 0 = some (.aload_n 0, (0, 0, 0)) := by decide +kernel
theorem i_10_1 : a_ins 10 1 = some (.invokespecial 7, (4, 0, 0)) := by decide +kernel
theorem i_10_4 : a_ins 10 4 = some (.aload_n 0, (0, 0, 0)) := by decide +kernel
theorem i_10_5 : a_ins 10 5 = some (.bipush 101, (0, 0, 0)) := by decide +kernel
theorem i_10_7 : a_ins 10 7 = some (.newarray .long, (0, 0, 0)) := by decide +kernel
theorem i_10_9 : a_ins 10 9 = some (.putfield 13, (7, 2, 451)) := by decide +kernel
theorem i_10_12 : a_ins 10 12 = some (.aload_n 0, (0, 0, 0)) := by decide +kernel
theorem i_10_13 : a_ins 10 13 = some (.iconst 0, (0, 0, 0)) := by decide +kernel
theorem i_10_14 : a_ins 10 14 = some (.newarray .long, (0, 0, 0)) := by decide +kernel
theorem i_10_16 : a_ins 10 16 = some (.putfield 17, (7, 3, 453)) := by decide +kernel
theorem i_10_19 : a_ins 10 19 = some (.aload_n 0, (0, 0, 0)) := by decide +kernel
theorem i_10_20 : a_ins 10 20 = some (.iconst 0, (0, 0, 0)) := by decide +kernel
theorem i_10_21 : a_ins 10 21 = some (.newarray .long, (0, 0, 0)) := by decide +kernel
theorem i_10_23 : a_ins 10 23 = some (.putfield 20, (7, 4, 454)) := by decide +kernel
theorem i_10_26 : a_ins 10 26 = some (.aload_n 0, (0, 0, 0)) := by decide +kernel
theorem i_10_27 : a_ins 10 27 = some (.aload_n 1, (0, 0, 0)) := by decide +kernel
theorem i_10_28 : a_ins 10 28 = some (.putfield 23, (7, 0, 449)) := by decide +kernel
theorem i_10_31 : a_ins 10 31 = some (.aload_n 0, (0, 0, 0)) := by decide +kernel
theorem i_10_32 : a_ins 10 32 = some (.aload_n 1, (0, 0, 0)) := by decide +kernel
theorem i_10_33 : a_ins 10 33 = some (.getfield 27, (9, 0, 401)) := by decide +kernel
theorem i_10_36 : a_ins 10 36 = some (.putfield 31, (7, 1, 450)) := by decide +kernel
theorem i_10_39 : a_ins 10 39 = some (.return_, (0, 0, 0)) := by decide +kernel
theorem i_11_0 : a_ins 11 0 = some (.aload_n 0, (0, 0, 0)) := by decide +kernel
theorem i_11_1 : a_ins 11 1 = some (.invokespecial 3, (4, 0, 0)) := by decide +kernel
theorem i_11_4 : a_ins 11 4 = some (.aload_n 0, (0, 0, 0)) := by decide +kernel
theorem i_11_5 : a_ins 11 5 = some (.sipush 200, (0, 0, 0)) := by decide +kernel
theorem i_11_8 : a_ins 11 8 = some (.newarray .char, (0, 0, 0)) := by decide +kernel
theorem i_11_10 : a_ins 11 10 = some (.putfield 9, (5, 0, 514)) := by decide +kernel
theorem i_11_13 : a_ins 11 13 = some (.aload_n 0, (0, 0, 0)) := by decide +kernel
theorem i_11_14 : a_ins 11 14 = some (.bipush 14, (0, 0, 0)) := by decide +kernel
theorem i_11_16 : a_ins 11 16 = some (.newarray .int, (0, 0, 0)) := by decide +kernel
theorem i_11_18 : a_ins 11 18 = some (.putfield 15, (5, 1, 517)) := by decide +kernel
theorem i_11_21 : a_ins 11 21 = some (.aload_n 0, (0, 0, 0)) := by decide +kernel
theorem i_11_22 : a_ins 11 22 = some (.bipush 14, (0, 0, 0)) := by decide +kernel
theorem i_11_24 : a_ins 11 24 = some (.newarray .int, (0, 0, 0)) := by decide +kernel
theorem i_11_26 : a_ins 11 26 = some (.putfield 19, (5, 2, 520)) := by decide +kernel
theorem i_11_29 : a_ins 11 29 = some (.aload_n 0, (0, 0, 0)) := by decide +kernel
theorem i_11_30 : a_ins 11 30 = some (.bipush 14, (0, 0, 0)) := by decide +kernel
theorem i_11_32 : a_ins 11 32 = some (.newarray .boolean, (0, 0, 0)) := by decide +kernel
theorem i_11_34 : a_ins 11 34 = some (.putfield 22, (5, 3, 522)) := by decide +kernel
theorem i_11_37 : a_ins 11 37 = some (.aload_n 0, (0, 0, 0)) := by decide +kernel
theorem i_11_38 : a_ins 11 38 = some (.iconst 0, (0, 0, 0)) := by decide +kernel
theorem i_11_39 : a_ins 11 39 = some (.putfield 26, (5, 4, 524)) := by decide +kernel
theorem i_11_42 : a_ins 11 42 = some (.aload_n 0, (0, 0, 0)) := by decide +kernel
theorem i_11_43 : a_ins 11 43 = some (.iconst 0, (0, 0, 0)) := by decide +kernel
theorem i_11_44 : a_ins 11 44 = some (.putfield 30, (5, 5, 526)) := by decide +kernel
theorem i_11_47 : a_ins 11 47 = some (.aload_n 0, (0, 0, 0)) := by decide +kernel
theorem i_11_48 : a_ins 11 48 = some (.iconst 0, (0, 0, 0)) := by decide +kernel
theorem i_11_49 : a_ins 11 49 = some (.putfield 33, (5, 6, 528)) := by decide +kernel
theorem i_11_52 : a_ins 11 52 = some (.return_, (0, 0, 0)) := by decide +kernel
theorem i_12_0 : a_ins 12 0 = some (.aload_n 0, (0, 0, 0)) := by decide +kernel
theorem i_12_1 : a_ins 12 1 = some (.getfield 32, (10, 3, 731)) := by decide +kernel
theorem i_12_4 : a_ins 12 4 = some (.aload_n 0, (0, 0, 0)) := by decide +kernel
theorem i_12_5 : a_ins 12 5 = some (.getfield 59, (10, 7, 735)) := by decide +kernel
theorem i_12_8 : a_ins 12 8 = some (.getfield 111, (5, 5, 527)) := by decide +kernel
theorem i_12_11 : a_ins 12 11 = some (.putfield 236, (2, 8, 369)) := by decide +kernel
theorem i_12_14 : a_ins 12 14 = some (.iconst 0, (0, 0, 0)) := by decide +kernel
theorem i_12_15 : a_ins 12 15 = some (.istore_n 1, (0, 0, 0)) := by decide +kernel
theorem i_12_16 : a_ins 12 16 = some (.iload_n 1, (0, 0, 0)) := by decide +kernel
theorem i_12_17 : a_ins 12 17 = some (.aload_n 0, (0, 0, 0)) := by decide +kernel
theorem i_12_18 : a_ins 12 18 = some (.getfield 59, (10, 7, 735)) := by decide +kernel
theorem i_12_21 : a_ins 12 21 = some (.getfield 111, (5, 5, 527)) := by decide +kernel
theorem i_12_24 : a_ins 12 24 = some (.if_icmp .ge 33, (0, 0, 0)) := by decide +kernel
theorem i_12_27 : a_ins 12 27 = some (.aload_n 0, (0, 0, 0)) := by decide +kernel
theorem i_12_28 : a_ins 12 28 = some (.getfield 32, (10, 3, 731)) := by decide +kernel
theorem i_12_31 : a_ins 12 31 = some (.iload_n 1, (0, 0, 0)) := by decide +kernel
theorem i_12_32 : a_ins 12 32 = some (.aload_n 0, (0, 0, 0)) := by decide +kernel
theorem i_12_33 : a_ins 12 33 = some (.getfield 59, (10, 7, 735)) := by decide +kernel
theorem i_12_36 : a_ins 12 36 = some (.aload_n 0, (0, 0, 0)) := by decide +kernel
theorem i_12_37 : a_ins 12 37 = some (.getfield 52, (10, 6, 734)) := by decide +kernel
theorem i_12_40 : a_ins 12 40 = some (.aload_n 0, (0, 0, 0)) := by decide +kernel
theorem i_12_41 : a_ins 12 41 = some (.getfield 25, (10, 2, 730)) := by decide +kernel
theorem i_12_44 : a_ins 12 44 = some (.iload_n 1, (0, 0, 0)) := by decide +kernel
theorem i_12_45 : a_ins 12 45 = some (.invokevirtual 237, (0, 13, 1)) := by decide +kernel
theorem i_12_48 : a_ins 12 48 = some (.invokevirtual 240, (0, 14, 4)) := by decide +kernel
theorem i_12_51 : a_ins 12 51 = some (.iinc 1 1, (0, 0, 0)) := by decide +kernel
theorem i_12_54 : a_ins 12 54 = some (.goto (-38), (0, 0, 0)) := by decide +kernel
theorem i_12_57 : a_ins 12 57 = some (.aload_n 0, (0, 0, 0)) := by decide +kernel
theorem i_12_58 : a_ins 12 58 = some (.getfield 41, (10, 4, 732)) := by decide +kernel
theorem i_12_61 : a_ins 12 61 = some (.aload_n 0, (0, 0, 0)) := by decide +kernel
theorem i_12_62 : a_ins 12 62 = some (.getfield 52, (10, 6, 734)) := by decide +kernel
theorem i_12_65 : a_ins 12 65 = some (.getfield 113, (0, 10, 202)) := by decide +kernel
theorem i_12_68 : a_ins 12 68 = some (.aload_n 0, (0, 0, 0)) := by decide +kernel
theorem i_12_69 : a_ins 12 69 = some (.getfield 72, (10, 11, 739)) := by decide +kernel
theorem i_12_72 : a_ins 12 72 = some (.invokevirtual 117, (0, 34, 2)) := by decide +kernel
theorem i_12_75 : a_ins 12 75 = some (.return_, (0, 0, 0)) := by decide +kernel
theorem i_13_0 : a_ins 13 0 = some (.aload_n 0, (0, 0, 0)) := by decide +kernel
theorem i_13_1 : a_ins 13 1 = some (.getfield 22, (4, 3, 322)) := by decide +kernel
theorem i_13_4 : a_ins 13 4 = some (.iconst 1, (0, 0, 0)) := by decide +kernel
theorem i_13_5 : a_ins 13 5 = some (.isub, (0, 0, 0)) := by decide +kernel
theorem i_13_6 : a_ins 13 6 = some (.istore_n 2, (0, 0, 0)) := by decide +kernel
theorem i_13_7 : a_ins 13 7 = some (.iload_n 2, (0, 0, 0)) := by decide +kernel
theorem i_13_8 : a_ins 13 8 = some (.ifCond .lt 35, (0, 0, 0)) := by decide +kernel
theorem i_13_11 : a_ins 13 11 = some (.aload_n 0, (0, 0, 0)) := by decide +kernel
theorem i_13_12 : a_ins 13 12 = some (.getfield 9, (4, 0, 317)) := by decide +kernel
theorem i_13_15 : a_ins 13 15 = some (.iload_n 2, (0, 0, 0)) := by decide +kernel
theorem i_13_16 : a_ins 13 16 = some (.iaload, (0, 0, 0)) := by decide +kernel
theorem i_13_17 : a_ins 13 17 = some (.iload_n 1, (0, 0, 0)) := by decide +kernel
theorem i_13_18 : a_ins 13 18 = some (.if_icmp .ne 19, (0, 0, 0)) := by decide +kernel
theorem i_13_21 : a_ins 13 21 = some (.aload_n 0, (0, 0, 0)) := by decide +kernel
theorem i_13_22 : a_ins 13 22 = some (.getfield 18, (4, 2, 320)) := by decide +kernel
theorem i_13_25 : a_ins 13 25 = some (.iload_n 2, (0, 0, 0)) := by decide +kernel
theorem i_13_26 : a_ins 13 26 = some (.baload, (0, 0, 0)) := by decide +kernel
theorem i_13_27 : a_ins 13 27 = some (.ifCond .ne 10, (0, 0, 0)) := by decide +kernel
theorem i_13_30 : a_ins 13 30 = some (.aload_n 0, (0, 0, 0)) := by decide +kernel
theorem i_13_31 : a_ins 13 31 = some (.getfield 15, (4, 1, 318)) := by decide +kernel
theorem i_13_34 : a_ins 13 34 = some (.iload_n 2, (0, 0, 0)) := by decide +kernel
theorem i_13_35 : a_ins 13 35 = some (.iaload, (0, 0, 0)) := by decide +kernel
theorem i_13_36 : a_ins 13 36 = some (.ireturn, (0, 0, 0)) := by decide +kernel
theorem i_13_37 : a_ins 13 37 = some (.iinc 2 (-1), (0, 0, 0)) := by decide +kernel
theorem i_13_40 : a_ins 13 40 = some (.goto (-33), (0, 0, 0)) := by decide +kernel
theorem i_13_43 : a_ins 13 43 = some (.iconst (-1), (0, 0, 0)) := by decide +kernel
theorem i_13_44 : a_ins 13 44 = some (.ireturn, (0, 0, 0)) := by decide +kernel
theorem i_14_0 : a_ins 14 0 = some (.aload_n 2, (0, 0, 0)) := by decide +kernel
theorem i_14_1 : a_ins 14 1 = some (.getfield 51, (5, 1, 518)) := by decide +kernel
theorem i_14_4 : a_ins 14 4 = some (.iload_n 1, (0, 0, 0)) := by decide +kernel
theorem i_14_5 : a_ins 14 5 = some (.iaload, (0, 0, 0)) := by decide +kernel
theorem i_14_6 : a_ins 14 6 = some (.istore 5, (0, 0, 0)) := by decide +kernel
theorem i_14_8 : a_ins 14 8 = some (.aload_n 2, (0, 0, 0)) := by decide +kernel
theorem i_14_9 : a_ins 14 9 = some (.getfield 56, (5, 2, 521)) := by decide +kernel
theorem i_14_12 : a_ins 14 12 = some (.iload_n 1, (0, 0, 0)) := by decide +kernel
theorem i_14_13 : a_ins 14 13 = some (.iaload, (0, 0, 0)) := by decide +kernel
theorem i_14_14 : a_ins 14 14 = some (.istore 6, (0, 0, 0)) := by decide +kernel
theorem i_14_16 : a_ins 14 16 = some (.aload_n 0, (0, 0, 0)) := by decide +kernel
theorem i_14_17 : a_ins 14 17 = some (.getfield 9, (2, 0, 341)) := by decide +kernel
theorem i_14_20 : a_ins 14 20 = some (.iload_n 1, (0, 0, 0)) := by decide +kernel
theorem i_14_21 : a_ins 14 21 = some (.iconst 0, (0, 0, 0)) := by decide +kernel
theorem i_14_22 : a_ins 14 22 = some (.iastore, (0, 0, 0)) := by decide +kernel
theorem i_14_23 : a_ins 14 23 = some (.iload 4, (0, 0, 0)) := by decide +kernel
theorem i_14_25 : a_ins 14 25 = some (.iconst (-1), (0, 0, 0)) := by decide +kernel
theorem i_14_26 : a_ins 14 26 = some (.if_icmp .eq 14, (0, 0, 0)) := by decide +kernel
theorem i_14_29 : a_ins 14 29 = some (.aload_n 0, (0, 0, 0)) := by decide +kernel
theorem i_14_30 : a_ins 14 30 = some (.iload_n 1, (0, 0, 0)) := by decide +kernel
theorem i_14_31 : a_ins 14 31 = some (.aload_n 3, (0, 0, 0)) := by decide +kernel
theorem i_14_32 : a_ins 14 32 = some (.iload 4, (0, 0, 0)) := by decide +kernel
theorem i_14_34 : a_ins 14 34 = some (.invokevirtual 59, (0, 15, 3)) := by decide +kernel
theorem i_14_37 : a_ins 14 37 = some (.goto 70, (0, 0, 0)) := by decide +kernel
theorem i_14_40 : a_ins 14 40 = some (.aload_n 2, (0, 0, 0)) := by decide +kernel
theorem i_14_41 : a_ins 14 41 = some (.getfield 63, (5, 3, 523)) := by decide +kernel
theorem i_14_44 : a_ins 14 44 = some (.iload_n 1, (0, 0, 0)) := by decide +kernel
theorem i_14_45 : a_ins 14 45 = some (.baload, (0, 0, 0)) := by decide +kernel
theorem i_14_46 : a_ins 14 46 = some (.ifCond .ne 18, (0, 0, 0)) := by decide +kernel
theorem i_14_49 : a_ins 14 49 = some (.aload_n 3, (0, 0, 0)) := by decide +kernel
theorem i_14_50 : a_ins 14 50 = some (.aload_n 2, (0, 0, 0)) := by decide +kernel
theorem i_14_51 : a_ins 14 51 = some (.getfield 67, (5, 0, 515)) := by decide +kernel
theorem i_14_54 : a_ins 14 54 = some (.iload 5, (0, 0, 0)) := by decide +kernel
theorem i_14_56 : a_ins 14 56 = some (.iload 6, (0, 0, 0)) := by decide +kernel
theorem i_14_58 : a_ins 14 58 = some (.invokevirtual 70, (0, 20, 3)) := by decide +kernel
theorem i_14_61 : a_ins 14 61 = some (.ifCond .eq 23, (0, 0, 0)) := by decide +kernel
theorem i_14_64 : a_ins 14 64 = some (.aload_n 0, (0, 0, 0)) := by decide +kernel
theorem i_14_65 : a_ins 14 65 = some (.iload_n 1, (0, 0, 0)) := by decide +kernel
theorem i_14_66 : a_ins 14 66 = some (.aload_n 2, (0, 0, 0)) := by decide +kernel
theorem i_14_67 : a_ins 14 67 = some (.getfield 67, (5, 0, 515)) := by decide +kernel
theorem i_14_70 : a_ins 14 70 = some (.iload 5, (0, 0, 0)) := by decide +kernel
theorem i_14_72 : a_ins 14 72 = some (.iload 6, (0, 0, 0)) := by decide +kernel
theorem i_14_74 : a_ins 14 74 = some (.bipush 7, (0, 0, 0)) := by decide +kernel
theorem i_14_76 : a_ins 14 76 = some (.iconst 0, (0, 0, 0)) := by decide +kernel
theorem i_14_77 : a_ins 14 77 = some (.invokevirtual 76, (0, 18, 6)) := by decide +kernel
theorem i_14_80 : a_ins 14 80 = some (.pop, (0, 0, 0)) := by decide +kernel
theorem i_14_81 : a_ins 14 81 = some (.goto 26, (0, 0, 0)) := by decide +kernel
theorem i_14_84 : a_ins 14 84 = some (.aload_n 0, (0, 0, 0)) := by decide +kernel
theorem i_14_85 : a_ins 14 85 = some (.iload_n 1, (0, 0, 0)) := by decide +kernel
theorem i_14_86 : a_ins 14 86 = some (.aload_n 2, (0, 0, 0)) := by decide +kernel
theorem i_14_87 : a_ins 14 87 = some (.aload_n 3, (0, 0, 0)) := by decide +kernel
theorem i_14_88 : a_ins 14 88 = some (.invokevirtual 80, (0, 23, 3)) := by decide +kernel
theorem i_14_91 : a_ins 14 91 = some (.aload_n 0, (0, 0, 0)) := by decide +kernel
theorem i_14_92 : a_ins 14 92 = some (.getfield 9, (2, 0, 341)) := by decide +kernel
theorem i_14_95 : a_ins 14 95 = some (.iload_n 1, (0, 0, 0)) := by decide +kernel
theorem i_14_96 : a_ins 14 96 = some (.iaload, (0, 0, 0)) := by decide +kernel
theorem i_14_97 : a_ins 14 97 = some (.ifCond .ne 10, (0, 0, 0)) := by decide +kernel
theorem i_14_100 : a_ins 14 100 = some (.aload_n 0, (0, 0, 0)) := by decide +kernel
theorem i_14_101 : a_ins 14 101 = some (.iload_n 1, (0, 0, 0)) := by decide +kernel
theorem i_14_102 : a_ins 14 102 = some (.aload_n 2, (0, 0, 0)) := by decide +kernel
theorem i_14_103 : a_ins 14 103 = some (.aload_n 3, (0, 0, 0)) := by decide +kernel
theorem i_14_104 : a_ins 14 104 = some (.invokevirtual 84, (0, 27, 3)) := by decide +kernel
theorem i_14_107 : a_ins 14 107 = some (.aload_n 0, (0, 0, 0)) := by decide +kernel
theorem i_14_108 : a_ins 14 108 = some (.iload_n 1, (0, 0, 0)) := by decide +kernel
theorem i_14_109 : a_ins 14 109 = some (.invokevirtual 87, (0, 31, 1)) := by decide +kernel
theorem i_14_112 : a_ins 14 112 = some (.return_, (0, 0, 0)) := by decide +kernel
theorem i_15_0 : a_ins 15 0 = some (.aload_n 2, (0, 0, 0)) := by decide +kernel
theorem i_15_1 : a_ins 15 1 = some (.getfield 90, (0, 0, 171)) := by decide +kernel
theorem i_15_4 : a_ins 15 4 = some (.astore 4, (0, 0, 0)) := by decide +kernel
theorem i_15_6 : a_ins 15 6 = some (.aload_n 0, (0, 0, 0)) := by decide +kernel
theorem i_15_7 : a_ins 15 7 = some (.iload_n 1, (0, 0, 0)) := by decide +kernel
theorem i_15_8 : a_ins 15 8 = some (.aload 4, (0, 0, 0)) := by decide +kernel
theorem i_15_10 : a_ins 15 10 = some (.getfield 106, (3, 0, 150)) := by decide +kernel
theorem i_15_13 : a_ins 15 13 = some (.aload 4, (0, 0, 0)) := by decide +kernel
theorem i_15_15 : a_ins 15 15 = some (.iload_n 3, (0, 0, 0)) := by decide +kernel
theorem i_15_16 : a_ins 15 16 = some (.invokevirtual 109, (0, 16, 1)) := by decide +kernel
theorem i_15_19 : a_ins 15 19 = some (.aload 4, (0, 0, 0)) := by decide +kernel
theorem i_15_21 : a_ins 15 21 = some (.getfield 122, (3, 1, 152)) := by decide +kernel
theorem i_15_24 : a_ins 15 24 = some (.iload_n 3, (0, 0, 0)) := by decide +kernel
theorem i_15_25 : a_ins 15 25 = some (.iaload, (0, 0, 0)) := by decide +kernel
theorem i_15_26 : a_ins 15 26 = some (.aload_n 2, (0, 0, 0)) := by decide +kernel
theorem i_15_27 : a_ins 15 27 = some (.getfield 147, (0, 1, 174)) := by decide +kernel
theorem i_15_30 : a_ins 15 30 = some (.iload_n 3, (0, 0, 0)) := by decide +kernel
theorem i_15_31 : a_ins 15 31 = some (.iaload, (0, 0, 0)) := by decide +kernel
theorem i_15_32 : a_ins 15 32 = some (.aload_n 2, (0, 0, 0)) := by decide +kernel
theorem i_15_33 : a_ins 15 33 = some (.iload_n 3, (0, 0, 0)) := by decide +kernel
theorem i_15_34 : a_ins 15 34 = some (.invokevirtual 148, (0, 17, 1)) := by decide +kernel
theorem i_15_37 : a_ins 15 37 = some (.invokevirtual 76, (0, 18, 6)) := by decide +kernel
theorem i_15_40 : a_ins 15 40 = some (.istore 5, (0, 0, 0)) := by decide +kernel
theorem i_15_42 : a_ins 15 42 = some (.iload 5, (0, 0, 0)) := by decide +kernel
theorem i_15_44 : a_ins 15 44 = some (.iconst (-1), (0, 0, 0)) := by decide +kernel
theorem i_15_45 : a_ins 15 45 = some (.if_icmp .eq 11, (0, 0, 0)) := by decide +kernel
theorem i_15_48 : a_ins 15 48 = some (.aload_n 0, (0, 0, 0)) := by decide +kernel
theorem i_15_49 : a_ins 15 49 = some (.getfield 36, (2, 6, 362)) := by decide +kernel
theorem i_15_52 : a_ins 15 52 = some (.iload 5, (0, 0, 0)) := by decide +kernel
theorem i_15_54 : a_ins 15 54 = some (.iload_n 3, (0, 0, 0)) := by decide +kernel
theorem i_15_55 : a_ins 15 55 = some (.iastore, (0, 0, 0)) := by decide +kernel
theorem i_15_56 : a_ins 15 56 = some (.return_, (0, 0, 0)) := by decide +kernel
theorem i_16_0 : a_ins 16 0 = some (.iload_n 1, (0, 0, 0)) := by decide +kernel
theorem i_16_1 : a_ins 16 1 = some (.bipush 12, (0, 0, 0)) := by decide +kernel
theorem i_16_3 : a_ins 16 3 = some (.imul, (0, 0, 0)) := by decide +kernel
theorem i_16_4 : a_ins 16 4 = some (.ireturn, (0, 0, 0)) := by decide +kernel
theorem i_17_0 : a_ins 17 0 = some (.iconst 0, (0, 0, 0)) := by decide +kernel
theorem i_17_1 : a_ins 17 1 = some (.aload_n 0, (0, 0, 0)) := by decide +kernel
theorem i_17_2 : a_ins 17 2 = some (.getfield 24, (0, 2, 176)) := by decide +kernel
theorem i_17_5 : a_ins 17 5 = some (.iload_n 1, (0, 0, 0)) := by decide +kernel
theorem i_17_6 : a_ins 17 6 = some (.iaload, (0, 0, 0)) := by decide +kernel
theorem i_17_7 : a_ins 17 7 = some (.aload_n 0, (0, 0, 0)) := by decide +kernel
theorem i_17_8 : a_ins 17 8 = some (.getfield 33, (0, 5, 185)) := by decide +kernel
theorem i_17_11 : a_ins 17 11 = some (.iload_n 1, (0, 0, 0)) := by decide +kernel
theorem i_17_12 : a_ins 17 12 = some (.iaload, (0, 0, 0)) := by decide +kernel
theorem i_17_13 : a_ins 17 13 = some (.isub, (0, 0, 0)) := by decide +kernel
theorem i_17_14 : a_ins 17 14 = some (.invokestatic 85, (6, 0, 2)) := by decide +kernel
theorem i_17_17 : a_ins 17 17 = some (.ireturn, (0, 0, 0)) := by decide +kernel
theorem i_18_0 : a_ins 18 0 = some (.aload_n 0, (0, 0, 0)) := by decide +kernel
theorem i_18_1 : a_ins 18 1 = some (.getfield 9, (2, 0, 341)) := by decide +kernel
theorem i_18_4 : a_ins 18 4 = some (.iload_n 1, (0, 0, 0)) := by decide +kernel
theorem i_18_5 : a_ins 18 5 = some (.iaload, (0, 0, 0)) := by decide +kernel
theorem i_18_6 : a_ins 18 6 = some (.bipush 12, (0, 0, 0)) := by decide +kernel
theorem i_18_8 : a_ins 18 8 = some (.if_icmp .lt 5, (0, 0, 0)) := by decide +kernel
theorem i_18_11 : a_ins 18 11 = some (.iconst (-1), (0, 0, 0)) := by decide +kernel
theorem i_18_12 : a_ins 18 12 = some (.ireturn, (0, 0, 0)) := by decide +kernel
theorem i_18_13 : a_ins 18 13 = some (.iload_n 1, (0, 0, 0)) := by decide +kernel
theorem i_18_14 : a_ins 18 14 = some (.bipush 12, (0, 0, 0)) := by decide +kernel
theorem i_18_16 : a_ins 18 16 = some (.imul, (0, 0, 0)) := by decide +kernel
theorem i_18_17 : a_ins 18 17 = some (.aload_n 0, (0, 0, 0)) := by decide +kernel
theorem i_18_18 : a_ins 18 18 = some (.getfield 9, (2, 0, 341)) := by decide +kernel
theorem i_18_21 : a_ins 18 21 = some (.iload_n 1, (0, 0, 0)) := by decide +kernel
theorem i_18_22 : a_ins 18 22 = some (.iaload, (0, 0, 0)) := by decide +kernel
theorem i_18_23 : a_ins 18 23 = some (.iadd, (0, 0, 0)) := by decide +kernel
theorem i_18_24 : a_ins 18 24 = some (.istore 7, (0, 0, 0)) := by decide +kernel
theorem i_18_26 : a_ins 18 26 = some (.aload_n 0, (0, 0, 0)) := by decide +kernel
theorem i_18_27 : a_ins 18 27 = some (.getfield 9, (2, 0, 341)) := by decide +kernel
theorem i_18_30 : a_ins 18 30 = some (.iload_n 1, (0, 0, 0)) := by decide +kernel
theorem i_18_31 : a_ins 18 31 = some (.dup2, (0, 0, 0)) := by decide +kernel
theorem i_18_32 : a_ins 18 32 = some (.iaload, (0, 0, 0)) := by decide +kernel
theorem i_18_33 : a_ins 18 33 = some (.iconst 1, (0, 0, 0)) := by decide +kernel
theorem i_18_34 : a_ins 18 34 = some (.iadd, (0, 0, 0)) := by decide +kernel
theorem i_18_35 : a_ins 18 35 = some (.iastore, (0, 0, 0)) := by decide +kernel
theorem i_18_36 : a_ins 18 36 = some (.aload_n 0, (0, 0, 0)) := by decide +kernel
theorem i_18_37 : a_ins 18 37 = some (.getfield 23, (2, 2, 349)) := by decide +kernel
theorem i_18_40 : a_ins 18 40 = some (.iload 7, (0, 0, 0)) := by decide +kernel
theorem i_18_42 : a_ins 18 42 = some (.aload_n 2, (0, 0, 0)) := by decide +kernel
theorem i_18_43 : a_ins 18 43 = some (.iload_n 3, (0, 0, 0)) := by decide +kernel
theorem i_18_44 : a_ins 18 44 = some (.iload 4, (0, 0, 0)) := by decide +kernel
theorem i_18_46 : a_ins 18 46 = some (.invokevirtual 151, (0, 19, 4)) := by decide +kernel
theorem i_18_49 : a_ins 18 49 = some (.aload_n 0, (0, 0, 0)) := by decide +kernel
theorem i_18_50 : a_ins 18 50 = some (.getfield 27, (2, 3, 351)) := by decide +kernel
theorem i_18_53 : a_ins 18 53 = some (.iload 7, (0, 0, 0)) := by decide +kernel
theorem i_18_55 : a_ins 18 55 = some (.iload 5, (0, 0, 0)) := by decide +kernel
theorem i_18_57 : a_ins 18 57 = some (.iastore, (0, 0, 0)) := by decide +kernel
theorem i_18_58 : a_ins 18 58 = some (.aload_n 0, (0, 0, 0)) := by decide +kernel
theorem i_18_59 : a_ins 18 59 = some (.getfield 30, (2, 4, 355)) := by decide +kernel
theorem i_18_62 : a_ins 18 62 = some (.iload 7, (0, 0, 0)) := by decide +kernel
theorem i_18_64 : a_ins 18 64 = some (.iload 6, (0, 0, 0)) := by decide +kernel
theorem i_18_66 : a_ins 18 66 = some (.iastore, (0, 0, 0)) := by decide +kernel
theorem i_18_67 : a_ins 18 67 = some (.aload_n 0, (0, 0, 0)) := by decide +kernel
theorem i_18_68 : a_ins 18 68 = some (.getfield 36, (2, 6, 362)) := by decide +kernel
theorem i_18_71 : a_ins 18 71 = some (.iload 7, (0, 0, 0)) := by decide +kernel
theorem i_18_73 : a_ins 18 73 = some (.iconst (-1), (0, 0, 0)) := by decide +kernel
theorem i_18_74 : a_ins 18 74 = some (.iastore, (0, 0, 0)) := by decide +kernel
theorem i_18_75 : a_ins 18 75 = some (.iload 7, (0, 0, 0)) := by decide +kernel
theorem i_18_77 : a_ins 18 77 = some (.ireturn, (0, 0, 0)) := by decide +kernel
theorem i_19_0 : a_ins 19 0 = some (.aload_n 2, (0, 0, 0)) := by decide +kernel
theorem i_19_1 : a_ins 19 1 = some (.iload_n 3, (0, 0, 0)) := by decide +kernel
theorem i_19_2 : a_ins 19 2 = some (.aload_n 0, (0, 0, 0)) := by decide +kernel
theorem i_19_3 : a_ins 19 3 = some (.getfield 15, (3, 0, 149)) := by decide +kernel
theorem i_19_6 : a_ins 19 6 = some (.iload_n 1, (0, 0, 0)) := by decide +kernel
theorem i_19_7 : a_ins 19 7 = some (.bipush 12, (0, 0, 0)) := by decide +kernel
theorem i_19_9 : a_ins 19 9 = some (.imul, (0, 0, 0)) := by decide +kernel
theorem i_19_10 : a_ins 19 10 = some (.iload 4, (0, 0, 0)) := by decide +kernel
theorem i_19_12 : a_ins 19 12 = some (.invokestatic 23, (7, 0, 5)) := by decide +kernel
theorem i_19_15 : a_ins 19 15 = some (.aload_n 0, (0, 0, 0)) := by decide +kernel
theorem i_19_16 : a_ins 19 16 = some (.getfield 19, (3, 1, 151)) := by decide +kernel
theorem i_19_19 : a_ins 19 19 = some (.iload_n 1, (0, 0, 0)) := by decide +kernel
theorem i_19_20 : a_ins 19 20 = some (.iload 4, (0, 0, 0)) := by decide +kernel
theorem i_19_22 : a_ins 19 22 = some (.iastore, (0, 0, 0)) := by decide +kernel
theorem i_19_23 : a_ins 19 23 = some (.return_, (0, 0, 0)) := by decide +kernel
theorem i_20_0 : a_ins 20 0 = some (.iconst 0, (0, 0, 0)) := by decide +kernel
theorem i_20_1 : a_ins 20 1 = some (.istore 4, (0, 0, 0)) := by decide +kernel
theorem i_20_3 : a_ins 20 3 = some (.iload 4, (0, 0, 0)) := by decide +kernel
theorem i_20_5 : a_ins 20 5 = some (.aload_n 0, (0, 0, 0)) := by decide +kernel
theorem i_20_6 : a_ins 20 6 = some (.getfield 45, (0, 9, 198)) := by decide +kernel
theorem i_20_9 : a_ins 20 9 = some (.getfield 69, (3, 2, 155)) := by decide +kernel
theorem i_20_12 : a_ins 20 12 = some (.if_icmp .ge 26, (0, 0, 0)) := by decide +kernel
theorem i_20_15 : a_ins 20 15 = some (.aload_n 0, (0, 0, 0)) := by decide +kernel
theorem i_20_16 : a_ins 20 16 = some (.getfield 45, (0, 9, 198)) := by decide +kernel
theorem i_20_19 : a_ins 20 19 = some (.iload 4, (0, 0, 0)) := by decide +kernel
theorem i_20_21 : a_ins 20 21 = some (.aload_n 1, (0, 0, 0)) := by decide +kernel
theorem i_20_22 : a_ins 20 22 = some (.iload_n 2, (0, 0, 0)) := by decide +kernel
theorem i_20_23 : a_ins 20 23 = some (.iload_n 3, (0, 0, 0)) := by decide +kernel
theorem i_20_24 : a_ins 20 24 = some (.invokevirtual 82, (0, 21, 4)) := by decide +kernel
theorem i_20_27 : a_ins 20 27 = some (.ifCond .eq 5, (0, 0, 0)) := by decide +kernel
theorem i_20_30 : a_ins 20 30 = some (.iconst 1, (0, 0, 0)) := by decide +kernel
theorem i_20_31 : a_ins 20 31 = some (.ireturn, (0, 0, 0)) := by decide +kernel
theorem i_20_32 : a_ins 20 32 = some (.iinc 4 1, (0, 0, 0)) := by decide +kernel
theorem i_20_35 : a_ins 20 35 = some (.goto (-32), (0, 0, 0)) := by decide +kernel
theorem i_20_38 : a_ins 20 38 = some (.iconst 0, (0, 0, 0)) := by decide +kernel
theorem i_20_39 : a_ins 20 39 = some (.ireturn, (0, 0, 0)) := by decide +kernel
theorem i_21_0 : a_ins 21 0 = some (.aload_n 0, (0, 0, 0)) := by decide +kernel
theorem i_21_1 : a_ins 21 1 = some (.getfield 19, (3, 1, 151)) := by decide +kernel
theorem i_21_4 : a_ins 21 4 = some (.iload_n 1, (0, 0, 0)) := by decide +kernel
theorem i_21_5 : a_ins 21 5 = some (.iaload, (0, 0, 0)) := by decide +kernel
theorem i_21_6 : a_ins 21 6 = some (.iload 4, (0, 0, 0)) := by decide +kernel
theorem i_21_8 : a_ins 21 8 = some (.if_icmp .ne 26, (0, 0, 0)) := by decide +kernel
theorem i_21_11 : a_ins 21 11 = some (.aload_n 0, (0, 0, 0)) := by decide +kernel
theorem i_21_12 : a_ins 21 12 = some (.getfield 15, (3, 0, 149)) := by decide +kernel
theorem i_21_15 : a_ins 21 15 = some (.aload_n 0, (0, 0, 0)) := by decide +kernel
theorem i_21_16 : a_ins 21 16 = some (.iload_n 1, (0, 0, 0)) := by decide +kernel
theorem i_21_17 : a_ins 21 17 = some (.invokevirtual 33, (0, 16, 1)) := by decide +kernel
theorem i_21_20 : a_ins 21 20 = some (.aload_n 2, (0, 0, 0)) := by decide +kernel
theorem i_21_21 : a_ins 21 21 = some (.iload_n 3, (0, 0, 0)) := by decide +kernel
theorem i_21_22 : a_ins 21 22 = some (.iload 4, (0, 0, 0)) := by decide +kernel
theorem i_21_24 : a_ins 21 24 = some (.invokestatic 43, (1, 22, 5)) := by decide +kernel
theorem i_21_27 : a_ins 21 27 = some (.ifCond .eq 7, (0, 0, 0)) := by decide +kernel
theorem i_21_30 : a_ins 21 30 = some (.iconst 1, (0, 0, 0)) := by decide +kernel
theorem i_21_31 : a_ins 21 31 = some (.goto 4, (0, 0, 0)) := by decide +kernel
theorem i_21_34 : a_ins 21 34 = some (.iconst 0, (0, 0, 0)) := by decide +kernel
theorem i_21_35 : a_ins 21 35 = some (.ireturn, (0, 0, 0)) := by decide +kernel
theorem i_22_0 : a_ins 22 0 = some (.iconst 0, (0, 0, 0)) := by decide +kernel
theorem i_22_1 : a_ins 22 1 = some (.istore 5, (0, 0, 0)) := by decide +kernel
theorem i_22_3 : a_ins 22 3 = some (.iload 5, (0, 0, 0)) := by decide +kernel
theorem i_22_5 : a_ins 22 5 = some (.iload 4, (0, 0, 0)) := by decide +kernel
theorem i_22_7 : a_ins 22 7 = some (.if_icmp .ge 32, (0, 0, 0)) := by decide +kernel
theorem i_22_10 : a_ins 22 10 = some (.aload_n 0, (0, 0, 0)) := by decide +kernel
theorem i_22_11 : a_ins 22 11 = some (.iload_n 1, (0, 0, 0)) := by decide +kernel
theorem i_22_12 : a_ins 22 12 = some (.iload 5, (0, 0, 0)) := by decide +kernel
theorem i_22_14 : a_ins 22 14 = some (.iadd, (0, 0, 0)) := by decide +kernel
theorem i_22_15 : a_ins 22 15 = some (.caload, (0, 0, 0)) := by decide +kernel
theorem i_22_16 : a_ins 22 16 = some (.bipush 32, (0, 0, 0)) := by decide +kernel
theorem i_22_18 : a_ins 22 18 = some (.ior, (0, 0, 0)) := by decide +kernel
theorem i_22_19 : a_ins 22 19 = some (.aload_n 2, (0, 0, 0)) := by decide +kernel
theorem i_22_20 : a_ins 22 20 = some (.iload_n 3, (0, 0, 0)) := by decide +kernel
theorem i_22_21 : a_ins 22 21 = some (.iload 5, (0, 0, 0)) := by decide +kernel
theorem i_22_23 : a_ins 22 23 = some (.iadd, (0, 0, 0)) := by decide +kernel
theorem i_22_24 : a_ins 22 24 = some (.caload, (0, 0, 0)) := by decide +kernel
theorem i_22_25 : a_ins 22 25 = some (.bipush 32, (0, 0, 0)) := by decide +kernel
theorem i_22_27 : a_ins 22 27 = some (.ior, (0, 0, 0)) := by decide +kernel
theorem i_22_28 : a_ins 22 28 = some (.if_icmp .eq 5, (0, 0, 0)) := by decide +kernel
theorem i_22_31 : a_ins 22 31 = some (.iconst 0, (0, 0, 0)) := by decide +kernel
theorem i_22_32 : a_ins 22 32 = some (.ireturn, (0, 0, 0)) := by decide +kernel
theorem i_22_33 : a_ins 22 33 = some (.iinc 5 1, (0, 0, 0)) := by decide +kernel
theorem i_22_36 : a_ins 22 36 = some (.goto (-33), (0, 0, 0)) := by decide +kernel
theorem i_22_39 : a_ins 22 39 = some (.iconst 1, (0, 0, 0)) := by decide +kernel
theorem i_22_40 : a_ins 22 40 = some (.ireturn, (0, 0, 0)) := by decide +kernel
theorem i_23_0 : a_ins 23 0 = some (.aload_n 2, (0, 0, 0)) := by decide +kernel
theorem i_23_1 : a_ins 23 1 = some (.getfield 51, (5, 1, 518)) := by decide +kernel
theorem i_23_4 : a_ins 23 4 = some (.iload_n 1, (0, 0, 0)) := by decide +kernel
theorem i_23_5 : a_ins 23 5 = some (.iaload, (0, 0, 0)) := by decide +kernel
theorem i_23_6 : a_ins 23 6 = some (.istore 4, (0, 0, 0)) := by decide +kernel
theorem i_23_8 : a_ins 23 8 = some (.aload_n 2, (0, 0, 0)) := by decide +kernel
theorem i_23_9 : a_ins 23 9 = some (.getfield 56, (5, 2, 521)) := by decide +kernel
theorem i_23_12 : a_ins 23 12 = some (.iload_n 1, (0, 0, 0)) := by decide +kernel
theorem i_23_13 : a_ins 23 13 = some (.iaload, (0, 0, 0)) := by decide +kernel
theorem i_23_14 : a_ins 23 14 = some (.istore 5, (0, 0, 0)) := by decide +kernel
theorem i_23_16 : a_ins 23 16 = some (.aload_n 3, (0, 0, 0)) := by decide +kernel
theorem i_23_17 : a_ins 23 17 = some (.getfield 90, (0, 0, 171)) := by decide +kernel
theorem i_23_20 : a_ins 23 20 = some (.astore 6, (0, 0, 0)) := by decide +kernel
theorem i_23_22 : a_ins 23 22 = some (.iconst 0, (0, 0, 0)) := by decide +kernel
theorem i_23_23 : a_ins 23 23 = some (.istore 7, (0, 0, 0)) := by decide +kernel
theorem i_23_25 : a_ins 23 25 = some (.iload 7, (0, 0, 0)) := by decide +kernel
theorem i_23_27 : a_ins 23 27 = some (.aload 6, (0, 0, 0)) := by decide +kernel
theorem i_23_29 : a_ins 23 29 = some (.getfield 92, (3, 2, 158)) := by decide +kernel
theorem i_23_32 : a_ins 23 32 = some (.if_icmp .ge 85, (0, 0, 0)) := by decide +kernel
theorem i_23_35 : a_ins 23 35 = some (.aload_n 0, (0, 0, 0)) := by decide +kernel
theorem i_23_36 : a_ins 23 36 = some (.getfield 9, (2, 0, 341)) := by decide +kernel
theorem i_23_39 : a_ins 23 39 = some (.iload_n 1, (0, 0, 0)) := by decide +kernel
theorem i_23_40 : a_ins 23 40 = some (.iaload, (0, 0, 0)) := by decide +kernel
theorem i_23_41 : a_ins 23 41 = some (.bipush 12, (0, 0, 0)) := by decide +kernel
theorem i_23_43 : a_ins 23 43 = some (.if_icmp .ge 74, (0, 0, 0)) := by decide +kernel
theorem i_23_46 : a_ins 23 46 = some (.aload 6, (0, 0, 0)) := by decide +kernel
theorem i_23_48 : a_ins 23 48 = some (.iload 7, (0, 0, 0)) := by decide +kernel
theorem i_23_50 : a_ins 23 50 = some (.aload_n 2, (0, 0, 0)) := by decide +kernel
theorem i_23_51 : a_ins 23 51 = some (.getfield 67, (5, 0, 515)) := by decide +kernel
theorem i_23_54 : a_ins 23 54 = some (.iload 4, (0, 0, 0)) := by decide +kernel
theorem i_23_56 : a_ins 23 56 = some (.iload 5, (0, 0, 0)) := by decide +kernel
theorem i_23_58 : a_ins 23 58 = some (.invokevirtual 95, (0, 21, 4)) := by decide +kernel
theorem i_23_61 : a_ins 23 61 = some (.ifCond .eq 50, (0, 0, 0)) := by decide +kernel
theorem i_23_64 : a_ins 23 64 = some (.aload_n 3, (0, 0, 0)) := by decide +kernel
theorem i_23_65 : a_ins 23 65 = some (.iload 7, (0, 0, 0)) := by decide +kernel
theorem i_23_67 : a_ins 23 67 = some (.aload_n 2, (0, 0, 0)) := by decide +kernel
theorem i_23_68 : a_ins 23 68 = some (.getfield 99, (5, 6, 529)) := by decide +kernel
theorem i_23_71 : a_ins 23 71 = some (.invokevirtual 102, (0, 24, 2)) := by decide +kernel
theorem i_23_74 : a_ins 23 74 = some (.ifCond .eq 37, (0, 0, 0)) := by decide +kernel
theorem i_23_77 : a_ins 23 77 = some (.aload 6, (0, 0, 0)) := by decide +kernel
theorem i_23_79 : a_ins 23 79 = some (.getfield 106, (3, 0, 150)) := by decide +kernel
theorem i_23_82 : a_ins 23 82 = some (.aload 6, (0, 0, 0)) := by decide +kernel
theorem i_23_84 : a_ins 23 84 = some (.iload 7, (0, 0, 0)) := by decide +kernel
theorem i_23_86 : a_ins 23 86 = some (.invokevirtual 109, (0, 16, 1)) := by decide +kernel
theorem i_23_89 : a_ins 23 89 = some (.aload_n 2, (0, 0, 0)) := by decide +kernel
theorem i_23_90 : a_ins 23 90 = some (.getfield 67, (5, 0, 515)) := by decide +kernel
theorem i_23_93 : a_ins 23 93 = some (.iload 4, (0, 0, 0)) := by decide +kernel
theorem i_23_95 : a_ins 23 95 = some (.iload 5, (0, 0, 0)) := by decide +kernel
theorem i_23_97 : a_ins 23 97 = some (.invokestatic 113, (1, 25, 5)) := by decide +kernel
theorem i_23_100 : a_ins 23 100 = some (.ifCond .eq 11, (0, 0, 0)) := by decide +kernel
theorem i_23_103 : a_ins 23 103 = some (.aload_n 0, (0, 0, 0)) := by decide +kernel
theorem i_23_104 : a_ins 23 104 = some (.iload_n 1, (0, 0, 0)) := by decide +kernel
theorem i_23_105 : a_ins 23 105 = some (.aload_n 3, (0, 0, 0)) := by decide +kernel
theorem i_23_106 : a_ins 23 106 = some (.iload 7, (0, 0, 0)) := by decide +kernel
theorem i_23_108 : a_ins 23 108 = some (.invokevirtual 59, (0, 15, 3)) := by decide +kernel
theorem i_23_111 : a_ins 23 111 = some (.iinc 7 1, (0, 0, 0)) := by decide +kernel
theorem i_23_114 : a_ins 23 114 = some (.goto (-89), (0, 0, 0)) := by decide +kernel
theorem i_23_117 : a_ins 23 117 = some (.return_, (0, 0, 0)) := by decide +kernel
theorem i_24_0 : a_ins 24 0 = some (.aload_n 0, (0, 0, 0)) := by decide +kernel
theorem i_24_1 : a_ins 24 1 = some (.getfield 27, (0, 3, 179)) := by decide +kernel
theorem i_24_4 : a_ins 24 4 = some (.iload_n 1, (0, 0, 0)) := by decide +kernel
theorem i_24_5 : a_ins 24 5 = some (.iaload, (0, 0, 0)) := by decide +kernel
theorem i_24_6 : a_ins 24 6 = some (.iload_n 2, (0, 0, 0)) := by decide +kernel
theorem i_24_7 : a_ins 24 7 = some (.if_icmp .gt 17, (0, 0, 0)) := by decide +kernel
theorem i_24_10 : a_ins 24 10 = some (.iload_n 2, (0, 0, 0)) := by decide +kernel
theorem i_24_11 : a_ins 24 11 = some (.aload_n 0, (0, 0, 0)) := by decide +kernel
theorem i_24_12 : a_ins 24 12 = some (.getfield 30, (0, 4, 182)) := by decide +kernel
theorem i_24_15 : a_ins 24 15 = some (.iload_n 1, (0, 0, 0)) := by decide +kernel
theorem i_24_16 : a_ins 24 16 = some (.iaload, (0, 0, 0)) := by decide +kernel
theorem i_24_17 : a_ins 24 17 = some (.if_icmp .gt 7, (0, 0, 0)) := by decide +kernel
theorem i_24_20 : a_ins 24 20 = some (.iconst 1, (0, 0, 0)) := by decide +kernel
theorem i_24_21 : a_ins 24 21 = some (.goto 4, (0, 0, 0)) := by decide +kernel
theorem i_24_24 : a_ins 24 24 = some (.iconst 0, (0, 0, 0)) := by decide +kernel
theorem i_24_25 : a_ins 24 25 = some (.ireturn, (0, 0, 0)) := by decide +kernel
theorem i_25_0 : a_ins 25 0 = some (.iconst 0, (0, 0, 0)) := by decide +kernel
theorem i_25_1 : a_ins 25 1 = some (.istore 5, (0, 0, 0)) := by decide +kernel
theorem i_25_3 : a_ins 25 3 = some (.iload 5, (0, 0, 0)) := by decide +kernel
theorem i_25_5 : a_ins 25 5 = some (.iload 4, (0, 0, 0)) := by decide +kernel
theorem i_25_7 : a_ins 25 7 = some (.if_icmp .ge 35, (0, 0, 0)) := by decide +kernel
theorem i_25_10 : a_ins 25 10 = some (.aload_n 2, (0, 0, 0)) := by decide +kernel
theorem i_25_11 : a_ins 25 11 = some (.iload_n 3, (0, 0, 0)) := by decide +kernel
theorem i_25_12 : a_ins 25 12 = some (.iload 5, (0, 0, 0)) := by decide +kernel
theorem i_25_14 : a_ins 25 14 = some (.iadd, (0, 0, 0)) := by decide +kernel
theorem i_25_15 : a_ins 25 15 = some (.caload, (0, 0, 0)) := by decide +kernel
theorem i_25_16 : a_ins 25 16 = some (.invokestatic 17, (1, 26, 1)) := by decide +kernel
theorem i_25_19 : a_ins 25 19 = some (.ifCond .eq 17, (0, 0, 0)) := by decide +kernel
theorem i_25_22 : a_ins 25 22 = some (.aload_n 0, (0, 0, 0)) := by decide +kernel
theorem i_25_23 : a_ins 25 23 = some (.iload_n 1, (0, 0, 0)) := by decide +kernel
theorem i_25_24 : a_ins 25 24 = some (.iload 5, (0, 0, 0)) := by decide +kernel
theorem i_25_26 : a_ins 25 26 = some (.iadd, (0, 0, 0)) := by decide +kernel
theorem i_25_27 : a_ins 25 27 = some (.caload, (0, 0, 0)) := by decide +kernel
theorem i_25_28 : a_ins 25 28 = some (.invokestatic 17, (1, 26, 1)) := by decide +kernel
theorem i_25_31 : a_ins 25 31 = some (.ifCond .ne 5, (0, 0, 0)) := by decide +kernel
theorem i_25_34 : a_ins 25 34 = some (.iconst 0, (0, 0, 0)) := by decide +kernel
theorem i_25_35 : a_ins 25 35 = some (.ireturn, (0, 0, 0)) := by decide +kernel
theorem i_25_36 : a_ins 25 36 = some (.iinc 5 1, (0, 0, 0)) := by decide +kernel
theorem i_25_39 : a_ins 25 39 = some (.goto (-36), (0, 0, 0)) := by decide +kernel
theorem i_25_42 : a_ins 25 42 = some (.iconst 1, (0, 0, 0)) := by decide +kernel
theorem i_25_43 : a_ins 25 43 = some (.ireturn, (0, 0, 0)) := by decide +kernel
theorem i_26_0 : a_ins 26 0 = some (.iload_n 0, (0, 0, 0)) := by decide +kernel
theorem i_26_1 : a_ins 26 1 = some (.bipush 65, (0, 0, 0)) := by decide +kernel
theorem i_26_3 : a_ins 26 3 = some (.if_icmp .lt 13, (0, 0, 0)) := by decide +kernel
theorem i_26_6 : a_ins 26 6 = some (.iload_n 0, (0, 0, 0)) := by decide +kernel
theorem i_26_7 : a_ins 26 7 = some (.bipush 90, (0, 0, 0)) := by decide +kernel
theorem i_26_9 : a_ins 26 9 = some (.if_icmp .gt 7, (0, 0, 0)) := by decide +kernel
theorem i_26_12 : a_ins 26 12 = some (.iconst 1, (0, 0, 0)) := by decide +kernel
theorem i_26_13 : a_ins 26 13 = some (.goto 4, (0, 0, 0)) := by decide +kernel
theorem i_26_16 : a_ins 26 16 = some (.iconst 0, (0, 0, 0)) := by decide +kernel
theorem i_26_17 : a_ins 26 17 = some (.ireturn, (0, 0, 0)) := by decide +kernel
theorem i_27_0 : a_ins 27 0 = some (.aload_n 2, (0, 0, 0)) := by decide +kernel
theorem i_27_1 : a_ins 27 1 = some (.getfield 51, (5, 1, 518)) := by decide +kernel
theorem i_27_4 : a_ins 27 4 = some (.iload_n 1, (0, 0, 0)) := by decide +kernel
theorem i_27_5 : a_ins 27 5 = some (.iaload, (0, 0, 0)) := by decide +kernel
theorem i_27_6 : a_ins 27 6 = some (.istore 4, (0, 0, 0)) := by decide +kernel
theorem i_27_8 : a_ins 27 8 = some (.aload_n 2, (0, 0, 0)) := by decide +kernel
theorem i_27_9 : a_ins 27 9 = some (.getfield 56, (5, 2, 521)) := by decide +kernel
theorem i_27_12 : a_ins 27 12 = some (.iload_n 1, (0, 0, 0)) := by decide +kernel
theorem i_27_13 : a_ins 27 13 = some (.iaload, (0, 0, 0)) := by decide +kernel
theorem i_27_14 : a_ins 27 14 = some (.istore 5, (0, 0, 0)) := by decide +kernel
theorem i_27_16 : a_ins 27 16 = some (.aload_n 3, (0, 0, 0)) := by decide +kernel
theorem i_27_17 : a_ins 27 17 = some (.getfield 119, (0, 6, 190)) := by decide +kernel
theorem i_27_20 : a_ins 27 20 = some (.astore 6, (0, 0, 0)) := by decide +kernel
theorem i_27_22 : a_ins 27 22 = some (.iconst 0, (0, 0, 0)) := by decide +kernel
theorem i_27_23 : a_ins 27 23 = some (.istore 7, (0, 0, 0)) := by decide +kernel
theorem i_27_25 : a_ins 27 25 = some (.iload 7, (0, 0, 0)) := by decide +kernel
theorem i_27_27 : a_ins 27 27 = some (.aload 6, (0, 0, 0)) := by decide +kernel
theorem i_27_29 : a_ins 27 29 = some (.getfield 92, (3, 2, 158)) := by decide +kernel
theorem i_27_32 : a_ins 27 32 = some (.if_icmp .ge 164, (0, 0, 0)) := by decide +kernel
theorem i_27_35 : a_ins 27 35 = some (.aload 6, (0, 0, 0)) := by decide +kernel
theorem i_27_37 : a_ins 27 37 = some (.getfield 122, (3, 1, 152)) := by decide +kernel
theorem i_27_40 : a_ins 27 40 = some (.iload 7, (0, 0, 0)) := by decide +kernel
theorem i_27_42 : a_ins 27 42 = some (.iaload, (0, 0, 0)) := by decide +kernel
theorem i_27_43 : a_ins 27 43 = some (.istore 8, (0, 0, 0)) := by decide +kernel
theorem i_27_45 : a_ins 27 45 = some (.iload 4, (0, 0, 0)) := by decide +kernel
theorem i_27_47 : a_ins 27 47 = some (.iload 5, (0, 0, 0)) := by decide +kernel
theorem i_27_49 : a_ins 27 49 = some (.iadd, (0, 0, 0)) := by decide +kernel
theorem i_27_50 : a_ins 27 50 = some (.iload 8, (0, 0, 0)) := by decide +kernel
theorem i_27_52 : a_ins 27 52 = some (.isub, (0, 0, 0)) := by decide +kernel
theorem i_27_53 : a_ins 27 53 = some (.istore 9, (0, 0, 0)) := by decide +kernel
theorem i_27_55 : a_ins 27 55 = some (.iload 8, (0, 0, 0)) := by decide +kernel
theorem i_27_57 : a_ins 27 57 = some (.iload 5, (0, 0, 0)) := by decide +kernel
theorem i_27_59 : a_ins 27 59 = some (.if_icmp .gt 131, (0, 0, 0)) := by decide +kernel
theorem i_27_62 : a_ins 27 62 = some (.aload 6, (0, 0, 0)) := by decide +kernel
theorem i_27_64 : a_ins 27 64 = some (.iload 7, (0, 0, 0)) := by decide +kernel
theorem i_27_66 : a_ins 27 66 = some (.aload_n 2, (0, 0, 0)) := by decide +kernel
theorem i_27_67 : a_ins 27 67 = some (.getfield 67, (5, 0, 515)) := by decide +kernel
theorem i_27_70 : a_ins 27 70 = some (.iload 9, (0, 0, 0)) := by decide +kernel
theorem i_27_72 : a_ins 27 72 = some (.iload 8, (0, 0, 0)) := by decide +kernel
theorem i_27_74 : a_ins 27 74 = some (.invokevirtual 95, (0, 21, 4)) := by decide +kernel
theorem i_27_77 : a_ins 27 77 = some (.ifCond .eq 113, (0, 0, 0)) := by decide +kernel
theorem i_27_80 : a_ins 27 80 = some (.aload 6, (0, 0, 0)) := by decide +kernel
theorem i_27_82 : a_ins 27 82 = some (.getfield 106, (3, 0, 150)) := by decide +kernel
theorem i_27_85 : a_ins 27 85 = some (.aload 6, (0, 0, 0)) := by decide +kernel
