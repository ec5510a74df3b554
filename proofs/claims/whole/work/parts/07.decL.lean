theorem dc_Law_law_0 : decode code 0 = .ok (.new 7, 3) := by decide +kernel
theorem dc_Law_law_3 : decode code 3 = .ok (.dup, 1) := by decide +kernel
theorem dc_Law_law_4 : decode code 4 = .ok (.invokespecial 9, 3) := by decide +kernel
theorem dc_Law_law_7 : decode code 7 = .ok (.astore_n 1, 1) := by decide +kernel
theorem dc_Law_law_8 : decode code 8 = .ok (.new 10, 3) := by decide +kernel
theorem dc_Law_law_11 : decode code 11 = .ok (.dup, 1) := by decide +kernel
theorem dc_Law_law_12 : decode code 12 = .ok (.invokespecial 12, 3) := by decide +kernel
theorem dc_Law_law_15 : decode code 15 = .ok (.astore_n 2, 1) := by decide +kernel
theorem dc_Law_law_16 : decode code 16 = .ok (.iconst 0, 1) := by decide +kernel
theorem dc_Law_law_17 : decode code 17 = .ok (.istore_n 3, 1) := by decide +kernel
theorem dc_Law_law_18 : decode code 18 = .ok (.iload_n 3, 1) := by decide +kernel
theorem dc_Law_law_19 : decode code 19 = .ok (.aload_n 0, 1) := by decide +kernel
theorem dc_Law_law_20 : decode code 20 = .ok (.arraylength, 1) := by decide +kernel
theorem dc_Law_law_21 : decode code 21 = .ok (.iconst 5, 1) := by decide +kernel
theorem dc_Law_law_22 : decode code 22 = .ok (.isub, 1) := by decide +kernel
theorem dc_Law_law_23 : decode code 23 = .ok (.if_icmp .gt 564, 3) := by decide +kernel
theorem dc_Law_law_26 : decode code 26 = .ok (.aload_n 0, 1) := by decide +kernel
theorem dc_Law_law_27 : decode code 27 = .ok (.iload_n 3, 1) := by decide +kernel
theorem dc_Law_law_28 : decode code 28 = .ok (.iaload, 1) := by decide +kernel
theorem dc_Law_law_29 : decode code 29 = .ok (.bipush 15, 2) := by decide +kernel
theorem dc_Law_law_31 : decode code 31 = .ok (.iand, 1) := by decide +kernel
theorem dc_Law_law_32 : decode code 32 = .ok (.tableswitch 549 0 15 #[80, 103, 116, 159, 172, 215, 248, 301, 324, 347, 370, 403, 446, 479, 503, 526], 80) := by decide +kernel
theorem dc_Law_law_112 : decode code 112 = .ok (.aload_n 1, 1) := by decide +kernel
theorem dc_Law_law_113 : decode code 113 = .ok (.aload_n 0, 1) := by decide +kernel
theorem dc_Law_law_114 : decode code 114 = .ok (.iload_n 3, 1) := by decide +kernel
theorem dc_Law_law_115 : decode code 115 = .ok (.iconst 1, 1) := by decide +kernel
theorem dc_Law_law_116 : decode code 116 = .ok (.iadd, 1) := by decide +kernel
theorem dc_Law_law_117 : decode code 117 = .ok (.iaload, 1) := by decide +kernel
theorem dc_Law_law_118 : decode code 118 = .ok (.invokevirtual 13, 3) := by decide +kernel
theorem dc_Law_law_121 : decode code 121 = .ok (.aload_n 2, 1) := by decide +kernel
theorem dc_Law_law_122 : decode code 122 = .ok (.aload_n 0, 1) := by decide +kernel
theorem dc_Law_law_123 : decode code 123 = .ok (.iload_n 3, 1) := by decide +kernel
theorem dc_Law_law_124 : decode code 124 = .ok (.iconst 1, 1) := by decide +kernel
theorem dc_Law_law_125 : decode code 125 = .ok (.iadd, 1) := by decide +kernel
theorem dc_Law_law_126 : decode code 126 = .ok (.iaload, 1) := by decide +kernel
theorem dc_Law_law_127 : decode code 127 = .ok (.invokevirtual 17, 3) := by decide +kernel
theorem dc_Law_law_130 : decode code 130 = .ok (.if_icmp .eq 451, 3) := by decide +kernel
theorem dc_Law_law_133 : decode code 133 = .ok (.iconst 0, 1) := by decide +kernel
theorem dc_Law_law_134 : decode code 134 = .ok (.ireturn, 1) := by decide +kernel
theorem dc_Law_law_135 : decode code 135 = .ok (.aload_n 1, 1) := by decide +kernel
theorem dc_Law_law_136 : decode code 136 = .ok (.invokevirtual 18, 3) := by decide +kernel
theorem dc_Law_law_139 : decode code 139 = .ok (.aload_n 2, 1) := by decide +kernel
theorem dc_Law_law_140 : decode code 140 = .ok (.invokevirtual 22, 3) := by decide +kernel
theorem dc_Law_law_143 : decode code 143 = .ok (.if_icmp .eq 438, 3) := by decide +kernel
theorem dc_Law_law_146 : decode code 146 = .ok (.iconst 0, 1) := by decide +kernel
theorem dc_Law_law_147 : decode code 147 = .ok (.ireturn, 1) := by decide +kernel
theorem dc_Law_law_148 : decode code 148 = .ok (.aload_n 1, 1) := by decide +kernel
theorem dc_Law_law_149 : decode code 149 = .ok (.aload_n 0, 1) := by decide +kernel
theorem dc_Law_law_150 : decode code 150 = .ok (.iload_n 3, 1) := by decide +kernel
theorem dc_Law_law_151 : decode code 151 = .ok (.iconst 1, 1) := by decide +kernel
theorem dc_Law_law_152 : decode code 152 = .ok (.iadd, 1) := by decide +kernel
theorem dc_Law_law_153 : decode code 153 = .ok (.iaload, 1) := by decide +kernel
theorem dc_Law_law_154 : decode code 154 = .ok (.aload_n 0, 1) := by decide +kernel
theorem dc_Law_law_155 : decode code 155 = .ok (.iload_n 3, 1) := by decide +kernel
theorem dc_Law_law_156 : decode code 156 = .ok (.iconst 2, 1) := by decide +kernel
theorem dc_Law_law_157 : decode code 157 = .ok (.iadd, 1) := by decide +kernel
theorem dc_Law_law_158 : decode code 158 = .ok (.iaload, 1) := by decide +kernel
theorem dc_Law_law_159 : decode code 159 = .ok (.aload_n 0, 1) := by decide +kernel
theorem dc_Law_law_160 : decode code 160 = .ok (.iload_n 3, 1) := by decide +kernel
theorem dc_Law_law_161 : decode code 161 = .ok (.iconst 3, 1) := by decide +kernel
theorem dc_Law_law_162 : decode code 162 = .ok (.iadd, 1) := by decide +kernel
theorem dc_Law_law_163 : decode code 163 = .ok (.iaload, 1) := by decide +kernel
theorem dc_Law_law_164 : decode code 164 = .ok (.invokevirtual 23, 3) := by decide +kernel
theorem dc_Law_law_167 : decode code 167 = .ok (.aload_n 2, 1) := by decide +kernel
theorem dc_Law_law_168 : decode code 168 = .ok (.aload_n 0, 1) := by decide +kernel
theorem dc_Law_law_169 : decode code 169 = .ok (.iload_n 3, 1) := by decide +kernel
theorem dc_Law_law_170 : decode code 170 = .ok (.iconst 1, 1) := by decide +kernel
theorem dc_Law_law_171 : decode code 171 = .ok (.iadd, 1) := by decide +kernel
theorem dc_Law_law_172 : decode code 172 = .ok (.iaload, 1) := by decide +kernel
theorem dc_Law_law_173 : decode code 173 = .ok (.aload_n 0, 1) := by decide +kernel
theorem dc_Law_law_174 : decode code 174 = .ok (.iload_n 3, 1) := by decide +kernel
theorem dc_Law_law_175 : decode code 175 = .ok (.iconst 2, 1) := by decide +kernel
theorem dc_Law_law_176 : decode code 176 = .ok (.iadd, 1) := by decide +kernel
theorem dc_Law_law_177 : decode code 177 = .ok (.iaload, 1) := by decide +kernel
theorem dc_Law_law_178 : decode code 178 = .ok (.aload_n 0, 1) := by decide +kernel
theorem dc_Law_law_179 : decode code 179 = .ok (.iload_n 3, 1) := by decide +kernel
theorem dc_Law_law_180 : decode code 180 = .ok (.iconst 3, 1) := by decide +kernel
theorem dc_Law_law_181 : decode code 181 = .ok (.iadd, 1) := by decide +kernel
theorem dc_Law_law_182 : decode code 182 = .ok (.iaload, 1) := by decide +kernel
theorem dc_Law_law_183 : decode code 183 = .ok (.invokevirtual 27, 3) := by decide +kernel
theorem dc_Law_law_186 : decode code 186 = .ok (.if_icmp .eq 395, 3) := by decide +kernel
theorem dc_Law_law_189 : decode code 189 = .ok (.iconst 0, 1) := by decide +kernel
theorem dc_Law_law_190 : decode code 190 = .ok (.ireturn, 1) := by decide +kernel
theorem dc_Law_law_191 : decode code 191 = .ok (.aload_n 1, 1) := by decide +kernel
theorem dc_Law_law_192 : decode code 192 = .ok (.invokevirtual 28, 3) := by decide +kernel
theorem dc_Law_law_195 : decode code 195 = .ok (.aload_n 2, 1) := by decide +kernel
theorem dc_Law_law_196 : decode code 196 = .ok (.invokevirtual 31, 3) := by decide +kernel
theorem dc_Law_law_199 : decode code 199 = .ok (.if_icmp .eq 382, 3) := by decide +kernel
theorem dc_Law_law_202 : decode code 202 = .ok (.iconst 0, 1) := by decide +kernel
theorem dc_Law_law_203 : decode code 203 = .ok (.ireturn, 1) := by decide +kernel
theorem dc_Law_law_204 : decode code 204 = .ok (.aload_n 1, 1) := by decide +kernel
theorem dc_Law_law_205 : decode code 205 = .ok (.aload_n 0, 1) := by decide +kernel
theorem dc_Law_law_206 : decode code 206 = .ok (.iload_n 3, 1) := by decide +kernel
theorem dc_Law_law_207 : decode code 207 = .ok (.iconst 1, 1) := by decide +kernel
theorem dc_Law_law_208 : decode code 208 = .ok (.iadd, 1) := by decide +kernel
theorem dc_Law_law_209 : decode code 209 = .ok (.iaload, 1) := by decide +kernel
theorem dc_Law_law_210 : decode code 210 = .ok (.aload_n 0, 1) := by decide +kernel
theorem dc_Law_law_211 : decode code 211 = .ok (.iload_n 3, 1) := by decide +kernel
theorem dc_Law_law_212 : decode code 212 = .ok (.iconst 2, 1) := by decide +kernel
theorem dc_Law_law_213 : decode code 213 = .ok (.iadd, 1) := by decide +kernel
theorem dc_Law_law_214 : decode code 214 = .ok (.iaload, 1) := by decide +kernel
theorem dc_Law_law_215 : decode code 215 = .ok (.aload_n 0, 1) := by decide +kernel
theorem dc_Law_law_216 : decode code 216 = .ok (.iload_n 3, 1) := by decide +kernel
theorem dc_Law_law_217 : decode code 217 = .ok (.iconst 3, 1) := by decide +kernel
theorem dc_Law_law_218 : decode code 218 = .ok (.iadd, 1) := by decide +kernel
theorem dc_Law_law_219 : decode code 219 = .ok (.iaload, 1) := by decide +kernel
theorem dc_Law_law_220 : decode code 220 = .ok (.invokevirtual 32, 3) := by decide +kernel
theorem dc_Law_law_223 : decode code 223 = .ok (.aload_n 2, 1) := by decide +kernel
theorem dc_Law_law_224 : decode code 224 = .ok (.aload_n 0, 1) := by decide +kernel
theorem dc_Law_law_225 : decode code 225 = .ok (.iload_n 3, 1) := by decide +kernel
theorem dc_Law_law_226 : decode code 226 = .ok (.iconst 1, 1) := by decide +kernel
theorem dc_Law_law_227 : decode code 227 = .ok (.iadd, 1) := by decide +kernel
theorem dc_Law_law_228 : decode code 228 = .ok (.iaload, 1) := by decide +kernel
theorem dc_Law_law_229 : decode code 229 = .ok (.aload_n 0, 1) := by decide +kernel
theorem dc_Law_law_230 : decode code 230 = .ok (.iload_n 3, 1) := by decide +kernel
theorem dc_Law_law_231 : decode code 231 = .ok (.iconst 2, 1) := by decide +kernel
theorem dc_Law_law_232 : decode code 232 = .ok (.iadd, 1) := by decide +kernel
theorem dc_Law_law_233 : decode code 233 = .ok (.iaload, 1) := by decide +kernel
theorem dc_Law_law_234 : decode code 234 = .ok (.aload_n 0, 1) := by decide +kernel
theorem dc_Law_law_235 : decode code 235 = .ok (.iload_n 3, 1) := by decide +kernel
theorem dc_Law_law_236 : decode code 236 = .ok (.iconst 3, 1) := by decide +kernel
theorem dc_Law_law_237 : decode code 237 = .ok (.iadd, 1) := by decide +kernel
theorem dc_Law_law_238 : decode code 238 = .ok (.iaload, 1) := by decide +kernel
theorem dc_Law_law_239 : decode code 239 = .ok (.invokevirtual 35, 3) := by decide +kernel
theorem dc_Law_law_242 : decode code 242 = .ok (.if_icmp .eq 339, 3) := by decide +kernel
theorem dc_Law_law_245 : decode code 245 = .ok (.iconst 0, 1) := by decide +kernel
theorem dc_Law_law_246 : decode code 246 = .ok (.ireturn, 1) := by decide +kernel
theorem dc_Law_law_247 : decode code 247 = .ok (.aload_n 1, 1) := by decide +kernel
theorem dc_Law_law_248 : decode code 248 = .ok (.aload_n 0, 1) := by decide +kernel
theorem dc_Law_law_249 : decode code 249 = .ok (.iload_n 3, 1) := by decide +kernel
theorem dc_Law_law_250 : decode code 250 = .ok (.iconst 1, 1) := by decide +kernel
theorem dc_Law_law_251 : decode code 251 = .ok (.iadd, 1) := by decide +kernel
theorem dc_Law_law_252 : decode code 252 = .ok (.iaload, 1) := by decide +kernel
theorem dc_Law_law_253 : decode code 253 = .ok (.aload_n 0, 1) := by decide +kernel
theorem dc_Law_law_254 : decode code 254 = .ok (.iload_n 3, 1) := by decide +kernel
theorem dc_Law_law_255 : decode code 255 = .ok (.iconst 2, 1) := by decide +kernel
theorem dc_Law_law_256 : decode code 256 = .ok (.iadd, 1) := by decide +kernel
theorem dc_Law_law_257 : decode code 257 = .ok (.iaload, 1) := by decide +kernel
theorem dc_Law_law_258 : decode code 258 = .ok (.invokevirtual 36, 3) := by decide +kernel
theorem dc_Law_law_261 : decode code 261 = .ok (.aload_n 2, 1) := by decide +kernel
theorem dc_Law_law_262 : decode code 262 = .ok (.aload_n 0, 1) := by decide +kernel
theorem dc_Law_law_263 : decode code 263 = .ok (.iload_n 3, 1) := by decide +kernel
theorem dc_Law_law_264 : decode code 264 = .ok (.iconst 1, 1) := by decide +kernel
theorem dc_Law_law_265 : decode code 265 = .ok (.iadd, 1) := by decide +kernel
theorem dc_Law_law_266 : decode code 266 = .ok (.iaload, 1) := by decide +kernel
theorem dc_Law_law_267 : decode code 267 = .ok (.aload_n 0, 1) := by decide +kernel
theorem dc_Law_law_268 : decode code 268 = .ok (.iload_n 3, 1) := by decide +kernel
theorem dc_Law_law_269 : decode code 269 = .ok (.iconst 2, 1) := by decide +kernel
theorem dc_Law_law_270 : decode code 270 = .ok (.iadd, 1) := by decide +kernel
theorem dc_Law_law_271 : decode code 271 = .ok (.iaload, 1) := by decide +kernel
theorem dc_Law_law_272 : decode code 272 = .ok (.invokevirtual 40, 3) := by decide +kernel
theorem dc_Law_law_275 : decode code 275 = .ok (.if_icmp .eq 306, 3) := by decide +kernel
theorem dc_Law_law_278 : decode code 278 = .ok (.iconst 0, 1) := by decide +kernel
theorem dc_Law_law_279 : decode code 279 = .ok (.ireturn, 1) := by decide +kernel
theorem dc_Law_law_280 : decode code 280 = .ok (.aload_n 1, 1) := by decide +kernel
theorem dc_Law_law_281 : decode code 281 = .ok (.aload_n 0, 1) := by decide +kernel
theorem dc_Law_law_282 : decode code 282 = .ok (.iload_n 3, 1) := by decide +kernel
theorem dc_Law_law_283 : decode code 283 = .ok (.iconst 1, 1) := by decide +kernel
theorem dc_Law_law_284 : decode code 284 = .ok (.iadd, 1) := by decide +kernel
theorem dc_Law_law_285 : decode code 285 = .ok (.iaload, 1) := by decide +kernel
theorem dc_Law_law_286 : decode code 286 = .ok (.aload_n 0, 1) := by decide +kernel
theorem dc_Law_law_287 : decode code 287 = .ok (.iload_n 3, 1) := by decide +kernel
theorem dc_Law_law_288 : decode code 288 = .ok (.iconst 2, 1) := by decide +kernel
theorem dc_Law_law_289 : decode code 289 = .ok (.iadd, 1) := by decide +kernel
theorem dc_Law_law_290 : decode code 290 = .ok (.iaload, 1) := by decide +kernel
theorem dc_Law_law_291 : decode code 291 = .ok (.aload_n 0, 1) := by decide +kernel
theorem dc_Law_law_292 : decode code 292 = .ok (.iload_n 3, 1) := by decide +kernel
theorem dc_Law_law_293 : decode code 293 = .ok (.iconst 3, 1) := by decide +kernel
theorem dc_Law_law_294 : decode code 294 = .ok (.iadd, 1) := by decide +kernel
theorem dc_Law_law_295 : decode code 295 = .ok (.iaload, 1) := by decide +kernel
theorem dc_Law_law_296 : decode code 296 = .ok (.aload_n 0, 1) := by decide +kernel
theorem dc_Law_law_297 : decode code 297 = .ok (.iload_n 3, 1) := by decide +kernel
theorem dc_Law_law_298 : decode code 298 = .ok (.iconst 4, 1) := by decide +kernel
theorem dc_Law_law_299 : decode code 299 = .ok (.iadd, 1) := by decide +kernel
theorem dc_Law_law_300 : decode code 300 = .ok (.iaload, 1) := by decide +kernel
theorem dc_Law_law_301 : decode code 301 = .ok (.invokevirtual 41, 3) := by decide +kernel
theorem dc_Law_law_304 : decode code 304 = .ok (.aload_n 2, 1) := by decide +kernel
theorem dc_Law_law_305 : decode code 305 = .ok (.aload_n 0, 1) := by decide +kernel
theorem dc_Law_law_306 : decode code 306 = .ok (.iload_n 3, 1) := by decide +kernel
theorem dc_Law_law_307 : decode code 307 = .ok (.iconst 1, 1) := by decide +kernel
theorem dc_Law_law_308 : decode code 308 = .ok (.iadd, 1) := by decide +kernel
theorem dc_Law_law_309 : decode code 309 = .ok (.iaload, 1) := by decide +kernel
theorem dc_Law_law_310 : decode code 310 = .ok (.aload_n 0, 1) := by decide +kernel
theorem dc_Law_law_311 : decode code 311 = .ok (.iload_n 3, 1) := by decide +kernel
theorem dc_Law_law_312 : decode code 312 = .ok (.iconst 2, 1) := by decide +kernel
theorem dc_Law_law_313 : decode code 313 = .ok (.iadd, 1) := by decide +kernel
theorem dc_Law_law_314 : decode code 314 = .ok (.iaload, 1) := by decide +kernel
theorem dc_Law_law_315 : decode code 315 = .ok (.aload_n 0, 1) := by decide +kernel
theorem dc_Law_law_316 : decode code 316 = .ok (.iload_n 3, 1) := by decide +kernel
theorem dc_Law_law_317 : decode code 317 = .ok (.iconst 3, 1) := by decide +kernel
theorem dc_Law_law_318 : decode code 318 = .ok (.iadd, 1) := by decide +kernel
theorem dc_Law_law_319 : decode code 319 = .ok (.iaload, 1) := by decide +kernel
theorem dc_Law_law_320 : decode code 320 = .ok (.aload_n 0, 1) := by decide +kernel
theorem dc_Law_law_321 : decode code 321 = .ok (.iload_n 3, 1) := by decide +kernel
theorem dc_Law_law_322 : decode code 322 = .ok (.iconst 4, 1) := by decide +kernel
theorem dc_Law_law_323 : decode code 323 = .ok (.iadd, 1) := by decide +kernel
theorem dc_Law_law_324 : decode code 324 = .ok (.iaload, 1) := by decide +kernel
theorem dc_Law_law_325 : decode code 325 = .ok (.invokevirtual 45, 3) := by decide +kernel
theorem dc_Law_law_328 : decode code 328 = .ok (.if_icmp .eq 253, 3) := by decide +kernel
theorem dc_Law_law_331 : decode code 331 = .ok (.iconst 0, 1) := by decide +kernel
theorem dc_Law_law_332 : decode code 332 = .ok (.ireturn, 1) := by decide +kernel
theorem dc_Law_law_333 : decode code 333 = .ok (.aload_n 1, 1) := by decide +kernel
theorem dc_Law_law_334 : decode code 334 = .ok (.aload_n 0, 1) := by decide +kernel
theorem dc_Law_law_335 : decode code 335 = .ok (.iload_n 3, 1) := by decide +kernel
theorem dc_Law_law_336 : decode code 336 = .ok (.iconst 1, 1) := by decide +kernel
theorem dc_Law_law_337 : decode code 337 = .ok (.iadd, 1) := by decide +kernel
theorem dc_Law_law_338 : decode code 338 = .ok (.iaload, 1) := by decide +kernel
theorem dc_Law_law_339 : decode code 339 = .ok (.invokevirtual 46, 3) := by decide +kernel
theorem dc_Law_law_342 : decode code 342 = .ok (.aload_n 2, 1) := by decide +kernel
theorem dc_Law_law_343 : decode code 343 = .ok (.aload_n 0, 1) := by decide +kernel
theorem dc_Law_law_344 : decode code 344 = .ok (.iload_n 3, 1) := by decide +kernel
theorem dc_Law_law_345 : decode code 345 = .ok (.iconst 1, 1) := by decide +kernel
theorem dc_Law_law_346 : decode code 346 = .ok (.iadd, 1) := by decide +kernel
theorem dc_Law_law_347 : decode code 347 = .ok (.iaload, 1) := by decide +kernel
theorem dc_Law_law_348 : decode code 348 = .ok (.invokevirtual 49, 3) := by decide +kernel
theorem dc_Law_law_351 : decode code 351 = .ok (.if_icmp .eq 230, 3) := by decide +kernel
theorem dc_Law_law_354 : decode code 354 = .ok (.iconst 0, 1) := by decide +kernel
theorem dc_Law_law_355 : decode code 355 = .ok (.ireturn, 1) := by decide +kernel
theorem dc_Law_law_356 : decode code 356 = .ok (.aload_n 1, 1) := by decide +kernel
theorem dc_Law_law_357 : decode code 357 = .ok (.aload_n 0, 1) := by decide +kernel
theorem dc_Law_law_358 : decode code 358 = .ok (.iload_n 3, 1) := by decide +kernel
theorem dc_Law_law_359 : decode code 359 = .ok (.iconst 1, 1) := by decide +kernel
theorem dc_Law_law_360 : decode code 360 = .ok (.iadd, 1) := by decide +kernel
theorem dc_Law_law_361 : decode code 361 = .ok (.iaload, 1) := by decide +kernel
theorem dc_Law_law_362 : decode code 362 = .ok (.invokevirtual 50, 3) := by decide +kernel
theorem dc_Law_law_365 : decode code 365 = .ok (.aload_n 2, 1) := by decide +kernel
theorem dc_Law_law_366 : decode code 366 = .ok (.aload_n 0, 1) := by decide +kernel
theorem dc_Law_law_367 : decode code 367 = .ok (.iload_n 3, 1) := by decide +kernel
theorem dc_Law_law_368 : decode code 368 = .ok (.iconst 1, 1) := by decide +kernel
theorem dc_Law_law_369 : decode code 369 = .ok (.iadd, 1) := by decide +kernel
theorem dc_Law_law_370 : decode code 370 = .ok (.iaload, 1) := by decide +kernel
theorem dc_Law_law_371 : decode code 371 = .ok (.invokevirtual 53, 3) := by decide +kernel
theorem dc_Law_law_374 : decode code 374 = .ok (.if_icmp .eq 207, 3) := by decide +kernel
theorem dc_Law_law_377 : decode code 377 = .ok (.iconst 0, 1) := by decide +kernel
theorem dc_Law_law_378 : decode code 378 = .ok (.ireturn, 1) := by decide +kernel
theorem dc_Law_law_379 : decode code 379 = .ok (.aload_n 1, 1) := by decide +kernel
theorem dc_Law_law_380 : decode code 380 = .ok (.aload_n 0, 1) := by decide +kernel
theorem dc_Law_law_381 : decode code 381 = .ok (.iload_n 3, 1) := by decide +kernel
theorem dc_Law_law_382 : decode code 382 = .ok (.iconst 1, 1) := by decide +kernel
theorem dc_Law_law_383 : decode code 383 = .ok (.iadd, 1) := by decide +kernel
theorem dc_Law_law_384 : decode code 384 = .ok (.iaload, 1) := by decide +kernel
theorem dc_Law_law_385 : decode code 385 = .ok (.invokevirtual 54, 3) := by decide +kernel
theorem dc_Law_law_388 : decode code 388 = .ok (.aload_n 2, 1) := by decide +kernel
theorem dc_Law_law_389 : decode code 389 = .ok (.aload_n 0, 1) := by decide +kernel
theorem dc_Law_law_390 : decode code 390 = .ok (.iload_n 3, 1) := by decide +kernel
theorem dc_Law_law_391 : decode code 391 = .ok (.iconst 1, 1) := by decide +kernel
theorem dc_Law_law_392 : decode code 392 = .ok (.iadd, 1) := by decide +kernel
theorem dc_Law_law_393 : decode code 393 = .ok (.iaload, 1) := by decide +kernel
theorem dc_Law_law_394 : decode code 394 = .ok (.invokevirtual 57, 3) := by decide +kernel
theorem dc_Law_law_397 : decode code 397 = .ok (.if_icmp .eq 184, 3) := by decide +kernel
theorem dc_Law_law_400 : decode code 400 = .ok (.iconst 0, 1) := by decide +kernel
theorem dc_Law_law_401 : decode code 401 = .ok (.ireturn, 1) := by decide +kernel
theorem dc_Law_law_402 : decode code 402 = .ok (.aload_n 1, 1) := by decide +kernel
theorem dc_Law_law_403 : decode code 403 = .ok (.aload_n 0, 1) := by decide +kernel
theorem dc_Law_law_404 : decode code 404 = .ok (.iload_n 3, 1) := by decide +kernel
theorem dc_Law_law_405 : decode code 405 = .ok (.iconst 1, 1) := by decide +kernel
theorem dc_Law_law_406 : decode code 406 = .ok (.iadd, 1) := by decide +kernel
theorem dc_Law_law_407 : decode code 407 = .ok (.iaload, 1) := by decide +kernel
theorem dc_Law_law_408 : decode code 408 = .ok (.aload_n 0, 1) := by decide +kernel
theorem dc_Law_law_409 : decode code 409 = .ok (.iload_n 3, 1) := by decide +kernel
theorem dc_Law_law_410 : decode code 410 = .ok (.iconst 2, 1) := by decide +kernel
theorem dc_Law_law_411 : decode code 411 = .ok (.iadd, 1) := by decide +kernel
theorem dc_Law_law_412 : decode code 412 = .ok (.iaload, 1) := by decide +kernel
theorem dc_Law_law_413 : decode code 413 = .ok (.invokevirtual 58, 3) := by decide +kernel
theorem dc_Law_law_416 : decode code 416 = .ok (.aload_n 2, 1) := by decide +kernel
theorem dc_Law_law_417 : decode code 417 = .ok (.aload_n 0, 1) := by decide +kernel
theorem dc_Law_law_418 : decode code 418 = .ok (.iload_n 3, 1) := by decide +kernel
theorem dc_Law_law_419 : decode code 419 = .ok (.iconst 1, 1) := by decide +kernel
theorem dc_Law_law_420 : decode code 420 = .ok (.iadd, 1) := by decide +kernel
theorem dc_Law_law_421 : decode code 421 = .ok (.iaload, 1) := by decide +kernel
theorem dc_Law_law_422 : decode code 422 = .ok (.aload_n 0, 1) := by decide +kernel
theorem dc_Law_law_423 : decode code 423 = .ok (.iload_n 3, 1) := by decide +kernel
theorem dc_Law_law_424 : decode code 424 = .ok (.iconst 2, 1) := by decide +kernel
theorem dc_Law_law_425 : decode code 425 = .ok (.iadd, 1) := by decide +kernel
theorem dc_Law_law_426 : decode code 426 = .ok (.iaload, 1) := by decide +kernel
theorem dc_Law_law_427 : decode code 427 = .ok (.invokevirtual 61, 3) := by decide +kernel
theorem dc_Law_law_430 : decode code 430 = .ok (.if_icmp .eq 151, 3) := by decide +kernel
theorem dc_Law_law_433 : decode code 433 = .ok (.iconst 0, 1) := by decide +kernel
theorem dc_Law_law_434 : decode code 434 = .ok (.ireturn, 1) := by decide +kernel
theorem dc_Law_law_435 : decode code 435 = .ok (.aload_n 1, 1) := by decide +kernel
theorem dc_Law_law_436 : decode code 436 = .ok (.aload_n 0, 1) := by decide +kernel
theorem dc_Law_law_437 : decode code 437 = .ok (.iload_n 3, 1) := by decide +kernel
theorem dc_Law_law_438 : decode code 438 = .ok (.iconst 1, 1) := by decide +kernel
theorem dc_Law_law_439 : decode code 439 = .ok (.iadd, 1) := by decide +kernel
theorem dc_Law_law_440 : decode code 440 = .ok (.iaload, 1) := by decide +kernel
theorem dc_Law_law_441 : decode code 441 = .ok (.aload_n 0, 1) := by decide +kernel
theorem dc_Law_law_442 : decode code 442 = .ok (.iload_n 3, 1) := by decide +kernel
theorem dc_Law_law_443 : decode code 443 = .ok (.iconst 2, 1) := by decide +kernel
theorem dc_Law_law_444 : decode code 444 = .ok (.iadd, 1) := by decide +kernel
theorem dc_Law_law_445 : decode code 445 = .ok (.iaload, 1) := by decide +kernel
theorem dc_Law_law_446 : decode code 446 = .ok (.aload_n 0, 1) := by decide +kernel
theorem dc_Law_law_447 : decode code 447 = .ok (.iload_n 3, 1) := by decide +kernel
theorem dc_Law_law_448 : decode code 448 = .ok (.iconst 3, 1) := by decide +kernel
theorem dc_Law_law_449 : decode code 449 = .ok (.iadd, 1) := by decide +kernel
theorem dc_Law_law_450 : decode code 450 = .ok (.iaload, 1) := by decide +kernel
theorem dc_Law_law_451 : decode code 451 = .ok (.invokevirtual 62, 3) := by decide +kernel
theorem dc_Law_law_454 : decode code 454 = .ok (.aload_n 2, 1) := by decide +kernel
theorem dc_Law_law_455 : decode code 455 = .ok (.aload_n 0, 1) := by decide +kernel
theorem dc_Law_law_456 : decode code 456 = .ok (.iload_n 3, 1) := by decide +kernel
theorem dc_Law_law_457 : decode code 457 = .ok (.iconst 1, 1) := by decide +kernel
theorem dc_Law_law_458 : decode code 458 = .ok (.iadd, 1) := by decide +kernel
theorem dc_Law_law_459 : decode code 459 = .ok (.iaload, 1) := by decide +kernel
theorem dc_Law_law_460 : decode code 460 = .ok (.aload_n 0, 1) := by decide +kernel
theorem dc_Law_law_461 : decode code 461 = .ok (.iload_n 3, 1) := by decide +kernel
theorem dc_Law_law_462 : decode code 462 = .ok (.iconst 2, 1) := by decide +kernel
theorem dc_Law_law_463 : decode code 463 = .ok (.iadd, 1) := by decide +kernel
theorem dc_Law_law_464 : decode code 464 = .ok (.iaload, 1) := by decide +kernel
theorem dc_Law_law_465 : decode code 465 = .ok (.aload_n 0, 1) := by decide +kernel
theorem dc_Law_law_466 : decode code 466 = .ok (.iload_n 3, 1) := by decide +kernel
theorem dc_Law_law_467 : decode code 467 = .ok (.iconst 3, 1) := by decide +kernel
theorem dc_Law_law_468 : decode code 468 = .ok (.iadd, 1) := by decide +kernel
theorem dc_Law_law_469 : decode code 469 = .ok (.iaload, 1) := by decide +kernel
theorem dc_Law_law_470 : decode code 470 = .ok (.invokevirtual 65, 3) := by decide +kernel
theorem dc_Law_law_473 : decode code 473 = .ok (.if_icmp .eq 108, 3) := by decide +kernel
theorem dc_Law_law_476 : decode code 476 = .ok (.iconst 0, 1) := by decide +kernel
theorem dc_Law_law_477 : decode code 477 = .ok (.ireturn, 1) := by decide +kernel
theorem dc_Law_law_478 : decode code 478 = .ok (.aload_n 1, 1) := by decide +kernel
theorem dc_Law_law_479 : decode code 479 = .ok (.aload_n 0, 1) := by decide +kernel
theorem dc_Law_law_480 : decode code 480 = .ok (.iload_n 3, 1) := by decide +kernel
theorem dc_Law_law_481 : decode code 481 = .ok (.iconst 1, 1) := by decide +kernel
theorem dc_Law_law_482 : decode code 482 = .ok (.iadd, 1) := by decide +kernel
theorem dc_Law_law_483 : decode code 483 = .ok (.iaload, 1) := by decide +kernel
theorem dc_Law_law_484 : decode code 484 = .ok (.aload_n 0, 1) := by decide +kernel
theorem dc_Law_law_485 : decode code 485 = .ok (.iload_n 3, 1) := by decide +kernel
theorem dc_Law_law_486 : decode code 486 = .ok (.iconst 2, 1) := by decide +kernel
theorem dc_Law_law_487 : decode code 487 = .ok (.iadd, 1) := by decide +kernel
theorem dc_Law_law_488 : decode code 488 = .ok (.iaload, 1) := by decide +kernel
theorem dc_Law_law_489 : decode code 489 = .ok (.invokevirtual 66, 3) := by decide +kernel
theorem dc_Law_law_492 : decode code 492 = .ok (.aload_n 2, 1) := by decide +kernel
theorem dc_Law_law_493 : decode code 493 = .ok (.aload_n 0, 1) := by decide +kernel
theorem dc_Law_law_494 : decode code 494 = .ok (.iload_n 3, 1) := by decide +kernel
theorem dc_Law_law_495 : decode code 495 = .ok (.iconst 1, 1) := by decide +kernel
theorem dc_Law_law_496 : decode code 496 = .ok (.iadd, 1) := by decide +kernel
theorem dc_Law_law_497 : decode code 497 = .ok (.iaload, 1) := by decide +kernel
theorem dc_Law_law_498 : decode code 498 = .ok (.aload_n 0, 1) := by decide +kernel
theorem dc_Law_law_499 : decode code 499 = .ok (.iload_n 3, 1) := by decide +kernel
theorem dc_Law_law_500 : decode code 500 = .ok (.iconst 2, 1) := by decide +kernel
theorem dc_Law_law_501 : decode code 501 = .ok (.iadd, 1) := by decide +kernel
theorem dc_Law_law_502 : decode code 502 = .ok (.iaload, 1) := by decide +kernel
theorem dc_Law_law_503 : decode code 503 = .ok (.invokevirtual 69, 3) := by decide +kernel
theorem dc_Law_law_506 : decode code 506 = .ok (.if_icmp .eq 75, 3) := by decide +kernel
theorem dc_Law_law_509 : decode code 509 = .ok (.iconst 0, 1) := by decide +kernel
theorem dc_Law_law_510 : decode code 510 = .ok (.ireturn, 1) := by decide +kernel
theorem dc_Law_law_511 : decode code 511 = .ok (.aload_n 1, 1) := by decide +kernel
theorem dc_Law_law_512 : decode code 512 = .ok (.aload_n 0, 1) := by decide +kernel
theorem dc_Law_law_513 : decode code 513 = .ok (.iload_n 3, 1) := by decide +kernel
theorem dc_Law_law_514 : decode code 514 = .ok (.iconst 1, 1) := by decide +kernel
theorem dc_Law_law_515 : decode code 515 = .ok (.iadd, 1) := by decide +kernel
theorem dc_Law_law_516 : decode code 516 = .ok (.iaload, 1) := by decide +kernel
theorem dc_Law_law_517 : decode code 517 = .ok (.invokevirtual 70, 3) := by decide +kernel
theorem dc_Law_law_520 : decode code 520 = .ok (.aload_n 2, 1) := by decide +kernel
theorem dc_Law_law_521 : decode code 521 = .ok (.aload_n 0, 1) := by decide +kernel
theorem dc_Law_law_522 : decode code 522 = .ok (.iload_n 3, 1) := by decide +kernel
theorem dc_Law_law_523 : decode code 523 = .ok (.iconst 1, 1) := by decide +kernel
theorem dc_Law_law_524 : decode code 524 = .ok (.iadd, 1) := by decide +kernel
theorem dc_Law_law_525 : decode code 525 = .ok (.iaload, 1) := by decide +kernel
theorem dc_Law_law_526 : decode code 526 = .ok (.invokevirtual 74, 3) := by decide +kernel
theorem dc_Law_law_529 : decode code 529 = .ok (.lcmp, 1) := by decide +kernel
theorem dc_Law_law_530 : decode code 530 = .ok (.ifCond .eq 51, 3) := by decide +kernel
theorem dc_Law_law_533 : decode code 533 = .ok (.iconst 0, 1) := by decide +kernel
theorem dc_Law_law_534 : decode code 534 = .ok (.ireturn, 1) := by decide +kernel
theorem dc_Law_law_535 : decode code 535 = .ok (.aload_n 1, 1) := by decide +kernel
theorem dc_Law_law_536 : decode code 536 = .ok (.aload_n 0, 1) := by decide +kernel
theorem dc_Law_law_537 : decode code 537 = .ok (.iload_n 3, 1) := by decide +kernel
theorem dc_Law_law_538 : decode code 538 = .ok (.iconst 1, 1) := by decide +kernel
theorem dc_Law_law_539 : decode code 539 = .ok (.iadd, 1) := by decide +kernel
theorem dc_Law_law_540 : decode code 540 = .ok (.iaload, 1) := by decide +kernel
theorem dc_Law_law_541 : decode code 541 = .ok (.invokevirtual 75, 3) := by decide +kernel
theorem dc_Law_law_544 : decode code 544 = .ok (.aload_n 2, 1) := by decide +kernel
theorem dc_Law_law_545 : decode code 545 = .ok (.aload_n 0, 1) := by decide +kernel
theorem dc_Law_law_546 : decode code 546 = .ok (.iload_n 3, 1) := by decide +kernel
theorem dc_Law_law_547 : decode code 547 = .ok (.iconst 1, 1) := by decide +kernel
theorem dc_Law_law_548 : decode code 548 = .ok (.iadd, 1) := by decide +kernel
theorem dc_Law_law_549 : decode code 549 = .ok (.iaload, 1) := by decide +kernel
theorem dc_Law_law_550 : decode code 550 = .ok (.invokevirtual 78, 3) := by decide +kernel
theorem dc_Law_law_553 : decode code 553 = .ok (.if_icmp .eq 28, 3) := by decide +kernel
theorem dc_Law_law_556 : decode code 556 = .ok (.iconst 0, 1) := by decide +kernel
theorem dc_Law_law_557 : decode code 557 = .ok (.ireturn, 1) := by decide +kernel
theorem dc_Law_law_558 : decode code 558 = .ok (.aload_n 1, 1) := by decide +kernel
theorem dc_Law_law_559 : decode code 559 = .ok (.aload_n 0, 1) := by decide +kernel
theorem dc_Law_law_560 : decode code 560 = .ok (.iload_n 3, 1) := by decide +kernel
theorem dc_Law_law_561 : decode code 561 = .ok (.iconst 1, 1) := by decide +kernel
theorem dc_Law_law_562 : decode code 562 = .ok (.iadd, 1) := by decide +kernel
theorem dc_Law_law_563 : decode code 563 = .ok (.iaload, 1) := by decide +kernel
theorem dc_Law_law_564 : decode code 564 = .ok (.invokevirtual 79, 3) := by decide +kernel
theorem dc_Law_law_567 : decode code 567 = .ok (.aload_n 2, 1) := by decide +kernel
theorem dc_Law_law_568 : decode code 568 = .ok (.aload_n 0, 1) := by decide +kernel
theorem dc_Law_law_569 : decode code 569 = .ok (.iload_n 3, 1) := by decide +kernel
theorem dc_Law_law_570 : decode code 570 = .ok (.iconst 1, 1) := by decide +kernel
theorem dc_Law_law_571 : decode code 571 = .ok (.iadd, 1) := by decide +kernel
theorem dc_Law_law_572 : decode code 572 = .ok (.iaload, 1) := by decide +kernel
theorem dc_Law_law_573 : decode code 573 = .ok (.invokevirtual 82, 3) := by decide +kernel
theorem dc_Law_law_576 : decode code 576 = .ok (.if_icmp .eq 5, 3) := by decide +kernel
theorem dc_Law_law_579 : decode code 579 = .ok (.iconst 0, 1) := by decide +kernel
theorem dc_Law_law_580 : decode code 580 = .ok (.ireturn, 1) := by decide +kernel
theorem dc_Law_law_581 : decode code 581 = .ok (.iinc 3 5, 3) := by decide +kernel
theorem dc_Law_law_584 : decode code 584 = .ok (.goto (-566), 3) := by decide +kernel
theorem dc_Law_law_587 : decode code 587 = .ok (.iconst 1, 1) := by decide +kernel
theorem dc_Law_law_588 : decode code 588 = .ok (.ireturn, 1) := by decide +kernel
