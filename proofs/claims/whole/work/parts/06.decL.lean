theorem d_W_law_0 : decode m_W_law.2.1 0 = .ok (.new 7, 3) := by decide +kernel
theorem d_W_law_3 : decode m_W_law.2.1 3 = .ok (.dup, 1) := by decide +kernel
theorem d_W_law_4 : decode m_W_law.2.1 4 = .ok (.invokespecial 9, 3) := by decide +kernel
theorem d_W_law_7 : decode m_W_law.2.1 7 = .ok (.astore_n 1, 1) := by decide +kernel
theorem d_W_law_8 : decode m_W_law.2.1 8 = .ok (.new 10, 3) := by decide +kernel
theorem d_W_law_11 : decode m_W_law.2.1 11 = .ok (.dup, 1) := by decide +kernel
theorem d_W_law_12 : decode m_W_law.2.1 12 = .ok (.invokespecial 12, 3) := by decide +kernel
theorem d_W_law_15 : decode m_W_law.2.1 15 = .ok (.astore_n 2, 1) := by decide +kernel
theorem d_W_law_16 : decode m_W_law.2.1 16 = .ok (.iconst 0, 1) := by decide +kernel
theorem d_W_law_17 : decode m_W_law.2.1 17 = .ok (.istore_n 3, 1) := by decide +kernel
theorem d_W_law_18 : decode m_W_law.2.1 18 = .ok (.iload_n 3, 1) := by decide +kernel
theorem d_W_law_19 : decode m_W_law.2.1 19 = .ok (.aload_n 0, 1) := by decide +kernel
theorem d_W_law_20 : decode m_W_law.2.1 20 = .ok (.arraylength, 1) := by decide +kernel
theorem d_W_law_21 : decode m_W_law.2.1 21 = .ok (.bipush 6, 2) := by decide +kernel
theorem d_W_law_23 : decode m_W_law.2.1 23 = .ok (.isub, 1) := by decide +kernel
theorem d_W_law_24 : decode m_W_law.2.1 24 = .ok (.if_icmp .gt 958, 3) := by decide +kernel
theorem d_W_law_27 : decode m_W_law.2.1 27 = .ok (.aload_n 0, 1) := by decide +kernel
theorem d_W_law_28 : decode m_W_law.2.1 28 = .ok (.iload_n 3, 1) := by decide +kernel
theorem d_W_law_29 : decode m_W_law.2.1 29 = .ok (.iaload, 1) := by decide +kernel
theorem d_W_law_30 : decode m_W_law.2.1 30 = .ok (.bipush 31, 2) := by decide +kernel
theorem d_W_law_32 : decode m_W_law.2.1 32 = .ok (.iand, 1) := by decide +kernel
theorem d_W_law_33 : decode m_W_law.2.1 33 = .ok (.tableswitch 943 0 26 #[123, 208, 241, 274, 337, 360, 373, 386, 409, 422, 445, 468, 491, 524, 547, 580, 613, 646, 695, 708, 721, 744, 777, 831, 874, 897, 920], 123) := by decide +kernel
theorem d_W_law_156 : decode m_W_law.2.1 156 = .ok (.aload_n 1, 1) := by decide +kernel
theorem d_W_law_157 : decode m_W_law.2.1 157 = .ok (.aload_n 0, 1) := by decide +kernel
theorem d_W_law_158 : decode m_W_law.2.1 158 = .ok (.iload_n 3, 1) := by decide +kernel
theorem d_W_law_159 : decode m_W_law.2.1 159 = .ok (.iconst 1, 1) := by decide +kernel
theorem d_W_law_160 : decode m_W_law.2.1 160 = .ok (.iadd, 1) := by decide +kernel
theorem d_W_law_161 : decode m_W_law.2.1 161 = .ok (.iaload, 1) := by decide +kernel
theorem d_W_law_162 : decode m_W_law.2.1 162 = .ok (.aload_n 0, 1) := by decide +kernel
theorem d_W_law_163 : decode m_W_law.2.1 163 = .ok (.iload_n 3, 1) := by decide +kernel
theorem d_W_law_164 : decode m_W_law.2.1 164 = .ok (.iconst 2, 1) := by decide +kernel
theorem d_W_law_165 : decode m_W_law.2.1 165 = .ok (.iadd, 1) := by decide +kernel
theorem d_W_law_166 : decode m_W_law.2.1 166 = .ok (.iaload, 1) := by decide +kernel
theorem d_W_law_167 : decode m_W_law.2.1 167 = .ok (.ifCond .eq 7, 3) := by decide +kernel
theorem d_W_law_170 : decode m_W_law.2.1 170 = .ok (.iconst 1, 1) := by decide +kernel
theorem d_W_law_171 : decode m_W_law.2.1 171 = .ok (.goto 4, 3) := by decide +kernel
theorem d_W_law_174 : decode m_W_law.2.1 174 = .ok (.iconst 0, 1) := by decide +kernel
theorem d_W_law_175 : decode m_W_law.2.1 175 = .ok (.aload_n 0, 1) := by decide +kernel
theorem d_W_law_176 : decode m_W_law.2.1 176 = .ok (.iload_n 3, 1) := by decide +kernel
theorem d_W_law_177 : decode m_W_law.2.1 177 = .ok (.iconst 3, 1) := by decide +kernel
theorem d_W_law_178 : decode m_W_law.2.1 178 = .ok (.iadd, 1) := by decide +kernel
theorem d_W_law_179 : decode m_W_law.2.1 179 = .ok (.iaload, 1) := by decide +kernel
theorem d_W_law_180 : decode m_W_law.2.1 180 = .ok (.ifCond .eq 7, 3) := by decide +kernel
theorem d_W_law_183 : decode m_W_law.2.1 183 = .ok (.iconst 1, 1) := by decide +kernel
theorem d_W_law_184 : decode m_W_law.2.1 184 = .ok (.goto 4, 3) := by decide +kernel
theorem d_W_law_187 : decode m_W_law.2.1 187 = .ok (.iconst 0, 1) := by decide +kernel
theorem d_W_law_188 : decode m_W_law.2.1 188 = .ok (.aload_n 0, 1) := by decide +kernel
theorem d_W_law_189 : decode m_W_law.2.1 189 = .ok (.iload_n 3, 1) := by decide +kernel
theorem d_W_law_190 : decode m_W_law.2.1 190 = .ok (.iconst 4, 1) := by decide +kernel
theorem d_W_law_191 : decode m_W_law.2.1 191 = .ok (.iadd, 1) := by decide +kernel
theorem d_W_law_192 : decode m_W_law.2.1 192 = .ok (.iaload, 1) := by decide +kernel
theorem d_W_law_193 : decode m_W_law.2.1 193 = .ok (.invokevirtual 13, 3) := by decide +kernel
theorem d_W_law_196 : decode m_W_law.2.1 196 = .ok (.aload_n 2, 1) := by decide +kernel
theorem d_W_law_197 : decode m_W_law.2.1 197 = .ok (.aload_n 0, 1) := by decide +kernel
theorem d_W_law_198 : decode m_W_law.2.1 198 = .ok (.iload_n 3, 1) := by decide +kernel
theorem d_W_law_199 : decode m_W_law.2.1 199 = .ok (.iconst 1, 1) := by decide +kernel
theorem d_W_law_200 : decode m_W_law.2.1 200 = .ok (.iadd, 1) := by decide +kernel
theorem d_W_law_201 : decode m_W_law.2.1 201 = .ok (.iaload, 1) := by decide +kernel
theorem d_W_law_202 : decode m_W_law.2.1 202 = .ok (.aload_n 0, 1) := by decide +kernel
theorem d_W_law_203 : decode m_W_law.2.1 203 = .ok (.iload_n 3, 1) := by decide +kernel
theorem d_W_law_204 : decode m_W_law.2.1 204 = .ok (.iconst 2, 1) := by decide +kernel
theorem d_W_law_205 : decode m_W_law.2.1 205 = .ok (.iadd, 1) := by decide +kernel
theorem d_W_law_206 : decode m_W_law.2.1 206 = .ok (.iaload, 1) := by decide +kernel
theorem d_W_law_207 : decode m_W_law.2.1 207 = .ok (.ifCond .eq 7, 3) := by decide +kernel
theorem d_W_law_210 : decode m_W_law.2.1 210 = .ok (.iconst 1, 1) := by decide +kernel
theorem d_W_law_211 : decode m_W_law.2.1 211 = .ok (.goto 4, 3) := by decide +kernel
theorem d_W_law_214 : decode m_W_law.2.1 214 = .ok (.iconst 0, 1) := by decide +kernel
theorem d_W_law_215 : decode m_W_law.2.1 215 = .ok (.aload_n 0, 1) := by decide +kernel
theorem d_W_law_216 : decode m_W_law.2.1 216 = .ok (.iload_n 3, 1) := by decide +kernel
theorem d_W_law_217 : decode m_W_law.2.1 217 = .ok (.iconst 3, 1) := by decide +kernel
theorem d_W_law_218 : decode m_W_law.2.1 218 = .ok (.iadd, 1) := by decide +kernel
theorem d_W_law_219 : decode m_W_law.2.1 219 = .ok (.iaload, 1) := by decide +kernel
theorem d_W_law_220 : decode m_W_law.2.1 220 = .ok (.ifCond .eq 7, 3) := by decide +kernel
theorem d_W_law_223 : decode m_W_law.2.1 223 = .ok (.iconst 1, 1) := by decide +kernel
theorem d_W_law_224 : decode m_W_law.2.1 224 = .ok (.goto 4, 3) := by decide +kernel
theorem d_W_law_227 : decode m_W_law.2.1 227 = .ok (.iconst 0, 1) := by decide +kernel
theorem d_W_law_228 : decode m_W_law.2.1 228 = .ok (.aload_n 0, 1) := by decide +kernel
theorem d_W_law_229 : decode m_W_law.2.1 229 = .ok (.iload_n 3, 1) := by decide +kernel
theorem d_W_law_230 : decode m_W_law.2.1 230 = .ok (.iconst 4, 1) := by decide +kernel
theorem d_W_law_231 : decode m_W_law.2.1 231 = .ok (.iadd, 1) := by decide +kernel
theorem d_W_law_232 : decode m_W_law.2.1 232 = .ok (.iaload, 1) := by decide +kernel
theorem d_W_law_233 : decode m_W_law.2.1 233 = .ok (.invokevirtual 17, 3) := by decide +kernel
theorem d_W_law_236 : decode m_W_law.2.1 236 = .ok (.if_icmp .eq 740, 3) := by decide +kernel
theorem d_W_law_239 : decode m_W_law.2.1 239 = .ok (.iconst 0, 1) := by decide +kernel
theorem d_W_law_240 : decode m_W_law.2.1 240 = .ok (.ireturn, 1) := by decide +kernel
theorem d_W_law_241 : decode m_W_law.2.1 241 = .ok (.aload_n 1, 1) := by decide +kernel
theorem d_W_law_242 : decode m_W_law.2.1 242 = .ok (.aload_n 0, 1) := by decide +kernel
theorem d_W_law_243 : decode m_W_law.2.1 243 = .ok (.iload_n 3, 1) := by decide +kernel
theorem d_W_law_244 : decode m_W_law.2.1 244 = .ok (.iconst 1, 1) := by decide +kernel
theorem d_W_law_245 : decode m_W_law.2.1 245 = .ok (.iadd, 1) := by decide +kernel
theorem d_W_law_246 : decode m_W_law.2.1 246 = .ok (.iaload, 1) := by decide +kernel
theorem d_W_law_247 : decode m_W_law.2.1 247 = .ok (.aload_n 0, 1) := by decide +kernel
theorem d_W_law_248 : decode m_W_law.2.1 248 = .ok (.iload_n 3, 1) := by decide +kernel
theorem d_W_law_249 : decode m_W_law.2.1 249 = .ok (.iconst 2, 1) := by decide +kernel
theorem d_W_law_250 : decode m_W_law.2.1 250 = .ok (.iadd, 1) := by decide +kernel
theorem d_W_law_251 : decode m_W_law.2.1 251 = .ok (.iaload, 1) := by decide +kernel
theorem d_W_law_252 : decode m_W_law.2.1 252 = .ok (.invokevirtual 18, 3) := by decide +kernel
theorem d_W_law_255 : decode m_W_law.2.1 255 = .ok (.aload_n 2, 1) := by decide +kernel
theorem d_W_law_256 : decode m_W_law.2.1 256 = .ok (.aload_n 0, 1) := by decide +kernel
theorem d_W_law_257 : decode m_W_law.2.1 257 = .ok (.iload_n 3, 1) := by decide +kernel
theorem d_W_law_258 : decode m_W_law.2.1 258 = .ok (.iconst 1, 1) := by decide +kernel
theorem d_W_law_259 : decode m_W_law.2.1 259 = .ok (.iadd, 1) := by decide +kernel
theorem d_W_law_260 : decode m_W_law.2.1 260 = .ok (.iaload, 1) := by decide +kernel
theorem d_W_law_261 : decode m_W_law.2.1 261 = .ok (.aload_n 0, 1) := by decide +kernel
theorem d_W_law_262 : decode m_W_law.2.1 262 = .ok (.iload_n 3, 1) := by decide +kernel
theorem d_W_law_263 : decode m_W_law.2.1 263 = .ok (.iconst 2, 1) := by decide +kernel
theorem d_W_law_264 : decode m_W_law.2.1 264 = .ok (.iadd, 1) := by decide +kernel
theorem d_W_law_265 : decode m_W_law.2.1 265 = .ok (.iaload, 1) := by decide +kernel
theorem d_W_law_266 : decode m_W_law.2.1 266 = .ok (.invokevirtual 22, 3) := by decide +kernel
theorem d_W_law_269 : decode m_W_law.2.1 269 = .ok (.if_icmp .eq 707, 3) := by decide +kernel
theorem d_W_law_272 : decode m_W_law.2.1 272 = .ok (.iconst 0, 1) := by decide +kernel
theorem d_W_law_273 : decode m_W_law.2.1 273 = .ok (.ireturn, 1) := by decide +kernel
theorem d_W_law_274 : decode m_W_law.2.1 274 = .ok (.aload_n 1, 1) := by decide +kernel
theorem d_W_law_275 : decode m_W_law.2.1 275 = .ok (.aload_n 0, 1) := by decide +kernel
theorem d_W_law_276 : decode m_W_law.2.1 276 = .ok (.iload_n 3, 1) := by decide +kernel
theorem d_W_law_277 : decode m_W_law.2.1 277 = .ok (.iconst 1, 1) := by decide +kernel
theorem d_W_law_278 : decode m_W_law.2.1 278 = .ok (.iadd, 1) := by decide +kernel
theorem d_W_law_279 : decode m_W_law.2.1 279 = .ok (.iaload, 1) := by decide +kernel
theorem d_W_law_280 : decode m_W_law.2.1 280 = .ok (.aload_n 0, 1) := by decide +kernel
theorem d_W_law_281 : decode m_W_law.2.1 281 = .ok (.iload_n 3, 1) := by decide +kernel
theorem d_W_law_282 : decode m_W_law.2.1 282 = .ok (.iconst 2, 1) := by decide +kernel
theorem d_W_law_283 : decode m_W_law.2.1 283 = .ok (.iadd, 1) := by decide +kernel
theorem d_W_law_284 : decode m_W_law.2.1 284 = .ok (.iaload, 1) := by decide +kernel
theorem d_W_law_285 : decode m_W_law.2.1 285 = .ok (.invokevirtual 23, 3) := by decide +kernel
theorem d_W_law_288 : decode m_W_law.2.1 288 = .ok (.aload_n 2, 1) := by decide +kernel
theorem d_W_law_289 : decode m_W_law.2.1 289 = .ok (.aload_n 0, 1) := by decide +kernel
theorem d_W_law_290 : decode m_W_law.2.1 290 = .ok (.iload_n 3, 1) := by decide +kernel
theorem d_W_law_291 : decode m_W_law.2.1 291 = .ok (.iconst 1, 1) := by decide +kernel
theorem d_W_law_292 : decode m_W_law.2.1 292 = .ok (.iadd, 1) := by decide +kernel
theorem d_W_law_293 : decode m_W_law.2.1 293 = .ok (.iaload, 1) := by decide +kernel
theorem d_W_law_294 : decode m_W_law.2.1 294 = .ok (.aload_n 0, 1) := by decide +kernel
theorem d_W_law_295 : decode m_W_law.2.1 295 = .ok (.iload_n 3, 1) := by decide +kernel
theorem d_W_law_296 : decode m_W_law.2.1 296 = .ok (.iconst 2, 1) := by decide +kernel
theorem d_W_law_297 : decode m_W_law.2.1 297 = .ok (.iadd, 1) := by decide +kernel
theorem d_W_law_298 : decode m_W_law.2.1 298 = .ok (.iaload, 1) := by decide +kernel
theorem d_W_law_299 : decode m_W_law.2.1 299 = .ok (.invokevirtual 26, 3) := by decide +kernel
theorem d_W_law_302 : decode m_W_law.2.1 302 = .ok (.if_icmp .eq 674, 3) := by decide +kernel
theorem d_W_law_305 : decode m_W_law.2.1 305 = .ok (.iconst 0, 1) := by decide +kernel
theorem d_W_law_306 : decode m_W_law.2.1 306 = .ok (.ireturn, 1) := by decide +kernel
theorem d_W_law_307 : decode m_W_law.2.1 307 = .ok (.aload_n 1, 1) := by decide +kernel
theorem d_W_law_308 : decode m_W_law.2.1 308 = .ok (.aload_n 0, 1) := by decide +kernel
theorem d_W_law_309 : decode m_W_law.2.1 309 = .ok (.iload_n 3, 1) := by decide +kernel
theorem d_W_law_310 : decode m_W_law.2.1 310 = .ok (.iconst 1, 1) := by decide +kernel
theorem d_W_law_311 : decode m_W_law.2.1 311 = .ok (.iadd, 1) := by decide +kernel
theorem d_W_law_312 : decode m_W_law.2.1 312 = .ok (.iaload, 1) := by decide +kernel
theorem d_W_law_313 : decode m_W_law.2.1 313 = .ok (.aload_n 0, 1) := by decide +kernel
theorem d_W_law_314 : decode m_W_law.2.1 314 = .ok (.iload_n 3, 1) := by decide +kernel
theorem d_W_law_315 : decode m_W_law.2.1 315 = .ok (.iconst 2, 1) := by decide +kernel
theorem d_W_law_316 : decode m_W_law.2.1 316 = .ok (.iadd, 1) := by decide +kernel
theorem d_W_law_317 : decode m_W_law.2.1 317 = .ok (.iaload, 1) := by decide +kernel
theorem d_W_law_318 : decode m_W_law.2.1 318 = .ok (.aload_n 0, 1) := by decide +kernel
theorem d_W_law_319 : decode m_W_law.2.1 319 = .ok (.iload_n 3, 1) := by decide +kernel
theorem d_W_law_320 : decode m_W_law.2.1 320 = .ok (.iconst 3, 1) := by decide +kernel
theorem d_W_law_321 : decode m_W_law.2.1 321 = .ok (.iadd, 1) := by decide +kernel
theorem d_W_law_322 : decode m_W_law.2.1 322 = .ok (.iaload, 1) := by decide +kernel
theorem d_W_law_323 : decode m_W_law.2.1 323 = .ok (.aload_n 0, 1) := by decide +kernel
theorem d_W_law_324 : decode m_W_law.2.1 324 = .ok (.iload_n 3, 1) := by decide +kernel
theorem d_W_law_325 : decode m_W_law.2.1 325 = .ok (.iconst 4, 1) := by decide +kernel
theorem d_W_law_326 : decode m_W_law.2.1 326 = .ok (.iadd, 1) := by decide +kernel
theorem d_W_law_327 : decode m_W_law.2.1 327 = .ok (.iaload, 1) := by decide +kernel
theorem d_W_law_328 : decode m_W_law.2.1 328 = .ok (.aload_n 0, 1) := by decide +kernel
theorem d_W_law_329 : decode m_W_law.2.1 329 = .ok (.iload_n 3, 1) := by decide +kernel
theorem d_W_law_330 : decode m_W_law.2.1 330 = .ok (.iconst 5, 1) := by decide +kernel
theorem d_W_law_331 : decode m_W_law.2.1 331 = .ok (.iadd, 1) := by decide +kernel
theorem d_W_law_332 : decode m_W_law.2.1 332 = .ok (.iaload, 1) := by decide +kernel
theorem d_W_law_333 : decode m_W_law.2.1 333 = .ok (.invokevirtual 27, 3) := by decide +kernel
theorem d_W_law_336 : decode m_W_law.2.1 336 = .ok (.aload_n 2, 1) := by decide +kernel
theorem d_W_law_337 : decode m_W_law.2.1 337 = .ok (.aload_n 0, 1) := by decide +kernel
theorem d_W_law_338 : decode m_W_law.2.1 338 = .ok (.iload_n 3, 1) := by decide +kernel
theorem d_W_law_339 : decode m_W_law.2.1 339 = .ok (.iconst 1, 1) := by decide +kernel
theorem d_W_law_340 : decode m_W_law.2.1 340 = .ok (.iadd, 1) := by decide +kernel
theorem d_W_law_341 : decode m_W_law.2.1 341 = .ok (.iaload, 1) := by decide +kernel
theorem d_W_law_342 : decode m_W_law.2.1 342 = .ok (.aload_n 0, 1) := by decide +kernel
theorem d_W_law_343 : decode m_W_law.2.1 343 = .ok (.iload_n 3, 1) := by decide +kernel
theorem d_W_law_344 : decode m_W_law.2.1 344 = .ok (.iconst 2, 1) := by decide +kernel
theorem d_W_law_345 : decode m_W_law.2.1 345 = .ok (.iadd, 1) := by decide +kernel
theorem d_W_law_346 : decode m_W_law.2.1 346 = .ok (.iaload, 1) := by decide +kernel
theorem d_W_law_347 : decode m_W_law.2.1 347 = .ok (.aload_n 0, 1) := by decide +kernel
theorem d_W_law_348 : decode m_W_law.2.1 348 = .ok (.iload_n 3, 1) := by decide +kernel
theorem d_W_law_349 : decode m_W_law.2.1 349 = .ok (.iconst 3, 1) := by decide +kernel
theorem d_W_law_350 : decode m_W_law.2.1 350 = .ok (.iadd, 1) := by decide +kernel
theorem d_W_law_351 : decode m_W_law.2.1 351 = .ok (.iaload, 1) := by decide +kernel
theorem d_W_law_352 : decode m_W_law.2.1 352 = .ok (.aload_n 0, 1) := by decide +kernel
theorem d_W_law_353 : decode m_W_law.2.1 353 = .ok (.iload_n 3, 1) := by decide +kernel
theorem d_W_law_354 : decode m_W_law.2.1 354 = .ok (.iconst 4, 1) := by decide +kernel
theorem d_W_law_355 : decode m_W_law.2.1 355 = .ok (.iadd, 1) := by decide +kernel
theorem d_W_law_356 : decode m_W_law.2.1 356 = .ok (.iaload, 1) := by decide +kernel
theorem d_W_law_357 : decode m_W_law.2.1 357 = .ok (.aload_n 0, 1) := by decide +kernel
theorem d_W_law_358 : decode m_W_law.2.1 358 = .ok (.iload_n 3, 1) := by decide +kernel
theorem d_W_law_359 : decode m_W_law.2.1 359 = .ok (.iconst 5, 1) := by decide +kernel
theorem d_W_law_360 : decode m_W_law.2.1 360 = .ok (.iadd, 1) := by decide +kernel
theorem d_W_law_361 : decode m_W_law.2.1 361 = .ok (.iaload, 1) := by decide +kernel
theorem d_W_law_362 : decode m_W_law.2.1 362 = .ok (.invokevirtual 31, 3) := by decide +kernel
theorem d_W_law_365 : decode m_W_law.2.1 365 = .ok (.if_icmp .eq 611, 3) := by decide +kernel
theorem d_W_law_368 : decode m_W_law.2.1 368 = .ok (.iconst 0, 1) := by decide +kernel
theorem d_W_law_369 : decode m_W_law.2.1 369 = .ok (.ireturn, 1) := by decide +kernel
theorem d_W_law_370 : decode m_W_law.2.1 370 = .ok (.aload_n 1, 1) := by decide +kernel
theorem d_W_law_371 : decode m_W_law.2.1 371 = .ok (.aload_n 0, 1) := by decide +kernel
theorem d_W_law_372 : decode m_W_law.2.1 372 = .ok (.iload_n 3, 1) := by decide +kernel
theorem d_W_law_373 : decode m_W_law.2.1 373 = .ok (.iconst 1, 1) := by decide +kernel
theorem d_W_law_374 : decode m_W_law.2.1 374 = .ok (.iadd, 1) := by decide +kernel
theorem d_W_law_375 : decode m_W_law.2.1 375 = .ok (.iaload, 1) := by decide +kernel
theorem d_W_law_376 : decode m_W_law.2.1 376 = .ok (.invokevirtual 32, 3) := by decide +kernel
theorem d_W_law_379 : decode m_W_law.2.1 379 = .ok (.aload_n 2, 1) := by decide +kernel
theorem d_W_law_380 : decode m_W_law.2.1 380 = .ok (.aload_n 0, 1) := by decide +kernel
theorem d_W_law_381 : decode m_W_law.2.1 381 = .ok (.iload_n 3, 1) := by decide +kernel
theorem d_W_law_382 : decode m_W_law.2.1 382 = .ok (.iconst 1, 1) := by decide +kernel
theorem d_W_law_383 : decode m_W_law.2.1 383 = .ok (.iadd, 1) := by decide +kernel
theorem d_W_law_384 : decode m_W_law.2.1 384 = .ok (.iaload, 1) := by decide +kernel
theorem d_W_law_385 : decode m_W_law.2.1 385 = .ok (.invokevirtual 36, 3) := by decide +kernel
theorem d_W_law_388 : decode m_W_law.2.1 388 = .ok (.if_icmp .eq 588, 3) := by decide +kernel
theorem d_W_law_391 : decode m_W_law.2.1 391 = .ok (.iconst 0, 1) := by decide +kernel
theorem d_W_law_392 : decode m_W_law.2.1 392 = .ok (.ireturn, 1) := by decide +kernel
theorem d_W_law_393 : decode m_W_law.2.1 393 = .ok (.aload_n 1, 1) := by decide +kernel
theorem d_W_law_394 : decode m_W_law.2.1 394 = .ok (.invokevirtual 37, 3) := by decide +kernel
theorem d_W_law_397 : decode m_W_law.2.1 397 = .ok (.aload_n 2, 1) := by decide +kernel
theorem d_W_law_398 : decode m_W_law.2.1 398 = .ok (.invokevirtual 41, 3) := by decide +kernel
theorem d_W_law_401 : decode m_W_law.2.1 401 = .ok (.if_icmp .eq 575, 3) := by decide +kernel
theorem d_W_law_404 : decode m_W_law.2.1 404 = .ok (.iconst 0, 1) := by decide +kernel
theorem d_W_law_405 : decode m_W_law.2.1 405 = .ok (.ireturn, 1) := by decide +kernel
theorem d_W_law_406 : decode m_W_law.2.1 406 = .ok (.aload_n 1, 1) := by decide +kernel
theorem d_W_law_407 : decode m_W_law.2.1 407 = .ok (.invokevirtual 42, 3) := by decide +kernel
theorem d_W_law_410 : decode m_W_law.2.1 410 = .ok (.aload_n 2, 1) := by decide +kernel
theorem d_W_law_411 : decode m_W_law.2.1 411 = .ok (.invokevirtual 45, 3) := by decide +kernel
theorem d_W_law_414 : decode m_W_law.2.1 414 = .ok (.if_icmp .eq 562, 3) := by decide +kernel
theorem d_W_law_417 : decode m_W_law.2.1 417 = .ok (.iconst 0, 1) := by decide +kernel
theorem d_W_law_418 : decode m_W_law.2.1 418 = .ok (.ireturn, 1) := by decide +kernel
theorem d_W_law_419 : decode m_W_law.2.1 419 = .ok (.aload_n 1, 1) := by decide +kernel
theorem d_W_law_420 : decode m_W_law.2.1 420 = .ok (.aload_n 0, 1) := by decide +kernel
theorem d_W_law_421 : decode m_W_law.2.1 421 = .ok (.iload_n 3, 1) := by decide +kernel
theorem d_W_law_422 : decode m_W_law.2.1 422 = .ok (.iconst 1, 1) := by decide +kernel
theorem d_W_law_423 : decode m_W_law.2.1 423 = .ok (.iadd, 1) := by decide +kernel
theorem d_W_law_424 : decode m_W_law.2.1 424 = .ok (.iaload, 1) := by decide +kernel
theorem d_W_law_425 : decode m_W_law.2.1 425 = .ok (.invokevirtual 46, 3) := by decide +kernel
theorem d_W_law_428 : decode m_W_law.2.1 428 = .ok (.aload_n 2, 1) := by decide +kernel
theorem d_W_law_429 : decode m_W_law.2.1 429 = .ok (.aload_n 0, 1) := by decide +kernel
theorem d_W_law_430 : decode m_W_law.2.1 430 = .ok (.iload_n 3, 1) := by decide +kernel
theorem d_W_law_431 : decode m_W_law.2.1 431 = .ok (.iconst 1, 1) := by decide +kernel
theorem d_W_law_432 : decode m_W_law.2.1 432 = .ok (.iadd, 1) := by decide +kernel
theorem d_W_law_433 : decode m_W_law.2.1 433 = .ok (.iaload, 1) := by decide +kernel
theorem d_W_law_434 : decode m_W_law.2.1 434 = .ok (.invokevirtual 49, 3) := by decide +kernel
theorem d_W_law_437 : decode m_W_law.2.1 437 = .ok (.if_icmp .eq 539, 3) := by decide +kernel
theorem d_W_law_440 : decode m_W_law.2.1 440 = .ok (.iconst 0, 1) := by decide +kernel
theorem d_W_law_441 : decode m_W_law.2.1 441 = .ok (.ireturn, 1) := by decide +kernel
theorem d_W_law_442 : decode m_W_law.2.1 442 = .ok (.aload_n 1, 1) := by decide +kernel
theorem d_W_law_443 : decode m_W_law.2.1 443 = .ok (.invokevirtual 50, 3) := by decide +kernel
theorem d_W_law_446 : decode m_W_law.2.1 446 = .ok (.aload_n 2, 1) := by decide +kernel
theorem d_W_law_447 : decode m_W_law.2.1 447 = .ok (.invokevirtual 53, 3) := by decide +kernel
theorem d_W_law_450 : decode m_W_law.2.1 450 = .ok (.if_icmp .eq 526, 3) := by decide +kernel
theorem d_W_law_453 : decode m_W_law.2.1 453 = .ok (.iconst 0, 1) := by decide +kernel
theorem d_W_law_454 : decode m_W_law.2.1 454 = .ok (.ireturn, 1) := by decide +kernel
theorem d_W_law_455 : decode m_W_law.2.1 455 = .ok (.aload_n 1, 1) := by decide +kernel
theorem d_W_law_456 : decode m_W_law.2.1 456 = .ok (.aload_n 0, 1) := by decide +kernel
theorem d_W_law_457 : decode m_W_law.2.1 457 = .ok (.iload_n 3, 1) := by decide +kernel
theorem d_W_law_458 : decode m_W_law.2.1 458 = .ok (.iconst 1, 1) := by decide +kernel
theorem d_W_law_459 : decode m_W_law.2.1 459 = .ok (.iadd, 1) := by decide +kernel
theorem d_W_law_460 : decode m_W_law.2.1 460 = .ok (.iaload, 1) := by decide +kernel
theorem d_W_law_461 : decode m_W_law.2.1 461 = .ok (.invokevirtual 54, 3) := by decide +kernel
theorem d_W_law_464 : decode m_W_law.2.1 464 = .ok (.aload_n 2, 1) := by decide +kernel
theorem d_W_law_465 : decode m_W_law.2.1 465 = .ok (.aload_n 0, 1) := by decide +kernel
theorem d_W_law_466 : decode m_W_law.2.1 466 = .ok (.iload_n 3, 1) := by decide +kernel
theorem d_W_law_467 : decode m_W_law.2.1 467 = .ok (.iconst 1, 1) := by decide +kernel
theorem d_W_law_468 : decode m_W_law.2.1 468 = .ok (.iadd, 1) := by decide +kernel
theorem d_W_law_469 : decode m_W_law.2.1 469 = .ok (.iaload, 1) := by decide +kernel
theorem d_W_law_470 : decode m_W_law.2.1 470 = .ok (.invokevirtual 57, 3) := by decide +kernel
theorem d_W_law_473 : decode m_W_law.2.1 473 = .ok (.if_icmp .eq 503, 3) := by decide +kernel
theorem d_W_law_476 : decode m_W_law.2.1 476 = .ok (.iconst 0, 1) := by decide +kernel
theorem d_W_law_477 : decode m_W_law.2.1 477 = .ok (.ireturn, 1) := by decide +kernel
theorem d_W_law_478 : decode m_W_law.2.1 478 = .ok (.aload_n 1, 1) := by decide +kernel
theorem d_W_law_479 : decode m_W_law.2.1 479 = .ok (.aload_n 0, 1) := by decide +kernel
theorem d_W_law_480 : decode m_W_law.2.1 480 = .ok (.iload_n 3, 1) := by decide +kernel
theorem d_W_law_481 : decode m_W_law.2.1 481 = .ok (.iconst 1, 1) := by decide +kernel
theorem d_W_law_482 : decode m_W_law.2.1 482 = .ok (.iadd, 1) := by decide +kernel
theorem d_W_law_483 : decode m_W_law.2.1 483 = .ok (.iaload, 1) := by decide +kernel
theorem d_W_law_484 : decode m_W_law.2.1 484 = .ok (.invokevirtual 58, 3) := by decide +kernel
theorem d_W_law_487 : decode m_W_law.2.1 487 = .ok (.aload_n 2, 1) := by decide +kernel
theorem d_W_law_488 : decode m_W_law.2.1 488 = .ok (.aload_n 0, 1) := by decide +kernel
theorem d_W_law_489 : decode m_W_law.2.1 489 = .ok (.iload_n 3, 1) := by decide +kernel
theorem d_W_law_490 : decode m_W_law.2.1 490 = .ok (.iconst 1, 1) := by decide +kernel
theorem d_W_law_491 : decode m_W_law.2.1 491 = .ok (.iadd, 1) := by decide +kernel
theorem d_W_law_492 : decode m_W_law.2.1 492 = .ok (.iaload, 1) := by decide +kernel
theorem d_W_law_493 : decode m_W_law.2.1 493 = .ok (.invokevirtual 61, 3) := by decide +kernel
theorem d_W_law_496 : decode m_W_law.2.1 496 = .ok (.if_icmp .eq 480, 3) := by decide +kernel
theorem d_W_law_499 : decode m_W_law.2.1 499 = .ok (.iconst 0, 1) := by decide +kernel
theorem d_W_law_500 : decode m_W_law.2.1 500 = .ok (.ireturn, 1) := by decide +kernel
theorem d_W_law_501 : decode m_W_law.2.1 501 = .ok (.aload_n 1, 1) := by decide +kernel
theorem d_W_law_502 : decode m_W_law.2.1 502 = .ok (.aload_n 0, 1) := by decide +kernel
theorem d_W_law_503 : decode m_W_law.2.1 503 = .ok (.iload_n 3, 1) := by decide +kernel
theorem d_W_law_504 : decode m_W_law.2.1 504 = .ok (.iconst 1, 1) := by decide +kernel
theorem d_W_law_505 : decode m_W_law.2.1 505 = .ok (.iadd, 1) := by decide +kernel
theorem d_W_law_506 : decode m_W_law.2.1 506 = .ok (.iaload, 1) := by decide +kernel
theorem d_W_law_507 : decode m_W_law.2.1 507 = .ok (.invokevirtual 62, 3) := by decide +kernel
theorem d_W_law_510 : decode m_W_law.2.1 510 = .ok (.aload_n 2, 1) := by decide +kernel
theorem d_W_law_511 : decode m_W_law.2.1 511 = .ok (.aload_n 0, 1) := by decide +kernel
theorem d_W_law_512 : decode m_W_law.2.1 512 = .ok (.iload_n 3, 1) := by decide +kernel
theorem d_W_law_513 : decode m_W_law.2.1 513 = .ok (.iconst 1, 1) := by decide +kernel
theorem d_W_law_514 : decode m_W_law.2.1 514 = .ok (.iadd, 1) := by decide +kernel
theorem d_W_law_515 : decode m_W_law.2.1 515 = .ok (.iaload, 1) := by decide +kernel
theorem d_W_law_516 : decode m_W_law.2.1 516 = .ok (.invokevirtual 65, 3) := by decide +kernel
theorem d_W_law_519 : decode m_W_law.2.1 519 = .ok (.if_icmp .eq 457, 3) := by decide +kernel
theorem d_W_law_522 : decode m_W_law.2.1 522 = .ok (.iconst 0, 1) := by decide +kernel
theorem d_W_law_523 : decode m_W_law.2.1 523 = .ok (.ireturn, 1) := by decide +kernel
theorem d_W_law_524 : decode m_W_law.2.1 524 = .ok (.aload_n 1, 1) := by decide +kernel
theorem d_W_law_525 : decode m_W_law.2.1 525 = .ok (.aload_n 0, 1) := by decide +kernel
theorem d_W_law_526 : decode m_W_law.2.1 526 = .ok (.iload_n 3, 1) := by decide +kernel
theorem d_W_law_527 : decode m_W_law.2.1 527 = .ok (.iconst 1, 1) := by decide +kernel
theorem d_W_law_528 : decode m_W_law.2.1 528 = .ok (.iadd, 1) := by decide +kernel
theorem d_W_law_529 : decode m_W_law.2.1 529 = .ok (.iaload, 1) := by decide +kernel
theorem d_W_law_530 : decode m_W_law.2.1 530 = .ok (.aload_n 0, 1) := by decide +kernel
theorem d_W_law_531 : decode m_W_law.2.1 531 = .ok (.iload_n 3, 1) := by decide +kernel
theorem d_W_law_532 : decode m_W_law.2.1 532 = .ok (.iconst 2, 1) := by decide +kernel
theorem d_W_law_533 : decode m_W_law.2.1 533 = .ok (.iadd, 1) := by decide +kernel
theorem d_W_law_534 : decode m_W_law.2.1 534 = .ok (.iaload, 1) := by decide +kernel
theorem d_W_law_535 : decode m_W_law.2.1 535 = .ok (.invokevirtual 66, 3) := by decide +kernel
theorem d_W_law_538 : decode m_W_law.2.1 538 = .ok (.aload_n 2, 1) := by decide +kernel
theorem d_W_law_539 : decode m_W_law.2.1 539 = .ok (.aload_n 0, 1) := by decide +kernel
theorem d_W_law_540 : decode m_W_law.2.1 540 = .ok (.iload_n 3, 1) := by decide +kernel
theorem d_W_law_541 : decode m_W_law.2.1 541 = .ok (.iconst 1, 1) := by decide +kernel
theorem d_W_law_542 : decode m_W_law.2.1 542 = .ok (.iadd, 1) := by decide +kernel
theorem d_W_law_543 : decode m_W_law.2.1 543 = .ok (.iaload, 1) := by decide +kernel
theorem d_W_law_544 : decode m_W_law.2.1 544 = .ok (.aload_n 0, 1) := by decide +kernel
theorem d_W_law_545 : decode m_W_law.2.1 545 = .ok (.iload_n 3, 1) := by decide +kernel
theorem d_W_law_546 : decode m_W_law.2.1 546 = .ok (.iconst 2, 1) := by decide +kernel
theorem d_W_law_547 : decode m_W_law.2.1 547 = .ok (.iadd, 1) := by decide +kernel
theorem d_W_law_548 : decode m_W_law.2.1 548 = .ok (.iaload, 1) := by decide +kernel
theorem d_W_law_549 : decode m_W_law.2.1 549 = .ok (.invokevirtual 69, 3) := by decide +kernel
theorem d_W_law_552 : decode m_W_law.2.1 552 = .ok (.if_icmp .eq 424, 3) := by decide +kernel
theorem d_W_law_555 : decode m_W_law.2.1 555 = .ok (.iconst 0, 1) := by decide +kernel
theorem d_W_law_556 : decode m_W_law.2.1 556 = .ok (.ireturn, 1) := by decide +kernel
theorem d_W_law_557 : decode m_W_law.2.1 557 = .ok (.aload_n 1, 1) := by decide +kernel
theorem d_W_law_558 : decode m_W_law.2.1 558 = .ok (.aload_n 0, 1) := by decide +kernel
theorem d_W_law_559 : decode m_W_law.2.1 559 = .ok (.iload_n 3, 1) := by decide +kernel
theorem d_W_law_560 : decode m_W_law.2.1 560 = .ok (.iconst 1, 1) := by decide +kernel
theorem d_W_law_561 : decode m_W_law.2.1 561 = .ok (.iadd, 1) := by decide +kernel
theorem d_W_law_562 : decode m_W_law.2.1 562 = .ok (.iaload, 1) := by decide +kernel
theorem d_W_law_563 : decode m_W_law.2.1 563 = .ok (.invokevirtual 70, 3) := by decide +kernel
theorem d_W_law_566 : decode m_W_law.2.1 566 = .ok (.aload_n 2, 1) := by decide +kernel
theorem d_W_law_567 : decode m_W_law.2.1 567 = .ok (.aload_n 0, 1) := by decide +kernel
theorem d_W_law_568 : decode m_W_law.2.1 568 = .ok (.iload_n 3, 1) := by decide +kernel
theorem d_W_law_569 : decode m_W_law.2.1 569 = .ok (.iconst 1, 1) := by decide +kernel
theorem d_W_law_570 : decode m_W_law.2.1 570 = .ok (.iadd, 1) := by decide +kernel
theorem d_W_law_571 : decode m_W_law.2.1 571 = .ok (.iaload, 1) := by decide +kernel
theorem d_W_law_572 : decode m_W_law.2.1 572 = .ok (.invokevirtual 73, 3) := by decide +kernel
theorem d_W_law_575 : decode m_W_law.2.1 575 = .ok (.if_icmp .eq 401, 3) := by decide +kernel
theorem d_W_law_578 : decode m_W_law.2.1 578 = .ok (.iconst 0, 1) := by decide +kernel
theorem d_W_law_579 : decode m_W_law.2.1 579 = .ok (.ireturn, 1) := by decide +kernel
theorem d_W_law_580 : decode m_W_law.2.1 580 = .ok (.aload_n 1, 1) := by decide +kernel
theorem d_W_law_581 : decode m_W_law.2.1 581 = .ok (.aload_n 0, 1) := by decide +kernel
theorem d_W_law_582 : decode m_W_law.2.1 582 = .ok (.iload_n 3, 1) := by decide +kernel
theorem d_W_law_583 : decode m_W_law.2.1 583 = .ok (.iconst 1, 1) := by decide +kernel
theorem d_W_law_584 : decode m_W_law.2.1 584 = .ok (.iadd, 1) := by decide +kernel
theorem d_W_law_585 : decode m_W_law.2.1 585 = .ok (.iaload, 1) := by decide +kernel
theorem d_W_law_586 : decode m_W_law.2.1 586 = .ok (.aload_n 0, 1) := by decide +kernel
theorem d_W_law_587 : decode m_W_law.2.1 587 = .ok (.iload_n 3, 1) := by decide +kernel
theorem d_W_law_588 : decode m_W_law.2.1 588 = .ok (.iconst 2, 1) := by decide +kernel
theorem d_W_law_589 : decode m_W_law.2.1 589 = .ok (.iadd, 1) := by decide +kernel
theorem d_W_law_590 : decode m_W_law.2.1 590 = .ok (.iaload, 1) := by decide +kernel
theorem d_W_law_591 : decode m_W_law.2.1 591 = .ok (.invokevirtual 74, 3) := by decide +kernel
theorem d_W_law_594 : decode m_W_law.2.1 594 = .ok (.aload_n 2, 1) := by decide +kernel
theorem d_W_law_595 : decode m_W_law.2.1 595 = .ok (.aload_n 0, 1) := by decide +kernel
theorem d_W_law_596 : decode m_W_law.2.1 596 = .ok (.iload_n 3, 1) := by decide +kernel
theorem d_W_law_597 : decode m_W_law.2.1 597 = .ok (.iconst 1, 1) := by decide +kernel
theorem d_W_law_598 : decode m_W_law.2.1 598 = .ok (.iadd, 1) := by decide +kernel
theorem d_W_law_599 : decode m_W_law.2.1 599 = .ok (.iaload, 1) := by decide +kernel
theorem d_W_law_600 : decode m_W_law.2.1 600 = .ok (.aload_n 0, 1) := by decide +kernel
theorem d_W_law_601 : decode m_W_law.2.1 601 = .ok (.iload_n 3, 1) := by decide +kernel
theorem d_W_law_602 : decode m_W_law.2.1 602 = .ok (.iconst 2, 1) := by decide +kernel
theorem d_W_law_603 : decode m_W_law.2.1 603 = .ok (.iadd, 1) := by decide +kernel
theorem d_W_law_604 : decode m_W_law.2.1 604 = .ok (.iaload, 1) := by decide +kernel
theorem d_W_law_605 : decode m_W_law.2.1 605 = .ok (.invokevirtual 77, 3) := by decide +kernel
theorem d_W_law_608 : decode m_W_law.2.1 608 = .ok (.if_icmp .eq 368, 3) := by decide +kernel
theorem d_W_law_611 : decode m_W_law.2.1 611 = .ok (.iconst 0, 1) := by decide +kernel
theorem d_W_law_612 : decode m_W_law.2.1 612 = .ok (.ireturn, 1) := by decide +kernel
theorem d_W_law_613 : decode m_W_law.2.1 613 = .ok (.aload_n 1, 1) := by decide +kernel
theorem d_W_law_614 : decode m_W_law.2.1 614 = .ok (.aload_n 0, 1) := by decide +kernel
theorem d_W_law_615 : decode m_W_law.2.1 615 = .ok (.iload_n 3, 1) := by decide +kernel
theorem d_W_law_616 : decode m_W_law.2.1 616 = .ok (.iconst 1, 1) := by decide +kernel
theorem d_W_law_617 : decode m_W_law.2.1 617 = .ok (.iadd, 1) := by decide +kernel
theorem d_W_law_618 : decode m_W_law.2.1 618 = .ok (.iaload, 1) := by decide +kernel
theorem d_W_law_619 : decode m_W_law.2.1 619 = .ok (.aload_n 0, 1) := by decide +kernel
theorem d_W_law_620 : decode m_W_law.2.1 620 = .ok (.iload_n 3, 1) := by decide +kernel
theorem d_W_law_621 : decode m_W_law.2.1 621 = .ok (.iconst 2, 1) := by decide +kernel
theorem d_W_law_622 : decode m_W_law.2.1 622 = .ok (.iadd, 1) := by decide +kernel
theorem d_W_law_623 : decode m_W_law.2.1 623 = .ok (.iaload, 1) := by decide +kernel
theorem d_W_law_624 : decode m_W_law.2.1 624 = .ok (.invokevirtual 78, 3) := by decide +kernel
theorem d_W_law_627 : decode m_W_law.2.1 627 = .ok (.aload_n 2, 1) := by decide +kernel
theorem d_W_law_628 : decode m_W_law.2.1 628 = .ok (.aload_n 0, 1) := by decide +kernel
theorem d_W_law_629 : decode m_W_law.2.1 629 = .ok (.iload_n 3, 1) := by decide +kernel
theorem d_W_law_630 : decode m_W_law.2.1 630 = .ok (.iconst 1, 1) := by decide +kernel
theorem d_W_law_631 : decode m_W_law.2.1 631 = .ok (.iadd, 1) := by decide +kernel
theorem d_W_law_632 : decode m_W_law.2.1 632 = .ok (.iaload, 1) := by decide +kernel
theorem d_W_law_633 : decode m_W_law.2.1 633 = .ok (.aload_n 0, 1) := by decide +kernel
theorem d_W_law_634 : decode m_W_law.2.1 634 = .ok (.iload_n 3, 1) := by decide +kernel
theorem d_W_law_635 : decode m_W_law.2.1 635 = .ok (.iconst 2, 1) := by decide +kernel
theorem d_W_law_636 : decode m_W_law.2.1 636 = .ok (.iadd, 1) := by decide +kernel
theorem d_W_law_637 : decode m_W_law.2.1 637 = .ok (.iaload, 1) := by decide +kernel
theorem d_W_law_638 : decode m_W_law.2.1 638 = .ok (.invokevirtual 81, 3) := by decide +kernel
theorem d_W_law_641 : decode m_W_law.2.1 641 = .ok (.if_icmp .eq 335, 3) := by decide +kernel
theorem d_W_law_644 : decode m_W_law.2.1 644 = .ok (.iconst 0, 1) := by decide +kernel
theorem d_W_law_645 : decode m_W_law.2.1 645 = .ok (.ireturn, 1) := by decide +kernel
theorem d_W_law_646 : decode m_W_law.2.1 646 = .ok (.aload_n 1, 1) := by decide +kernel
theorem d_W_law_647 : decode m_W_law.2.1 647 = .ok (.aload_n 0, 1) := by decide +kernel
theorem d_W_law_648 : decode m_W_law.2.1 648 = .ok (.iload_n 3, 1) := by decide +kernel
theorem d_W_law_649 : decode m_W_law.2.1 649 = .ok (.iconst 1, 1) := by decide +kernel
theorem d_W_law_650 : decode m_W_law.2.1 650 = .ok (.iadd, 1) := by decide +kernel
theorem d_W_law_651 : decode m_W_law.2.1 651 = .ok (.iaload, 1) := by decide +kernel
theorem d_W_law_652 : decode m_W_law.2.1 652 = .ok (.aload_n 0, 1) := by decide +kernel
theorem d_W_law_653 : decode m_W_law.2.1 653 = .ok (.iload_n 3, 1) := by decide +kernel
theorem d_W_law_654 : decode m_W_law.2.1 654 = .ok (.iconst 2, 1) := by decide +kernel
theorem d_W_law_655 : decode m_W_law.2.1 655 = .ok (.iadd, 1) := by decide +kernel
theorem d_W_law_656 : decode m_W_law.2.1 656 = .ok (.iaload, 1) := by decide +kernel
theorem d_W_law_657 : decode m_W_law.2.1 657 = .ok (.invokevirtual 82, 3) := by decide +kernel
theorem d_W_law_660 : decode m_W_law.2.1 660 = .ok (.aload_n 2, 1) := by decide +kernel
theorem d_W_law_661 : decode m_W_law.2.1 661 = .ok (.aload_n 0, 1) := by decide +kernel
theorem d_W_law_662 : decode m_W_law.2.1 662 = .ok (.iload_n 3, 1) := by decide +kernel
theorem d_W_law_663 : decode m_W_law.2.1 663 = .ok (.iconst 1, 1) := by decide +kernel
theorem d_W_law_664 : decode m_W_law.2.1 664 = .ok (.iadd, 1) := by decide +kernel
theorem d_W_law_665 : decode m_W_law.2.1 665 = .ok (.iaload, 1) := by decide +kernel
theorem d_W_law_666 : decode m_W_law.2.1 666 = .ok (.aload_n 0, 1) := by decide +kernel
theorem d_W_law_667 : decode m_W_law.2.1 667 = .ok (.iload_n 3, 1) := by decide +kernel
theorem d_W_law_668 : decode m_W_law.2.1 668 = .ok (.iconst 2, 1) := by decide +kernel
theorem d_W_law_669 : decode m_W_law.2.1 669 = .ok (.iadd, 1) := by decide +kernel
theorem d_W_law_670 : decode m_W_law.2.1 670 = .ok (.iaload, 1) := by decide +kernel
theorem d_W_law_671 : decode m_W_law.2.1 671 = .ok (.invokevirtual 85, 3) := by decide +kernel
theorem d_W_law_674 : decode m_W_law.2.1 674 = .ok (.if_icmp .eq 302, 3) := by decide +kernel
theorem d_W_law_677 : decode m_W_law.2.1 677 = .ok (.iconst 0, 1) := by decide +kernel
theorem d_W_law_678 : decode m_W_law.2.1 678 = .ok (.ireturn, 1) := by decide +kernel
theorem d_W_law_679 : decode m_W_law.2.1 679 = .ok (.aload_n 1, 1) := by decide +kernel
theorem d_W_law_680 : decode m_W_law.2.1 680 = .ok (.aload_n 0, 1) := by decide +kernel
theorem d_W_law_681 : decode m_W_law.2.1 681 = .ok (.iload_n 3, 1) := by decide +kernel
theorem d_W_law_682 : decode m_W_law.2.1 682 = .ok (.iconst 1, 1) := by decide +kernel
theorem d_W_law_683 : decode m_W_law.2.1 683 = .ok (.iadd, 1) := by decide +kernel
theorem d_W_law_684 : decode m_W_law.2.1 684 = .ok (.iaload, 1) := by decide +kernel
theorem d_W_law_685 : decode m_W_law.2.1 685 = .ok (.aload_n 0, 1) := by decide +kernel
theorem d_W_law_686 : decode m_W_law.2.1 686 = .ok (.iload_n 3, 1) := by decide +kernel
theorem d_W_law_687 : decode m_W_law.2.1 687 = .ok (.iconst 2, 1) := by decide +kernel
theorem d_W_law_688 : decode m_W_law.2.1 688 = .ok (.iadd, 1) := by decide +kernel
theorem d_W_law_689 : decode m_W_law.2.1 689 = .ok (.iaload, 1) := by decide +kernel
theorem d_W_law_690 : decode m_W_law.2.1 690 = .ok (.ifCond .eq 7, 3) := by decide +kernel
theorem d_W_law_693 : decode m_W_law.2.1 693 = .ok (.iconst 1, 1) := by decide +kernel
theorem d_W_law_694 : decode m_W_law.2.1 694 = .ok (.goto 4, 3) := by decide +kernel
theorem d_W_law_697 : decode m_W_law.2.1 697 = .ok (.iconst 0, 1) := by decide +kernel
theorem d_W_law_698 : decode m_W_law.2.1 698 = .ok (.invokevirtual 86, 3) := by decide +kernel
theorem d_W_law_701 : decode m_W_law.2.1 701 = .ok (.aload_n 2, 1) := by decide +kernel
theorem d_W_law_702 : decode m_W_law.2.1 702 = .ok (.aload_n 0, 1) := by decide +kernel
theorem d_W_law_703 : decode m_W_law.2.1 703 = .ok (.iload_n 3, 1) := by decide +kernel
theorem d_W_law_704 : decode m_W_law.2.1 704 = .ok (.iconst 1, 1) := by decide +kernel
theorem d_W_law_705 : decode m_W_law.2.1 705 = .ok (.iadd, 1) := by decide +kernel
theorem d_W_law_706 : decode m_W_law.2.1 706 = .ok (.iaload, 1) := by decide +kernel
theorem d_W_law_707 : decode m_W_law.2.1 707 = .ok (.aload_n 0, 1) := by decide +kernel
theorem d_W_law_708 : decode m_W_law.2.1 708 = .ok (.iload_n 3, 1) := by decide +kernel
theorem d_W_law_709 : decode m_W_law.2.1 709 = .ok (.iconst 2, 1) := by decide +kernel
theorem d_W_law_710 : decode m_W_law.2.1 710 = .ok (.iadd, 1) := by decide +kernel
theorem d_W_law_711 : decode m_W_law.2.1 711 = .ok (.iaload, 1) := by decide +kernel
theorem d_W_law_712 : decode m_W_law.2.1 712 = .ok (.ifCond .eq 7, 3) := by decide +kernel
theorem d_W_law_715 : decode m_W_law.2.1 715 = .ok (.iconst 1, 1) := by decide +kernel
theorem d_W_law_716 : decode m_W_law.2.1 716 = .ok (.goto 4, 3) := by decide +kernel
theorem d_W_law_719 : decode m_W_law.2.1 719 = .ok (.iconst 0, 1) := by decide +kernel
theorem d_W_law_720 : decode m_W_law.2.1 720 = .ok (.invokevirtual 90, 3) := by decide +kernel
theorem d_W_law_723 : decode m_W_law.2.1 723 = .ok (.if_icmp .eq 253, 3) := by decide +kernel
theorem d_W_law_726 : decode m_W_law.2.1 726 = .ok (.iconst 0, 1) := by decide +kernel
theorem d_W_law_727 : decode m_W_law.2.1 727 = .ok (.ireturn, 1) := by decide +kernel
theorem d_W_law_728 : decode m_W_law.2.1 728 = .ok (.aload_n 1, 1) := by decide +kernel
theorem d_W_law_729 : decode m_W_law.2.1 729 = .ok (.invokevirtual 91, 3) := by decide +kernel
theorem d_W_law_732 : decode m_W_law.2.1 732 = .ok (.aload_n 2, 1) := by decide +kernel
theorem d_W_law_733 : decode m_W_law.2.1 733 = .ok (.invokevirtual 94, 3) := by decide +kernel
theorem d_W_law_736 : decode m_W_law.2.1 736 = .ok (.if_icmp .eq 240, 3) := by decide +kernel
theorem d_W_law_739 : decode m_W_law.2.1 739 = .ok (.iconst 0, 1) := by decide +kernel
theorem d_W_law_740 : decode m_W_law.2.1 740 = .ok (.ireturn, 1) := by decide +kernel
theorem d_W_law_741 : decode m_W_law.2.1 741 = .ok (.aload_n 1, 1) := by decide +kernel
theorem d_W_law_742 : decode m_W_law.2.1 742 = .ok (.invokevirtual 95, 3) := by decide +kernel
theorem d_W_law_745 : decode m_W_law.2.1 745 = .ok (.aload_n 2, 1) := by decide +kernel
theorem d_W_law_746 : decode m_W_law.2.1 746 = .ok (.invokevirtual 98, 3) := by decide +kernel
theorem d_W_law_749 : decode m_W_law.2.1 749 = .ok (.if_icmp .eq 227, 3) := by decide +kernel
theorem d_W_law_752 : decode m_W_law.2.1 752 = .ok (.iconst 0, 1) := by decide +kernel
theorem d_W_law_753 : decode m_W_law.2.1 753 = .ok (.ireturn, 1) := by decide +kernel
theorem d_W_law_754 : decode m_W_law.2.1 754 = .ok (.aload_n 1, 1) := by decide +kernel
theorem d_W_law_755 : decode m_W_law.2.1 755 = .ok (.aload_n 0, 1) := by decide +kernel
theorem d_W_law_756 : decode m_W_law.2.1 756 = .ok (.iload_n 3, 1) := by decide +kernel
theorem d_W_law_757 : decode m_W_law.2.1 757 = .ok (.iconst 1, 1) := by decide +kernel
theorem d_W_law_758 : decode m_W_law.2.1 758 = .ok (.iadd, 1) := by decide +kernel
theorem d_W_law_759 : decode m_W_law.2.1 759 = .ok (.iaload, 1) := by decide +kernel
theorem d_W_law_760 : decode m_W_law.2.1 760 = .ok (.invokevirtual 99, 3) := by decide +kernel
theorem d_W_law_763 : decode m_W_law.2.1 763 = .ok (.aload_n 2, 1) := by decide +kernel
theorem d_W_law_764 : decode m_W_law.2.1 764 = .ok (.aload_n 0, 1) := by decide +kernel
theorem d_W_law_765 : decode m_W_law.2.1 765 = .ok (.iload_n 3, 1) := by decide +kernel
theorem d_W_law_766 : decode m_W_law.2.1 766 = .ok (.iconst 1, 1) := by decide +kernel
theorem d_W_law_767 : decode m_W_law.2.1 767 = .ok (.iadd, 1) := by decide +kernel
theorem d_W_law_768 : decode m_W_law.2.1 768 = .ok (.iaload, 1) := by decide +kernel
theorem d_W_law_769 : decode m_W_law.2.1 769 = .ok (.invokevirtual 102, 3) := by decide +kernel
theorem d_W_law_772 : decode m_W_law.2.1 772 = .ok (.if_icmp .eq 204, 3) := by decide +kernel
theorem d_W_law_775 : decode m_W_law.2.1 775 = .ok (.iconst 0, 1) := by decide +kernel
theorem d_W_law_776 : decode m_W_law.2.1 776 = .ok (.ireturn, 1) := by decide +kernel
theorem d_W_law_777 : decode m_W_law.2.1 777 = .ok (.aload_n 1, 1) := by decide +kernel
theorem d_W_law_778 : decode m_W_law.2.1 778 = .ok (.aload_n 0, 1) := by decide +kernel
theorem d_W_law_779 : decode m_W_law.2.1 779 = .ok (.iload_n 3, 1) := by decide +kernel
theorem d_W_law_780 : decode m_W_law.2.1 780 = .ok (.iconst 1, 1) := by decide +kernel
theorem d_W_law_781 : decode m_W_law.2.1 781 = .ok (.iadd, 1) := by decide +kernel
theorem d_W_law_782 : decode m_W_law.2.1 782 = .ok (.iaload, 1) := by decide +kernel
theorem d_W_law_783 : decode m_W_law.2.1 783 = .ok (.aload_n 0, 1) := by decide +kernel
theorem d_W_law_784 : decode m_W_law.2.1 784 = .ok (.iload_n 3, 1) := by decide +kernel
theorem d_W_law_785 : decode m_W_law.2.1 785 = .ok (.iconst 2, 1) := by decide +kernel
theorem d_W_law_786 : decode m_W_law.2.1 786 = .ok (.iadd, 1) := by decide +kernel
theorem d_W_law_787 : decode m_W_law.2.1 787 = .ok (.iaload, 1) := by decide +kernel
theorem d_W_law_788 : decode m_W_law.2.1 788 = .ok (.invokevirtual 103, 3) := by decide +kernel
theorem d_W_law_791 : decode m_W_law.2.1 791 = .ok (.aload_n 2, 1) := by decide +kernel
theorem d_W_law_792 : decode m_W_law.2.1 792 = .ok (.aload_n 0, 1) := by decide +kernel
theorem d_W_law_793 : decode m_W_law.2.1 793 = .ok (.iload_n 3, 1) := by decide +kernel
theorem d_W_law_794 : decode m_W_law.2.1 794 = .ok (.iconst 1, 1) := by decide +kernel
theorem d_W_law_795 : decode m_W_law.2.1 795 = .ok (.iadd, 1) := by decide +kernel
theorem d_W_law_796 : decode m_W_law.2.1 796 = .ok (.iaload, 1) := by decide +kernel
theorem d_W_law_797 : decode m_W_law.2.1 797 = .ok (.aload_n 0, 1) := by decide +kernel
theorem d_W_law_798 : decode m_W_law.2.1 798 = .ok (.iload_n 3, 1) := by decide +kernel
theorem d_W_law_799 : decode m_W_law.2.1 799 = .ok (.iconst 2, 1) := by decide +kernel
theorem d_W_law_800 : decode m_W_law.2.1 800 = .ok (.iadd, 1) := by decide +kernel
theorem d_W_law_801 : decode m_W_law.2.1 801 = .ok (.iaload, 1) := by decide +kernel
theorem d_W_law_802 : decode m_W_law.2.1 802 = .ok (.invokevirtual 106, 3) := by decide +kernel
theorem d_W_law_805 : decode m_W_law.2.1 805 = .ok (.if_icmp .eq 171, 3) := by decide +kernel
theorem d_W_law_808 : decode m_W_law.2.1 808 = .ok (.iconst 0, 1) := by decide +kernel
theorem d_W_law_809 : decode m_W_law.2.1 809 = .ok (.ireturn, 1) := by decide +kernel
theorem d_W_law_810 : decode m_W_law.2.1 810 = .ok (.aload_n 1, 1) := by decide +kernel
theorem d_W_law_811 : decode m_W_law.2.1 811 = .ok (.aload_n 0, 1) := by decide +kernel
theorem d_W_law_812 : decode m_W_law.2.1 812 = .ok (.iload_n 3, 1) := by decide +kernel
theorem d_W_law_813 : decode m_W_law.2.1 813 = .ok (.iconst 1, 1) := by decide +kernel
theorem d_W_law_814 : decode m_W_law.2.1 814 = .ok (.iadd, 1) := by decide +kernel
theorem d_W_law_815 : decode m_W_law.2.1 815 = .ok (.iaload, 1) := by decide +kernel
theorem d_W_law_816 : decode m_W_law.2.1 816 = .ok (.aload_n 0, 1) := by decide +kernel
theorem d_W_law_817 : decode m_W_law.2.1 817 = .ok (.iload_n 3, 1) := by decide +kernel
theorem d_W_law_818 : decode m_W_law.2.1 818 = .ok (.iconst 2, 1) := by decide +kernel
theorem d_W_law_819 : decode m_W_law.2.1 819 = .ok (.iadd, 1) := by decide +kernel
theorem d_W_law_820 : decode m_W_law.2.1 820 = .ok (.iaload, 1) := by decide +kernel
theorem d_W_law_821 : decode m_W_law.2.1 821 = .ok (.aload_n 0, 1) := by decide +kernel
theorem d_W_law_822 : decode m_W_law.2.1 822 = .ok (.iload_n 3, 1) := by decide +kernel
theorem d_W_law_823 : decode m_W_law.2.1 823 = .ok (.iconst 3, 1) := by decide +kernel
theorem d_W_law_824 : decode m_W_law.2.1 824 = .ok (.iadd, 1) := by decide +kernel
theorem d_W_law_825 : decode m_W_law.2.1 825 = .ok (.iaload, 1) := by decide +kernel
theorem d_W_law_826 : decode m_W_law.2.1 826 = .ok (.aload_n 0, 1) := by decide +kernel
theorem d_W_law_827 : decode m_W_law.2.1 827 = .ok (.iload_n 3, 1) := by decide +kernel
theorem d_W_law_828 : decode m_W_law.2.1 828 = .ok (.iconst 4, 1) := by decide +kernel
theorem d_W_law_829 : decode m_W_law.2.1 829 = .ok (.iadd, 1) := by decide +kernel
theorem d_W_law_830 : decode m_W_law.2.1 830 = .ok (.iaload, 1) := by decide +kernel
theorem d_W_law_831 : decode m_W_law.2.1 831 = .ok (.invokevirtual 107, 3) := by decide +kernel
theorem d_W_law_834 : decode m_W_law.2.1 834 = .ok (.aload_n 2, 1) := by decide +kernel
theorem d_W_law_835 : decode m_W_law.2.1 835 = .ok (.aload_n 0, 1) := by decide +kernel
theorem d_W_law_836 : decode m_W_law.2.1 836 = .ok (.iload_n 3, 1) := by decide +kernel
theorem d_W_law_837 : decode m_W_law.2.1 837 = .ok (.iconst 1, 1) := by decide +kernel
theorem d_W_law_838 : decode m_W_law.2.1 838 = .ok (.iadd, 1) := by decide +kernel
theorem d_W_law_839 : decode m_W_law.2.1 839 = .ok (.iaload, 1) := by decide +kernel
theorem d_W_law_840 : decode m_W_law.2.1 840 = .ok (.aload_n 0, 1) := by decide +kernel
theorem d_W_law_841 : decode m_W_law.2.1 841 = .ok (.iload_n 3, 1) := by decide +kernel
theorem d_W_law_842 : decode m_W_law.2.1 842 = .ok (.iconst 2, 1) := by decide +kernel
theorem d_W_law_843 : decode m_W_law.2.1 843 = .ok (.iadd, 1) := by decide +kernel
theorem d_W_law_844 : decode m_W_law.2.1 844 = .ok (.iaload, 1) := by decide +kernel
theorem d_W_law_845 : decode m_W_law.2.1 845 = .ok (.aload_n 0, 1) := by decide +kernel
theorem d_W_law_846 : decode m_W_law.2.1 846 = .ok (.iload_n 3, 1) := by decide +kernel
theorem d_W_law_847 : decode m_W_law.2.1 847 = .ok (.iconst 3, 1) := by decide +kernel
theorem d_W_law_848 : decode m_W_law.2.1 848 = .ok (.iadd, 1) := by decide +kernel
theorem d_W_law_849 : decode m_W_law.2.1 849 = .ok (.iaload, 1) := by decide +kernel
theorem d_W_law_850 : decode m_W_law.2.1 850 = .ok (.aload_n 0, 1) := by decide +kernel
theorem d_W_law_851 : decode m_W_law.2.1 851 = .ok (.iload_n 3, 1) := by decide +kernel
theorem d_W_law_852 : decode m_W_law.2.1 852 = .ok (.iconst 4, 1) := by decide +kernel
theorem d_W_law_853 : decode m_W_law.2.1 853 = .ok (.iadd, 1) := by decide +kernel
theorem d_W_law_854 : decode m_W_law.2.1 854 = .ok (.iaload, 1) := by decide +kernel
theorem d_W_law_855 : decode m_W_law.2.1 855 = .ok (.invokevirtual 111, 3) := by decide +kernel
theorem d_W_law_858 : decode m_W_law.2.1 858 = .ok (.lcmp, 1) := by decide +kernel
theorem d_W_law_859 : decode m_W_law.2.1 859 = .ok (.ifCond .eq 117, 3) := by decide +kernel
theorem d_W_law_862 : decode m_W_law.2.1 862 = .ok (.iconst 0, 1) := by decide +kernel
theorem d_W_law_863 : decode m_W_law.2.1 863 = .ok (.ireturn, 1) := by decide +kernel
theorem d_W_law_864 : decode m_W_law.2.1 864 = .ok (.aload_n 1, 1) := by decide +kernel
theorem d_W_law_865 : decode m_W_law.2.1 865 = .ok (.aload_n 0, 1) := by decide +kernel
theorem d_W_law_866 : decode m_W_law.2.1 866 = .ok (.iload_n 3, 1) := by decide +kernel
theorem d_W_law_867 : decode m_W_law.2.1 867 = .ok (.iconst 1, 1) := by decide +kernel
theorem d_W_law_868 : decode m_W_law.2.1 868 = .ok (.iadd, 1) := by decide +kernel
theorem d_W_law_869 : decode m_W_law.2.1 869 = .ok (.iaload, 1) := by decide +kernel
theorem d_W_law_870 : decode m_W_law.2.1 870 = .ok (.aload_n 0, 1) := by decide +kernel
theorem d_W_law_871 : decode m_W_law.2.1 871 = .ok (.iload_n 3, 1) := by decide +kernel
theorem d_W_law_872 : decode m_W_law.2.1 872 = .ok (.iconst 2, 1) := by decide +kernel
theorem d_W_law_873 : decode m_W_law.2.1 873 = .ok (.iadd, 1) := by decide +kernel
theorem d_W_law_874 : decode m_W_law.2.1 874 = .ok (.iaload, 1) := by decide +kernel
theorem d_W_law_875 : decode m_W_law.2.1 875 = .ok (.aload_n 0, 1) := by decide +kernel
theorem d_W_law_876 : decode m_W_law.2.1 876 = .ok (.iload_n 3, 1) := by decide +kernel
theorem d_W_law_877 : decode m_W_law.2.1 877 = .ok (.iconst 3, 1) := by decide +kernel
theorem d_W_law_878 : decode m_W_law.2.1 878 = .ok (.iadd, 1) := by decide +kernel
theorem d_W_law_879 : decode m_W_law.2.1 879 = .ok (.iaload, 1) := by decide +kernel
theorem d_W_law_880 : decode m_W_law.2.1 880 = .ok (.invokevirtual 112, 3) := by decide +kernel
theorem d_W_law_883 : decode m_W_law.2.1 883 = .ok (.aload_n 2, 1) := by decide +kernel
theorem d_W_law_884 : decode m_W_law.2.1 884 = .ok (.aload_n 0, 1) := by decide +kernel
theorem d_W_law_885 : decode m_W_law.2.1 885 = .ok (.iload_n 3, 1) := by decide +kernel
theorem d_W_law_886 : decode m_W_law.2.1 886 = .ok (.iconst 1, 1) := by decide +kernel
theorem d_W_law_887 : decode m_W_law.2.1 887 = .ok (.iadd, 1) := by decide +kernel
theorem d_W_law_888 : decode m_W_law.2.1 888 = .ok (.iaload, 1) := by decide +kernel
theorem d_W_law_889 : decode m_W_law.2.1 889 = .ok (.aload_n 0, 1) := by decide +kernel
theorem d_W_law_890 : decode m_W_law.2.1 890 = .ok (.iload_n 3, 1) := by decide +kernel
theorem d_W_law_891 : decode m_W_law.2.1 891 = .ok (.iconst 2, 1) := by decide +kernel
theorem d_W_law_892 : decode m_W_law.2.1 892 = .ok (.iadd, 1) := by decide +kernel
theorem d_W_law_893 : decode m_W_law.2.1 893 = .ok (.iaload, 1) := by decide +kernel
theorem d_W_law_894 : decode m_W_law.2.1 894 = .ok (.aload_n 0, 1) := by decide +kernel
theorem d_W_law_895 : decode m_W_law.2.1 895 = .ok (.iload_n 3, 1) := by decide +kernel
theorem d_W_law_896 : decode m_W_law.2.1 896 = .ok (.iconst 3, 1) := by decide +kernel
theorem d_W_law_897 : decode m_W_law.2.1 897 = .ok (.iadd, 1) := by decide +kernel
theorem d_W_law_898 : decode m_W_law.2.1 898 = .ok (.iaload, 1) := by decide +kernel
theorem d_W_law_899 : decode m_W_law.2.1 899 = .ok (.invokevirtual 116, 3) := by decide +kernel
theorem d_W_law_902 : decode m_W_law.2.1 902 = .ok (.if_icmp .eq 74, 3) := by decide +kernel
theorem d_W_law_905 : decode m_W_law.2.1 905 = .ok (.iconst 0, 1) := by decide +kernel
theorem d_W_law_906 : decode m_W_law.2.1 906 = .ok (.ireturn, 1) := by decide +kernel
theorem d_W_law_907 : decode m_W_law.2.1 907 = .ok (.aload_n 1, 1) := by decide +kernel
theorem d_W_law_908 : decode m_W_law.2.1 908 = .ok (.aload_n 0, 1) := by decide +kernel
theorem d_W_law_909 : decode m_W_law.2.1 909 = .ok (.iload_n 3, 1) := by decide +kernel
theorem d_W_law_910 : decode m_W_law.2.1 910 = .ok (.iconst 1, 1) := by decide +kernel
theorem d_W_law_911 : decode m_W_law.2.1 911 = .ok (.iadd, 1) := by decide +kernel
theorem d_W_law_912 : decode m_W_law.2.1 912 = .ok (.iaload, 1) := by decide +kernel
theorem d_W_law_913 : decode m_W_law.2.1 913 = .ok (.invokevirtual 117, 3) := by decide +kernel
theorem d_W_law_916 : decode m_W_law.2.1 916 = .ok (.aload_n 2, 1) := by decide +kernel
theorem d_W_law_917 : decode m_W_law.2.1 917 = .ok (.aload_n 0, 1) := by decide +kernel
theorem d_W_law_918 : decode m_W_law.2.1 918 = .ok (.iload_n 3, 1) := by decide +kernel
theorem d_W_law_919 : decode m_W_law.2.1 919 = .ok (.iconst 1, 1) := by decide +kernel
theorem d_W_law_920 : decode m_W_law.2.1 920 = .ok (.iadd, 1) := by decide +kernel
theorem d_W_law_921 : decode m_W_law.2.1 921 = .ok (.iaload, 1) := by decide +kernel
theorem d_W_law_922 : decode m_W_law.2.1 922 = .ok (.invokevirtual 120, 3) := by decide +kernel
theorem d_W_law_925 : decode m_W_law.2.1 925 = .ok (.if_icmp .eq 51, 3) := by decide +kernel
theorem d_W_law_928 : decode m_W_law.2.1 928 = .ok (.iconst 0, 1) := by decide +kernel
theorem d_W_law_929 : decode m_W_law.2.1 929 = .ok (.ireturn, 1) := by decide +kernel
theorem d_W_law_930 : decode m_W_law.2.1 930 = .ok (.aload_n 1, 1) := by decide +kernel
theorem d_W_law_931 : decode m_W_law.2.1 931 = .ok (.aload_n 0, 1) := by decide +kernel
theorem d_W_law_932 : decode m_W_law.2.1 932 = .ok (.iload_n 3, 1) := by decide +kernel
theorem d_W_law_933 : decode m_W_law.2.1 933 = .ok (.iconst 1, 1) := by decide +kernel
theorem d_W_law_934 : decode m_W_law.2.1 934 = .ok (.iadd, 1) := by decide +kernel
theorem d_W_law_935 : decode m_W_law.2.1 935 = .ok (.iaload, 1) := by decide +kernel
theorem d_W_law_936 : decode m_W_law.2.1 936 = .ok (.invokevirtual 121, 3) := by decide +kernel
theorem d_W_law_939 : decode m_W_law.2.1 939 = .ok (.aload_n 2, 1) := by decide +kernel
theorem d_W_law_940 : decode m_W_law.2.1 940 = .ok (.aload_n 0, 1) := by decide +kernel
theorem d_W_law_941 : decode m_W_law.2.1 941 = .ok (.iload_n 3, 1) := by decide +kernel
theorem d_W_law_942 : decode m_W_law.2.1 942 = .ok (.iconst 1, 1) := by decide +kernel
theorem d_W_law_943 : decode m_W_law.2.1 943 = .ok (.iadd, 1) := by decide +kernel
theorem d_W_law_944 : decode m_W_law.2.1 944 = .ok (.iaload, 1) := by decide +kernel
theorem d_W_law_945 : decode m_W_law.2.1 945 = .ok (.invokevirtual 124, 3) := by decide +kernel
theorem d_W_law_948 : decode m_W_law.2.1 948 = .ok (.if_icmp .eq 28, 3) := by decide +kernel
theorem d_W_law_951 : decode m_W_law.2.1 951 = .ok (.iconst 0, 1) := by decide +kernel
theorem d_W_law_952 : decode m_W_law.2.1 952 = .ok (.ireturn, 1) := by decide +kernel
theorem d_W_law_953 : decode m_W_law.2.1 953 = .ok (.aload_n 1, 1) := by decide +kernel
theorem d_W_law_954 : decode m_W_law.2.1 954 = .ok (.aload_n 0, 1) := by decide +kernel
theorem d_W_law_955 : decode m_W_law.2.1 955 = .ok (.iload_n 3, 1) := by decide +kernel
theorem d_W_law_956 : decode m_W_law.2.1 956 = .ok (.iconst 1, 1) := by decide +kernel
theorem d_W_law_957 : decode m_W_law.2.1 957 = .ok (.iadd, 1) := by decide +kernel
theorem d_W_law_958 : decode m_W_law.2.1 958 = .ok (.iaload, 1) := by decide +kernel
theorem d_W_law_959 : decode m_W_law.2.1 959 = .ok (.invokevirtual 125, 3) := by decide +kernel
theorem d_W_law_962 : decode m_W_law.2.1 962 = .ok (.aload_n 2, 1) := by decide +kernel
theorem d_W_law_963 : decode m_W_law.2.1 963 = .ok (.aload_n 0, 1) := by decide +kernel
theorem d_W_law_964 : decode m_W_law.2.1 964 = .ok (.iload_n 3, 1) := by decide +kernel
theorem d_W_law_965 : decode m_W_law.2.1 965 = .ok (.iconst 1, 1) := by decide +kernel
theorem d_W_law_966 : decode m_W_law.2.1 966 = .ok (.iadd, 1) := by decide +kernel
theorem d_W_law_967 : decode m_W_law.2.1 967 = .ok (.iaload, 1) := by decide +kernel
theorem d_W_law_968 : decode m_W_law.2.1 968 = .ok (.invokevirtual 128, 3) := by decide +kernel
theorem d_W_law_971 : decode m_W_law.2.1 971 = .ok (.if_icmp .eq 5, 3) := by decide +kernel
theorem d_W_law_974 : decode m_W_law.2.1 974 = .ok (.iconst 0, 1) := by decide +kernel
theorem d_W_law_975 : decode m_W_law.2.1 975 = .ok (.ireturn, 1) := by decide +kernel
theorem d_W_law_976 : decode m_W_law.2.1 976 = .ok (.iinc 3 6, 3) := by decide +kernel
theorem d_W_law_979 : decode m_W_law.2.1 979 = .ok (.goto (-961), 3) := by decide +kernel
theorem d_W_law_982 : decode m_W_law.2.1 982 = .ok (.iconst 1, 1) := by decide +kernel
theorem d_W_law_983 : decode m_W_law.2.1 983 = .ok (.ireturn, 1) := by decide +kernel
