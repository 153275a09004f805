theorem f_179_45 : x_fe 179 45 = some (.iushr, 46) := by decide +kernel
theorem f_179_46 : x_fe 179 46 = some (.iadd, 47) := by decide +kernel
theorem f_179_47 : x_fe 179 47 = some (.istore 0, 48) := by decide +kernel
theorem f_179_48 : x_fe 179 48 = some (.iload 0, 49) := by decide +kernel
theorem f_179_49 : x_fe 179 49 = some (.iconst (63), 51) := by decide +kernel
theorem f_179_51 : x_fe 179 51 = some (.iand, 52) := by decide +kernel
theorem f_179_52 : x_fe 179 52 = some (.ireturn, 53) := by decide +kernel
theorem f_180_0 : x_fe 180 0 = some (.iload 0, 1) := by decide +kernel
theorem f_180_1 : x_fe 180 1 = some (.ifCond .ge (Int.ofNat 9), 4) := by decide +kernel
theorem f_180_4 : x_fe 180 4 = some (.iload 0, 5) := by decide +kernel
theorem f_180_5 : x_fe 180 5 = some (.ineg, 6) := by decide +kernel
theorem f_180_6 : x_fe 180 6 = some (.goto (Int.ofNat 10), 9) := by decide +kernel
theorem f_180_9 : x_fe 180 9 = some (.iload 0, 10) := by decide +kernel
theorem f_180_10 : x_fe 180 10 = some (.ireturn, 11) := by decide +kernel
theorem f_181_0 : x_fe 181 0 = some (.iload 0, 1) := by decide +kernel
theorem f_181_1 : x_fe 181 1 = some (.iload 1, 2) := by decide +kernel
theorem f_181_2 : x_fe 181 2 = some (.if_icmp .lt (Int.ofNat 9), 5) := by decide +kernel
theorem f_181_5 : x_fe 181 5 = some (.iload 0, 6) := by decide +kernel
theorem f_181_6 : x_fe 181 6 = some (.goto (Int.ofNat 10), 9) := by decide +kernel
theorem f_181_9 : x_fe 181 9 = some (.iload 1, 10) := by decide +kernel
theorem f_181_10 : x_fe 181 10 = some (.ireturn, 11) := by decide +kernel
theorem f_182_0 : x_fe 182 0 = some (.iconst (0), 1) := by decide +kernel
theorem f_182_1 : x_fe 182 1 = some (.istore 2, 2) := by decide +kernel
theorem f_182_2 : x_fe 182 2 = some (.aload 0, 3) := by decide +kernel
theorem f_182_3 : x_fe 182 3 = some (.arraylength, 4) := by decide +kernel
theorem f_182_4 : x_fe 182 4 = some (.istore 3, 5) := by decide +kernel
theorem f_182_5 : x_fe 182 5 = some (.iload 2, 6) := by decide +kernel
theorem f_182_6 : x_fe 182 6 = some (.iload 3, 7) := by decide +kernel
theorem f_182_7 : x_fe 182 7 = some (.if_icmp .ge (Int.ofNat 20), 10) := by decide +kernel
theorem f_182_10 : x_fe 182 10 = some (.aload 0, 11) := by decide +kernel
theorem f_182_11 : x_fe 182 11 = some (.iload 2, 12) := by decide +kernel
theorem f_182_12 : x_fe 182 12 = some (.iload 1, 13) := by decide +kernel
theorem f_182_13 : x_fe 182 13 = some (.iastore, 14) := by decide +kernel
theorem f_182_14 : x_fe 182 14 = some (.iinc 2 (1), 17) := by decide +kernel
theorem f_182_17 : x_fe 182 17 = some (.goto (Int.ofNat 5), 20) := by decide +kernel
theorem f_182_20 : x_fe 182 20 = some (.return_, 21) := by decide +kernel
theorem f_183_0 : x_fe 183 0 = some (.iload 0, 1) := by decide +kernel
theorem f_183_1 : x_fe 183 1 = some (.ifCond .lt (Int.ofNat 9), 4) := by decide +kernel
theorem f_183_4 : x_fe 183 4 = some (.iload 0, 5) := by decide +kernel
theorem f_183_5 : x_fe 183 5 = some (.iload 1, 6) := by decide +kernel
theorem f_183_6 : x_fe 183 6 = some (.if_icmp .lt (Int.ofNat 16), 9) := by decide +kernel
theorem f_183_9 : x_fe 183 9 = some (.aload 2, 10) := by decide +kernel
theorem f_183_10 : x_fe 183 10 = some (.iload 0, 11) := by decide +kernel
theorem f_183_11 : x_fe 183 11 = some (.iload 1, 12) := by decide +kernel
theorem f_183_16 : x_fe 183 16 = some (.iload 0, 17) := by decide +kernel
theorem f_183_17 : x_fe 183 17 = some (.ireturn, 18) := by decide +kernel
theorem f_184_0 : x_fe 184 0 = some (.new 5, 3) := by decide +kernel
theorem f_184_3 : x_fe 184 3 = some (.dup, 4) := by decide +kernel
theorem f_184_4 : x_fe 184 4 = some (.invokespecial 42, 7) := by decide +kernel
theorem f_184_7 : x_fe 184 7 = some (.astore 1, 8) := by decide +kernel
theorem f_184_8 : x_fe 184 8 = some (.new 6, 11) := by decide +kernel
theorem f_184_11 : x_fe 184 11 = some (.dup, 12) := by decide +kernel
theorem f_184_12 : x_fe 184 12 = some (.invokespecial 98, 15) := by decide +kernel
theorem f_184_15 : x_fe 184 15 = some (.astore 2, 16) := by decide +kernel
theorem f_184_16 : x_fe 184 16 = some (.iconst (0), 17) := by decide +kernel
theorem f_184_17 : x_fe 184 17 = some (.istore 3, 18) := by decide +kernel
theorem f_184_18 : x_fe 184 18 = some (.iload 3, 19) := by decide +kernel
theorem f_184_19 : x_fe 184 19 = some (.aload 0, 20) := by decide +kernel
theorem f_184_20 : x_fe 184 20 = some (.arraylength, 21) := by decide +kernel
theorem f_184_21 : x_fe 184 21 = some (.iconst (6), 23) := by decide +kernel
theorem f_184_23 : x_fe 184 23 = some (.isub, 24) := by decide +kernel
theorem f_184_24 : x_fe 184 24 = some (.if_icmp .gt (Int.ofNat 1003), 27) := by decide +kernel
theorem f_184_27 : x_fe 184 27 = some (.aload 0, 28) := by decide +kernel
theorem f_184_28 : x_fe 184 28 = some (.iload 3, 29) := by decide +kernel
theorem f_184_29 : x_fe 184 29 = some (.iaload, 30) := by decide +kernel
theorem f_184_30 : x_fe 184 30 = some (.iconst (31), 32) := by decide +kernel
theorem f_184_32 : x_fe 184 32 = some (.iand, 33) := by decide +kernel
theorem f_184_33 : x_fe 184 33 = some (.tableswitch (964) (0) (26) #[123, 166, 209, 272, 295, 358, 371, 384, 417, 440, 473, 516, 549, 572, 595, 638, 671, 694, 727, 770, 793, 816, 839, 872, 905, 928, 951], 156) := by decide +kernel
theorem f_184_156 : x_fe 184 156 = some (.aload 1, 157) := by decide +kernel
theorem f_184_157 : x_fe 184 157 = some (.aload 0, 158) := by decide +kernel
theorem f_184_158 : x_fe 184 158 = some (.iload 3, 159) := by decide +kernel
theorem f_184_159 : x_fe 184 159 = some (.iconst (1), 160) := by decide +kernel
theorem f_184_160 : x_fe 184 160 = some (.iadd, 161) := by decide +kernel
theorem f_184_161 : x_fe 184 161 = some (.iaload, 162) := by decide +kernel
theorem f_184_162 : x_fe 184 162 = some (.aload 0, 163) := by decide +kernel
theorem f_184_163 : x_fe 184 163 = some (.iload 3, 164) := by decide +kernel
theorem f_184_164 : x_fe 184 164 = some (.iconst (2), 165) := by decide +kernel
theorem f_184_165 : x_fe 184 165 = some (.iadd, 166) := by decide +kernel
theorem f_184_166 : x_fe 184 166 = some (.iaload, 167) := by decide +kernel
theorem f_184_167 : x_fe 184 167 = some (.aload 0, 168) := by decide +kernel
theorem f_184_168 : x_fe 184 168 = some (.iload 3, 169) := by decide +kernel
theorem f_184_169 : x_fe 184 169 = some (.iconst (3), 170) := by decide +kernel
theorem f_184_170 : x_fe 184 170 = some (.iadd, 171) := by decide +kernel
theorem f_184_171 : x_fe 184 171 = some (.iaload, 172) := by decide +kernel
theorem f_184_172 : x_fe 184 172 = some (.invokevirtual 43, 175) := by decide +kernel
theorem f_184_175 : x_fe 184 175 = some (.aload 2, 176) := by decide +kernel
theorem f_184_176 : x_fe 184 176 = some (.aload 0, 177) := by decide +kernel
theorem f_184_177 : x_fe 184 177 = some (.iload 3, 178) := by decide +kernel
theorem f_184_178 : x_fe 184 178 = some (.iconst (1), 179) := by decide +kernel
theorem f_184_179 : x_fe 184 179 = some (.iadd, 180) := by decide +kernel
theorem f_184_180 : x_fe 184 180 = some (.iaload, 181) := by decide +kernel
theorem f_184_181 : x_fe 184 181 = some (.aload 0, 182) := by decide +kernel
theorem f_184_182 : x_fe 184 182 = some (.iload 3, 183) := by decide +kernel
theorem f_184_183 : x_fe 184 183 = some (.iconst (2), 184) := by decide +kernel
theorem f_184_184 : x_fe 184 184 = some (.iadd, 185) := by decide +kernel
theorem f_184_185 : x_fe 184 185 = some (.iaload, 186) := by decide +kernel
theorem f_184_186 : x_fe 184 186 = some (.aload 0, 187) := by decide +kernel
theorem f_184_187 : x_fe 184 187 = some (.iload 3, 188) := by decide +kernel
theorem f_184_188 : x_fe 184 188 = some (.iconst (3), 189) := by decide +kernel
theorem f_184_189 : x_fe 184 189 = some (.iadd, 190) := by decide +kernel
theorem f_184_190 : x_fe 184 190 = some (.iaload, 191) := by decide +kernel
theorem f_184_191 : x_fe 184 191 = some (.invokevirtual 99, 194) := by decide +kernel
theorem f_184_194 : x_fe 184 194 = some (.if_icmp .eq (Int.ofNat 997), 197) := by decide +kernel
theorem f_184_197 : x_fe 184 197 = some (.iconst (0), 198) := by decide +kernel
theorem f_184_198 : x_fe 184 198 = some (.ireturn, 199) := by decide +kernel
theorem f_184_199 : x_fe 184 199 = some (.aload 1, 200) := by decide +kernel
theorem f_184_200 : x_fe 184 200 = some (.aload 0, 201) := by decide +kernel
theorem f_184_201 : x_fe 184 201 = some (.iload 3, 202) := by decide +kernel
theorem f_184_202 : x_fe 184 202 = some (.iconst (1), 203) := by decide +kernel
theorem f_184_203 : x_fe 184 203 = some (.iadd, 204) := by decide +kernel
theorem f_184_204 : x_fe 184 204 = some (.iaload, 205) := by decide +kernel
theorem f_184_205 : x_fe 184 205 = some (.aload 0, 206) := by decide +kernel
theorem f_184_206 : x_fe 184 206 = some (.iload 3, 207) := by decide +kernel
theorem f_184_207 : x_fe 184 207 = some (.iconst (2), 208) := by decide +kernel
theorem f_184_208 : x_fe 184 208 = some (.iadd, 209) := by decide +kernel
theorem f_184_209 : x_fe 184 209 = some (.iaload, 210) := by decide +kernel
theorem f_184_210 : x_fe 184 210 = some (.aload 0, 211) := by decide +kernel
theorem f_184_211 : x_fe 184 211 = some (.iload 3, 212) := by decide +kernel
theorem f_184_212 : x_fe 184 212 = some (.iconst (3), 213) := by decide +kernel
theorem f_184_213 : x_fe 184 213 = some (.iadd, 214) := by decide +kernel
theorem f_184_214 : x_fe 184 214 = some (.iaload, 215) := by decide +kernel
theorem f_184_215 : x_fe 184 215 = some (.invokevirtual 47, 218) := by decide +kernel
theorem f_184_218 : x_fe 184 218 = some (.aload 2, 219) := by decide +kernel
theorem f_184_219 : x_fe 184 219 = some (.aload 0, 220) := by decide +kernel
theorem f_184_220 : x_fe 184 220 = some (.iload 3, 221) := by decide +kernel
theorem f_184_221 : x_fe 184 221 = some (.iconst (1), 222) := by decide +kernel
theorem f_184_222 : x_fe 184 222 = some (.iadd, 223) := by decide +kernel
theorem f_184_223 : x_fe 184 223 = some (.iaload, 224) := by decide +kernel
theorem f_184_224 : x_fe 184 224 = some (.aload 0, 225) := by decide +kernel
theorem f_184_225 : x_fe 184 225 = some (.iload 3, 226) := by decide +kernel
theorem f_184_226 : x_fe 184 226 = some (.iconst (2), 227) := by decide +kernel
theorem f_184_227 : x_fe 184 227 = some (.iadd, 228) := by decide +kernel
theorem f_184_228 : x_fe 184 228 = some (.iaload, 229) := by decide +kernel
theorem f_184_229 : x_fe 184 229 = some (.aload 0, 230) := by decide +kernel
theorem f_184_230 : x_fe 184 230 = some (.iload 3, 231) := by decide +kernel
theorem f_184_231 : x_fe 184 231 = some (.iconst (3), 232) := by decide +kernel
theorem f_184_232 : x_fe 184 232 = some (.iadd, 233) := by decide +kernel
theorem f_184_233 : x_fe 184 233 = some (.iaload, 234) := by decide +kernel
theorem f_184_234 : x_fe 184 234 = some (.invokevirtual 104, 237) := by decide +kernel
theorem f_184_237 : x_fe 184 237 = some (.if_icmp .eq (Int.ofNat 997), 240) := by decide +kernel
theorem f_184_240 : x_fe 184 240 = some (.iconst (0), 241) := by decide +kernel
theorem f_184_241 : x_fe 184 241 = some (.ireturn, 242) := by decide +kernel
theorem f_184_242 : x_fe 184 242 = some (.aload 1, 243) := by decide +kernel
theorem f_184_243 : x_fe 184 243 = some (.aload 0, 244) := by decide +kernel
theorem f_184_244 : x_fe 184 244 = some (.iload 3, 245) := by decide +kernel
theorem f_184_245 : x_fe 184 245 = some (.iconst (1), 246) := by decide +kernel
theorem f_184_246 : x_fe 184 246 = some (.iadd, 247) := by decide +kernel
theorem f_184_247 : x_fe 184 247 = some (.iaload, 248) := by decide +kernel
theorem f_184_248 : x_fe 184 248 = some (.aload 0, 249) := by decide +kernel
theorem f_184_249 : x_fe 184 249 = some (.iload 3, 250) := by decide +kernel
theorem f_184_250 : x_fe 184 250 = some (.iconst (2), 251) := by decide +kernel
theorem f_184_251 : x_fe 184 251 = some (.iadd, 252) := by decide +kernel
theorem f_184_252 : x_fe 184 252 = some (.iaload, 253) := by decide +kernel
theorem f_184_253 : x_fe 184 253 = some (.aload 0, 254) := by decide +kernel
theorem f_184_254 : x_fe 184 254 = some (.iload 3, 255) := by decide +kernel
theorem f_184_255 : x_fe 184 255 = some (.iconst (3), 256) := by decide +kernel
theorem f_184_256 : x_fe 184 256 = some (.iadd, 257) := by decide +kernel
theorem f_184_257 : x_fe 184 257 = some (.iaload, 258) := by decide +kernel
theorem f_184_258 : x_fe 184 258 = some (.aload 0, 259) := by decide +kernel
theorem f_184_259 : x_fe 184 259 = some (.iload 3, 260) := by decide +kernel
theorem f_184_260 : x_fe 184 260 = some (.iconst (4), 261) := by decide +kernel
theorem f_184_261 : x_fe 184 261 = some (.iadd, 262) := by decide +kernel
theorem f_184_262 : x_fe 184 262 = some (.iaload, 263) := by decide +kernel
theorem f_184_263 : x_fe 184 263 = some (.aload 0, 264) := by decide +kernel
theorem f_184_264 : x_fe 184 264 = some (.iload 3, 265) := by decide +kernel
theorem f_184_265 : x_fe 184 265 = some (.iconst (5), 266) := by decide +kernel
theorem f_184_266 : x_fe 184 266 = some (.iadd, 267) := by decide +kernel
theorem f_184_267 : x_fe 184 267 = some (.iaload, 268) := by decide +kernel
theorem f_184_268 : x_fe 184 268 = some (.invokevirtual 48, 271) := by decide +kernel
theorem f_184_271 : x_fe 184 271 = some (.aload 2, 272) := by decide +kernel
theorem f_184_272 : x_fe 184 272 = some (.aload 0, 273) := by decide +kernel
theorem f_184_273 : x_fe 184 273 = some (.iload 3, 274) := by decide +kernel
theorem f_184_274 : x_fe 184 274 = some (.iconst (1), 275) := by decide +kernel
theorem f_184_275 : x_fe 184 275 = some (.iadd, 276) := by decide +kernel
theorem f_184_276 : x_fe 184 276 = some (.iaload, 277) := by decide +kernel
theorem f_184_277 : x_fe 184 277 = some (.aload 0, 278) := by decide +kernel
theorem f_184_278 : x_fe 184 278 = some (.iload 3, 279) := by decide +kernel
theorem f_184_279 : x_fe 184 279 = some (.iconst (2), 280) := by decide +kernel
theorem f_184_280 : x_fe 184 280 = some (.iadd, 281) := by decide +kernel
theorem f_184_281 : x_fe 184 281 = some (.iaload, 282) := by decide +kernel
theorem f_184_282 : x_fe 184 282 = some (.aload 0, 283) := by decide +kernel
theorem f_184_283 : x_fe 184 283 = some (.iload 3, 284) := by decide +kernel
theorem f_184_284 : x_fe 184 284 = some (.iconst (3), 285) := by decide +kernel
theorem f_184_285 : x_fe 184 285 = some (.iadd, 286) := by decide +kernel
theorem f_184_286 : x_fe 184 286 = some (.iaload, 287) := by decide +kernel
theorem f_184_287 : x_fe 184 287 = some (.aload 0, 288) := by decide +kernel
theorem f_184_288 : x_fe 184 288 = some (.iload 3, 289) := by decide +kernel
theorem f_184_289 : x_fe 184 289 = some (.iconst (4), 290) := by decide +kernel
theorem f_184_290 : x_fe 184 290 = some (.iadd, 291) := by decide +kernel
theorem f_184_291 : x_fe 184 291 = some (.iaload, 292) := by decide +kernel
theorem f_184_292 : x_fe 184 292 = some (.aload 0, 293) := by decide +kernel
theorem f_184_293 : x_fe 184 293 = some (.iload 3, 294) := by decide +kernel
theorem f_184_294 : x_fe 184 294 = some (.iconst (5), 295) := by decide +kernel
theorem f_184_295 : x_fe 184 295 = some (.iadd, 296) := by decide +kernel
theorem f_184_296 : x_fe 184 296 = some (.iaload, 297) := by decide +kernel
theorem f_184_297 : x_fe 184 297 = some (.invokevirtual 105, 300) := by decide +kernel
theorem f_184_300 : x_fe 184 300 = some (.if_icmp .eq (Int.ofNat 997), 303) := by decide +kernel
theorem f_184_303 : x_fe 184 303 = some (.iconst (0), 304) := by decide +kernel
theorem f_184_304 : x_fe 184 304 = some (.ireturn, 305) := by decide +kernel
theorem f_184_305 : x_fe 184 305 = some (.aload 1, 306) := by decide +kernel
theorem f_184_306 : x_fe 184 306 = some (.aload 0, 307) := by decide +kernel
theorem f_184_307 : x_fe 184 307 = some (.iload 3, 308) := by decide +kernel
theorem f_184_308 : x_fe 184 308 = some (.iconst (1), 309) := by decide +kernel
theorem f_184_309 : x_fe 184 309 = some (.iadd, 310) := by decide +kernel
theorem f_184_310 : x_fe 184 310 = some (.iaload, 311) := by decide +kernel
theorem f_184_311 : x_fe 184 311 = some (.invokevirtual 49, 314) := by decide +kernel
theorem f_184_314 : x_fe 184 314 = some (.aload 2, 315) := by decide +kernel
theorem f_184_315 : x_fe 184 315 = some (.aload 0, 316) := by decide +kernel
theorem f_184_316 : x_fe 184 316 = some (.iload 3, 317) := by decide +kernel
theorem f_184_317 : x_fe 184 317 = some (.iconst (1), 318) := by decide +kernel
theorem f_184_318 : x_fe 184 318 = some (.iadd, 319) := by decide +kernel
theorem f_184_319 : x_fe 184 319 = some (.iaload, 320) := by decide +kernel
theorem f_184_320 : x_fe 184 320 = some (.invokevirtual 107, 323) := by decide +kernel
theorem f_184_323 : x_fe 184 323 = some (.if_icmp .eq (Int.ofNat 997), 326) := by decide +kernel
theorem f_184_326 : x_fe 184 326 = some (.iconst (0), 327) := by decide +kernel
theorem f_184_327 : x_fe 184 327 = some (.ireturn, 328) := by decide +kernel
theorem f_184_328 : x_fe 184 328 = some (.aload 1, 329) := by decide +kernel
theorem f_184_329 : x_fe 184 329 = some (.aload 0, 330) := by decide +kernel
theorem f_184_330 : x_fe 184 330 = some (.iload 3, 331) := by decide +kernel
theorem f_184_331 : x_fe 184 331 = some (.iconst (1), 332) := by decide +kernel
theorem f_184_332 : x_fe 184 332 = some (.iadd, 333) := by decide +kernel
theorem f_184_333 : x_fe 184 333 = some (.iaload, 334) := by decide +kernel
theorem f_184_334 : x_fe 184 334 = some (.i2l, 335) := by decide +kernel
theorem f_184_335 : x_fe 184 335 = some (.iconst (32), 337) := by decide +kernel
theorem f_184_337 : x_fe 184 337 = some (.lshl, 338) := by decide +kernel
theorem f_184_338 : x_fe 184 338 = some (.aload 0, 339) := by decide +kernel
theorem f_184_339 : x_fe 184 339 = some (.iload 3, 340) := by decide +kernel
theorem f_184_340 : x_fe 184 340 = some (.iconst (2), 341) := by decide +kernel
theorem f_184_341 : x_fe 184 341 = some (.iadd, 342) := by decide +kernel
theorem f_184_342 : x_fe 184 342 = some (.iaload, 343) := by decide +kernel
theorem f_184_343 : x_fe 184 343 = some (.i2l, 344) := by decide +kernel
theorem f_184_344 : x_fe 184 344 = some (.ldc2_w 4294967295, 347) := by decide +kernel
theorem f_184_347 : x_fe 184 347 = some (.land, 348) := by decide +kernel
theorem f_184_348 : x_fe 184 348 = some (.lor, 349) := by decide +kernel
theorem f_184_349 : x_fe 184 349 = some (.aload 0, 350) := by decide +kernel
theorem f_184_350 : x_fe 184 350 = some (.iload 3, 351) := by decide +kernel
theorem f_184_351 : x_fe 184 351 = some (.iconst (3), 352) := by decide +kernel
theorem f_184_352 : x_fe 184 352 = some (.iadd, 353) := by decide +kernel
theorem f_184_353 : x_fe 184 353 = some (.iaload, 354) := by decide +kernel
theorem f_184_354 : x_fe 184 354 = some (.invokevirtual 50, 357) := by decide +kernel
theorem f_184_357 : x_fe 184 357 = some (.aload 2, 358) := by decide +kernel
theorem f_184_358 : x_fe 184 358 = some (.aload 0, 359) := by decide +kernel
theorem f_184_359 : x_fe 184 359 = some (.iload 3, 360) := by decide +kernel
theorem f_184_360 : x_fe 184 360 = some (.iconst (1), 361) := by decide +kernel
theorem f_184_361 : x_fe 184 361 = some (.iadd, 362) := by decide +kernel
theorem f_184_362 : x_fe 184 362 = some (.iaload, 363) := by decide +kernel
theorem f_184_363 : x_fe 184 363 = some (.i2l, 364) := by decide +kernel
theorem f_184_364 : x_fe 184 364 = some (.iconst (32), 366) := by decide +kernel
theorem f_184_366 : x_fe 184 366 = some (.lshl, 367) := by decide +kernel
theorem f_184_367 : x_fe 184 367 = some (.aload 0, 368) := by decide +kernel
theorem f_184_368 : x_fe 184 368 = some (.iload 3, 369) := by decide +kernel
theorem f_184_369 : x_fe 184 369 = some (.iconst (2), 370) := by decide +kernel
theorem f_184_370 : x_fe 184 370 = some (.iadd, 371) := by decide +kernel
theorem f_184_371 : x_fe 184 371 = some (.iaload, 372) := by decide +kernel
theorem f_184_372 : x_fe 184 372 = some (.i2l, 373) := by decide +kernel
theorem f_184_373 : x_fe 184 373 = some (.ldc2_w 4294967295, 376) := by decide +kernel
theorem f_184_376 : x_fe 184 376 = some (.land, 377) := by decide +kernel
theorem f_184_377 : x_fe 184 377 = some (.lor, 378) := by decide +kernel
theorem f_184_378 : x_fe 184 378 = some (.aload 0, 379) := by decide +kernel
theorem f_184_379 : x_fe 184 379 = some (.iload 3, 380) := by decide +kernel
theorem f_184_380 : x_fe 184 380 = some (.iconst (3), 381) := by decide +kernel
theorem f_184_381 : x_fe 184 381 = some (.iadd, 382) := by decide +kernel
theorem f_184_382 : x_fe 184 382 = some (.iaload, 383) := by decide +kernel
theorem f_184_383 : x_fe 184 383 = some (.invokevirtual 108, 386) := by decide +kernel
theorem f_184_386 : x_fe 184 386 = some (.if_icmp .eq (Int.ofNat 997), 389) := by decide +kernel
theorem f_184_389 : x_fe 184 389 = some (.iconst (0), 390) := by decide +kernel
theorem f_184_390 : x_fe 184 390 = some (.ireturn, 391) := by decide +kernel
theorem f_184_391 : x_fe 184 391 = some (.aload 1, 392) := by decide +kernel
theorem f_184_392 : x_fe 184 392 = some (.invokevirtual 51, 395) := by decide +kernel
theorem f_184_395 : x_fe 184 395 = some (.aload 2, 396) := by decide +kernel
theorem f_184_396 : x_fe 184 396 = some (.invokevirtual 109, 399) := by decide +kernel
theorem f_184_399 : x_fe 184 399 = some (.if_icmp .eq (Int.ofNat 997), 402) := by decide +kernel
theorem f_184_402 : x_fe 184 402 = some (.iconst (0), 403) := by decide +kernel
theorem f_184_403 : x_fe 184 403 = some (.ireturn, 404) := by decide +kernel
theorem f_184_404 : x_fe 184 404 = some (.aload 1, 405) := by decide +kernel
theorem f_184_405 : x_fe 184 405 = some (.invokevirtual 57, 408) := by decide +kernel
theorem f_184_408 : x_fe 184 408 = some (.aload 2, 409) := by decide +kernel
theorem f_184_409 : x_fe 184 409 = some (.invokevirtual 123, 412) := by decide +kernel
theorem f_184_412 : x_fe 184 412 = some (.if_icmp .eq (Int.ofNat 997), 415) := by decide +kernel
theorem f_184_415 : x_fe 184 415 = some (.iconst (0), 416) := by decide +kernel
theorem f_184_416 : x_fe 184 416 = some (.ireturn, 417) := by decide +kernel
theorem f_184_417 : x_fe 184 417 = some (.aload 1, 418) := by decide +kernel
theorem f_184_418 : x_fe 184 418 = some (.aload 0, 419) := by decide +kernel
theorem f_184_419 : x_fe 184 419 = some (.iload 3, 420) := by decide +kernel
theorem f_184_420 : x_fe 184 420 = some (.iconst (1), 421) := by decide +kernel
theorem f_184_421 : x_fe 184 421 = some (.iadd, 422) := by decide +kernel
theorem f_184_422 : x_fe 184 422 = some (.iaload, 423) := by decide +kernel
theorem f_184_423 : x_fe 184 423 = some (.aload 0, 424) := by decide +kernel
theorem f_184_424 : x_fe 184 424 = some (.iload 3, 425) := by decide +kernel
theorem f_184_425 : x_fe 184 425 = some (.iconst (2), 426) := by decide +kernel
theorem f_184_426 : x_fe 184 426 = some (.iadd, 427) := by decide +kernel
theorem f_184_427 : x_fe 184 427 = some (.iaload, 428) := by decide +kernel
theorem f_184_428 : x_fe 184 428 = some (.invokevirtual 58, 431) := by decide +kernel
theorem f_184_431 : x_fe 184 431 = some (.aload 2, 432) := by decide +kernel
theorem f_184_432 : x_fe 184 432 = some (.aload 0, 433) := by decide +kernel
theorem f_184_433 : x_fe 184 433 = some (.iload 3, 434) := by decide +kernel
theorem f_184_434 : x_fe 184 434 = some (.iconst (1), 435) := by decide +kernel
theorem f_184_435 : x_fe 184 435 = some (.iadd, 436) := by decide +kernel
theorem f_184_436 : x_fe 184 436 = some (.iaload, 437) := by decide +kernel
theorem f_184_437 : x_fe 184 437 = some (.aload 0, 438) := by decide +kernel
theorem f_184_438 : x_fe 184 438 = some (.iload 3, 439) := by decide +kernel
theorem f_184_439 : x_fe 184 439 = some (.iconst (2), 440) := by decide +kernel
theorem f_184_440 : x_fe 184 440 = some (.iadd, 441) := by decide +kernel
theorem f_184_441 : x_fe 184 441 = some (.iaload, 442) := by decide +kernel
theorem f_184_442 : x_fe 184 442 = some (.invokevirtual 124, 445) := by decide +kernel
theorem f_184_445 : x_fe 184 445 = some (.if_icmp .eq (Int.ofNat 997), 448) := by decide +kernel
theorem f_184_448 : x_fe 184 448 = some (.iconst (0), 449) := by decide +kernel
theorem f_184_449 : x_fe 184 449 = some (.ireturn, 450) := by decide +kernel
theorem f_184_450 : x_fe 184 450 = some (.aload 1, 451) := by decide +kernel
theorem f_184_451 : x_fe 184 451 = some (.aload 0, 452) := by decide +kernel
theorem f_184_452 : x_fe 184 452 = some (.iload 3, 453) := by decide +kernel
theorem f_184_453 : x_fe 184 453 = some (.iconst (1), 454) := by decide +kernel
theorem f_184_454 : x_fe 184 454 = some (.iadd, 455) := by decide +kernel
theorem f_184_455 : x_fe 184 455 = some (.iaload, 456) := by decide +kernel
theorem f_184_456 : x_fe 184 456 = some (.invokevirtual 61, 459) := by decide +kernel
theorem f_184_459 : x_fe 184 459 = some (.aload 2, 460) := by decide +kernel
theorem f_184_460 : x_fe 184 460 = some (.aload 0, 461) := by decide +kernel
theorem f_184_461 : x_fe 184 461 = some (.iload 3, 462) := by decide +kernel
theorem f_184_462 : x_fe 184 462 = some (.iconst (1), 463) := by decide +kernel
theorem f_184_463 : x_fe 184 463 = some (.iadd, 464) := by decide +kernel
theorem f_184_464 : x_fe 184 464 = some (.iaload, 465) := by decide +kernel
theorem f_184_465 : x_fe 184 465 = some (.invokevirtual 127, 468) := by decide +kernel
theorem f_184_468 : x_fe 184 468 = some (.if_icmp .eq (Int.ofNat 997), 471) := by decide +kernel
theorem f_184_471 : x_fe 184 471 = some (.iconst (0), 472) := by decide +kernel
theorem f_184_472 : x_fe 184 472 = some (.ireturn, 473) := by decide +kernel
theorem f_184_473 : x_fe 184 473 = some (.aload 1, 474) := by decide +kernel
theorem f_184_474 : x_fe 184 474 = some (.aload 0, 475) := by decide +kernel
theorem f_184_475 : x_fe 184 475 = some (.iload 3, 476) := by decide +kernel
theorem f_184_476 : x_fe 184 476 = some (.iconst (1), 477) := by decide +kernel
theorem f_184_477 : x_fe 184 477 = some (.iadd, 478) := by decide +kernel
theorem f_184_478 : x_fe 184 478 = some (.iaload, 479) := by decide +kernel
theorem f_184_479 : x_fe 184 479 = some (.aload 0, 480) := by decide +kernel
theorem f_184_480 : x_fe 184 480 = some (.iload 3, 481) := by decide +kernel
theorem f_184_481 : x_fe 184 481 = some (.iconst (2), 482) := by decide +kernel
theorem f_184_482 : x_fe 184 482 = some (.iadd, 483) := by decide +kernel
theorem f_184_483 : x_fe 184 483 = some (.iaload, 484) := by decide +kernel
theorem f_184_484 : x_fe 184 484 = some (.invokevirtual 63, 487) := by decide +kernel
theorem f_184_487 : x_fe 184 487 = some (.aload 2, 488) := by decide +kernel
theorem f_184_488 : x_fe 184 488 = some (.aload 0, 489) := by decide +kernel
theorem f_184_489 : x_fe 184 489 = some (.iload 3, 490) := by decide +kernel
theorem f_184_490 : x_fe 184 490 = some (.iconst (1), 491) := by decide +kernel
theorem f_184_491 : x_fe 184 491 = some (.iadd, 492) := by decide +kernel
theorem f_184_492 : x_fe 184 492 = some (.iaload, 493) := by decide +kernel
theorem f_184_493 : x_fe 184 493 = some (.aload 0, 494) := by decide +kernel
theorem f_184_494 : x_fe 184 494 = some (.iload 3, 495) := by decide +kernel
theorem f_184_495 : x_fe 184 495 = some (.iconst (2), 496) := by decide +kernel
theorem f_184_496 : x_fe 184 496 = some (.iadd, 497) := by decide +kernel
theorem f_184_497 : x_fe 184 497 = some (.iaload, 498) := by decide +kernel
theorem f_184_498 : x_fe 184 498 = some (.invokevirtual 130, 501) := by decide +kernel
theorem f_184_501 : x_fe 184 501 = some (.if_icmp .eq (Int.ofNat 997), 504) := by decide +kernel
theorem f_184_504 : x_fe 184 504 = some (.iconst (0), 505) := by decide +kernel
theorem f_184_505 : x_fe 184 505 = some (.ireturn, 506) := by decide +kernel
theorem f_184_506 : x_fe 184 506 = some (.aload 1, 507) := by decide +kernel
theorem f_184_507 : x_fe 184 507 = some (.aload 0, 508) := by decide +kernel
theorem f_184_508 : x_fe 184 508 = some (.iload 3, 509) := by decide +kernel
theorem f_184_509 : x_fe 184 509 = some (.iconst (1), 510) := by decide +kernel
theorem f_184_510 : x_fe 184 510 = some (.iadd, 511) := by decide +kernel
theorem f_184_511 : x_fe 184 511 = some (.iaload, 512) := by decide +kernel
theorem f_184_512 : x_fe 184 512 = some (.aload 0, 513) := by decide +kernel
theorem f_184_513 : x_fe 184 513 = some (.iload 3, 514) := by decide +kernel
theorem f_184_514 : x_fe 184 514 = some (.iconst (2), 515) := by decide +kernel
theorem f_184_515 : x_fe 184 515 = some (.iadd, 516) := by decide +kernel
theorem f_184_516 : x_fe 184 516 = some (.iaload, 517) := by decide +kernel
theorem f_184_517 : x_fe 184 517 = some (.aload 0, 518) := by decide +kernel
theorem f_184_518 : x_fe 184 518 = some (.iload 3, 519) := by decide +kernel
theorem f_184_519 : x_fe 184 519 = some (.iconst (3), 520) := by decide +kernel
theorem f_184_520 : x_fe 184 520 = some (.iadd, 521) := by decide +kernel
theorem f_184_521 : x_fe 184 521 = some (.iaload, 522) := by decide +kernel
theorem f_184_522 : x_fe 184 522 = some (.invokevirtual 64, 525) := by decide +kernel
theorem f_184_525 : x_fe 184 525 = some (.aload 2, 526) := by decide +kernel
theorem f_184_526 : x_fe 184 526 = some (.aload 0, 527) := by decide +kernel
theorem f_184_527 : x_fe 184 527 = some (.iload 3, 528) := by decide +kernel
theorem f_184_528 : x_fe 184 528 = some (.iconst (1), 529) := by decide +kernel
theorem f_184_529 : x_fe 184 529 = some (.iadd, 530) := by decide +kernel
theorem f_184_530 : x_fe 184 530 = some (.iaload, 531) := by decide +kernel
theorem f_184_531 : x_fe 184 531 = some (.aload 0, 532) := by decide +kernel
theorem f_184_532 : x_fe 184 532 = some (.iload 3, 533) := by decide +kernel
theorem f_184_533 : x_fe 184 533 = some (.iconst (2), 534) := by decide +kernel
theorem f_184_534 : x_fe 184 534 = some (.iadd, 535) := by decide +kernel
theorem f_184_535 : x_fe 184 535 = some (.iaload, 536) := by decide +kernel
theorem f_184_536 : x_fe 184 536 = some (.aload 0, 537) := by decide +kernel
theorem f_184_537 : x_fe 184 537 = some (.iload 3, 538) := by decide +kernel
theorem f_184_538 : x_fe 184 538 = some (.iconst (3), 539) := by decide +kernel
theorem f_184_539 : x_fe 184 539 = some (.iadd, 540) := by decide +kernel
theorem f_184_540 : x_fe 184 540 = some (.iaload, 541) := by decide +kernel
theorem f_184_541 : x_fe 184 541 = some (.invokevirtual 133, 544) := by decide +kernel
theorem f_184_544 : x_fe 184 544 = some (.if_icmp .eq (Int.ofNat 997), 547) := by decide +kernel
theorem f_184_547 : x_fe 184 547 = some (.iconst (0), 548) := by decide +kernel
theorem f_184_548 : x_fe 184 548 = some (.ireturn, 549) := by decide +kernel
theorem f_184_549 : x_fe 184 549 = some (.aload 1, 550) := by decide +kernel
theorem f_184_550 : x_fe 184 550 = some (.aload 0, 551) := by decide +kernel
theorem f_184_551 : x_fe 184 551 = some (.iload 3, 552) := by decide +kernel
theorem f_184_552 : x_fe 184 552 = some (.iconst (1), 553) := by decide +kernel
theorem f_184_553 : x_fe 184 553 = some (.iadd, 554) := by decide +kernel
theorem f_184_554 : x_fe 184 554 = some (.iaload, 555) := by decide +kernel
theorem f_184_555 : x_fe 184 555 = some (.aload 0, 556) := by decide +kernel
theorem f_184_556 : x_fe 184 556 = some (.iload 3, 557) := by decide +kernel
theorem f_184_557 : x_fe 184 557 = some (.iconst (2), 558) := by decide +kernel
theorem f_184_558 : x_fe 184 558 = some (.iadd, 559) := by decide +kernel
theorem f_184_559 : x_fe 184 559 = some (.iaload, 560) := by decide +kernel
theorem f_184_560 : x_fe 184 560 = some (.invokevirtual 67, 563) := by decide +kernel
theorem f_184_563 : x_fe 184 563 = some (.aload 2, 564) := by decide +kernel
theorem f_184_564 : x_fe 184 564 = some (.aload 0, 565) := by decide +kernel
theorem f_184_565 : x_fe 184 565 = some (.iload 3, 566) := by decide +kernel
theorem f_184_566 : x_fe 184 566 = some (.iconst (1), 567) := by decide +kernel
theorem f_184_567 : x_fe 184 567 = some (.iadd, 568) := by decide +kernel
theorem f_184_568 : x_fe 184 568 = some (.iaload, 569) := by decide +kernel
theorem f_184_569 : x_fe 184 569 = some (.aload 0, 570) := by decide +kernel
theorem f_184_570 : x_fe 184 570 = some (.iload 3, 571) := by decide +kernel
theorem f_184_571 : x_fe 184 571 = some (.iconst (2), 572) := by decide +kernel
theorem f_184_572 : x_fe 184 572 = some (.iadd, 573) := by decide +kernel
theorem f_184_573 : x_fe 184 573 = some (.iaload, 574) := by decide +kernel
theorem f_184_574 : x_fe 184 574 = some (.invokevirtual 135, 577) := by decide +kernel
theorem f_184_577 : x_fe 184 577 = some (.if_icmp .eq (Int.ofNat 997), 580) := by decide +kernel
theorem f_184_580 : x_fe 184 580 = some (.iconst (0), 581) := by decide +kernel
theorem f_184_581 : x_fe 184 581 = some (.ireturn, 582) := by decide +kernel
theorem f_184_582 : x_fe 184 582 = some (.aload 1, 583) := by decide +kernel
theorem f_184_583 : x_fe 184 583 = some (.aload 0, 584) := by decide +kernel
theorem f_184_584 : x_fe 184 584 = some (.iload 3, 585) := by decide +kernel
theorem f_184_585 : x_fe 184 585 = some (.iconst (1), 586) := by decide +kernel
theorem f_184_586 : x_fe 184 586 = some (.iadd, 587) := by decide +kernel
theorem f_184_587 : x_fe 184 587 = some (.iaload, 588) := by decide +kernel
theorem f_184_588 : x_fe 184 588 = some (.invokevirtual 70, 591) := by decide +kernel
theorem f_184_591 : x_fe 184 591 = some (.aload 2, 592) := by decide +kernel
theorem f_184_592 : x_fe 184 592 = some (.aload 0, 593) := by decide +kernel
theorem f_184_593 : x_fe 184 593 = some (.iload 3, 594) := by decide +kernel
theorem f_184_594 : x_fe 184 594 = some (.iconst (1), 595) := by decide +kernel
theorem f_184_595 : x_fe 184 595 = some (.iadd, 596) := by decide +kernel
theorem f_184_596 : x_fe 184 596 = some (.iaload, 597) := by decide +kernel
theorem f_184_597 : x_fe 184 597 = some (.invokevirtual 137, 600) := by decide +kernel
theorem f_184_600 : x_fe 184 600 = some (.if_icmp .eq (Int.ofNat 997), 603) := by decide +kernel
theorem f_184_603 : x_fe 184 603 = some (.iconst (0), 604) := by decide +kernel
theorem f_184_604 : x_fe 184 604 = some (.ireturn, 605) := by decide +kernel
theorem f_184_605 : x_fe 184 605 = some (.aload 1, 606) := by decide +kernel
theorem f_184_606 : x_fe 184 606 = some (.aload 0, 607) := by decide +kernel
theorem f_184_607 : x_fe 184 607 = some (.iload 3, 608) := by decide +kernel
theorem f_184_608 : x_fe 184 608 = some (.iconst (1), 609) := by decide +kernel
theorem f_184_609 : x_fe 184 609 = some (.iadd, 610) := by decide +kernel
theorem f_184_610 : x_fe 184 610 = some (.iaload, 611) := by decide +kernel
theorem f_184_611 : x_fe 184 611 = some (.invokevirtual 71, 614) := by decide +kernel
theorem f_184_614 : x_fe 184 614 = some (.aload 2, 615) := by decide +kernel
theorem f_184_615 : x_fe 184 615 = some (.aload 0, 616) := by decide +kernel
theorem f_184_616 : x_fe 184 616 = some (.iload 3, 617) := by decide +kernel
theorem f_184_617 : x_fe 184 617 = some (.iconst (1), 618) := by decide +kernel
theorem f_184_618 : x_fe 184 618 = some (.iadd, 619) := by decide +kernel
theorem f_184_619 : x_fe 184 619 = some (.iaload, 620) := by decide +kernel
theorem f_184_620 : x_fe 184 620 = some (.invokevirtual 139, 623) := by decide +kernel
theorem f_184_623 : x_fe 184 623 = some (.if_icmp .eq (Int.ofNat 997), 626) := by decide +kernel
theorem f_184_626 : x_fe 184 626 = some (.iconst (0), 627) := by decide +kernel
theorem f_184_627 : x_fe 184 627 = some (.ireturn, 628) := by decide +kernel
theorem f_184_628 : x_fe 184 628 = some (.aload 1, 629) := by decide +kernel
theorem f_184_629 : x_fe 184 629 = some (.aload 0, 630) := by decide +kernel
theorem f_184_630 : x_fe 184 630 = some (.iload 3, 631) := by decide +kernel
theorem f_184_631 : x_fe 184 631 = some (.iconst (1), 632) := by decide +kernel
theorem f_184_632 : x_fe 184 632 = some (.iadd, 633) := by decide +kernel
theorem f_184_633 : x_fe 184 633 = some (.iaload, 634) := by decide +kernel
theorem f_184_634 : x_fe 184 634 = some (.aload 0, 635) := by decide +kernel
theorem f_184_635 : x_fe 184 635 = some (.iload 3, 636) := by decide +kernel
theorem f_184_636 : x_fe 184 636 = some (.iconst (2), 637) := by decide +kernel
theorem f_184_637 : x_fe 184 637 = some (.iadd, 638) := by decide +kernel
theorem f_184_638 : x_fe 184 638 = some (.iaload, 639) := by decide +kernel
theorem f_184_639 : x_fe 184 639 = some (.aload 0, 640) := by decide +kernel
theorem f_184_640 : x_fe 184 640 = some (.iload 3, 641) := by decide +kernel
theorem f_184_641 : x_fe 184 641 = some (.iconst (3), 642) := by decide +kernel
theorem f_184_642 : x_fe 184 642 = some (.iadd, 643) := by decide +kernel
theorem f_184_643 : x_fe 184 643 = some (.iaload, 644) := by decide +kernel
theorem f_184_644 : x_fe 184 644 = some (.invokevirtual 73, 647) := by decide +kernel
theorem f_184_647 : x_fe 184 647 = some (.aload 2, 648) := by decide +kernel
theorem f_184_648 : x_fe 184 648 = some (.aload 0, 649) := by decide +kernel
theorem f_184_649 : x_fe 184 649 = some (.iload 3, 650) := by decide +kernel
theorem f_184_650 : x_fe 184 650 = some (.iconst (1), 651) := by decide +kernel
theorem f_184_651 : x_fe 184 651 = some (.iadd, 652) := by decide +kernel
theorem f_184_652 : x_fe 184 652 = some (.iaload, 653) := by decide +kernel
theorem f_184_653 : x_fe 184 653 = some (.aload 0, 654) := by decide +kernel
theorem f_184_654 : x_fe 184 654 = some (.iload 3, 655) := by decide +kernel
theorem f_184_655 : x_fe 184 655 = some (.iconst (2), 656) := by decide +kernel
theorem f_184_656 : x_fe 184 656 = some (.iadd, 657) := by decide +kernel
theorem f_184_657 : x_fe 184 657 = some (.iaload, 658) := by decide +kernel
theorem f_184_658 : x_fe 184 658 = some (.aload 0, 659) := by decide +kernel
theorem f_184_659 : x_fe 184 659 = some (.iload 3, 660) := by decide +kernel
theorem f_184_660 : x_fe 184 660 = some (.iconst (3), 661) := by decide +kernel
theorem f_184_661 : x_fe 184 661 = some (.iadd, 662) := by decide +kernel
theorem f_184_662 : x_fe 184 662 = some (.iaload, 663) := by decide +kernel
theorem f_184_663 : x_fe 184 663 = some (.invokevirtual 143, 666) := by decide +kernel
theorem f_184_666 : x_fe 184 666 = some (.if_icmp .eq (Int.ofNat 997), 669) := by decide +kernel
theorem f_184_669 : x_fe 184 669 = some (.iconst (0), 670) := by decide +kernel
theorem f_184_670 : x_fe 184 670 = some (.ireturn, 671) := by decide +kernel
theorem f_184_671 : x_fe 184 671 = some (.aload 1, 672) := by decide +kernel
theorem f_184_672 : x_fe 184 672 = some (.aload 0, 673) := by decide +kernel
theorem f_184_673 : x_fe 184 673 = some (.iload 3, 674) := by decide +kernel
theorem f_184_674 : x_fe 184 674 = some (.iconst (1), 675) := by decide +kernel
theorem f_184_675 : x_fe 184 675 = some (.iadd, 676) := by decide +kernel
theorem f_184_676 : x_fe 184 676 = some (.iaload, 677) := by decide +kernel
theorem f_184_677 : x_fe 184 677 = some (.aload 0, 678) := by decide +kernel
theorem f_184_678 : x_fe 184 678 = some (.iload 3, 679) := by decide +kernel
theorem f_184_679 : x_fe 184 679 = some (.iconst (2), 680) := by decide +kernel
theorem f_184_680 : x_fe 184 680 = some (.iadd, 681) := by decide +kernel
theorem f_184_681 : x_fe 184 681 = some (.iaload, 682) := by decide +kernel
theorem f_184_682 : x_fe 184 682 = some (.invokevirtual 76, 685) := by decide +kernel
theorem f_184_685 : x_fe 184 685 = some (.aload 2, 686) := by decide +kernel
theorem f_184_686 : x_fe 184 686 = some (.aload 0, 687) := by decide +kernel
theorem f_184_687 : x_fe 184 687 = some (.iload 3, 688) := by decide +kernel
theorem f_184_688 : x_fe 184 688 = some (.iconst (1), 689) := by decide +kernel
theorem f_184_689 : x_fe 184 689 = some (.iadd, 690) := by decide +kernel
theorem f_184_690 : x_fe 184 690 = some (.iaload, 691) := by decide +kernel
theorem f_184_691 : x_fe 184 691 = some (.aload 0, 692) := by decide +kernel
theorem f_184_692 : x_fe 184 692 = some (.iload 3, 693) := by decide +kernel
theorem f_184_693 : x_fe 184 693 = some (.iconst (2), 694) := by decide +kernel
theorem f_184_694 : x_fe 184 694 = some (.iadd, 695) := by decide +kernel
theorem f_184_695 : x_fe 184 695 = some (.iaload, 696) := by decide +kernel
theorem f_184_696 : x_fe 184 696 = some (.invokevirtual 145, 699) := by decide +kernel
theorem f_184_699 : x_fe 184 699 = some (.if_icmp .eq (Int.ofNat 997), 702) := by decide +kernel
theorem f_184_702 : x_fe 184 702 = some (.iconst (0), 703) := by decide +kernel
theorem f_184_703 : x_fe 184 703 = some (.ireturn, 704) := by decide +kernel
theorem f_184_704 : x_fe 184 704 = some (.aload 1, 705) := by decide +kernel
theorem f_184_705 : x_fe 184 705 = some (.aload 0, 706) := by decide +kernel
theorem f_184_706 : x_fe 184 706 = some (.iload 3, 707) := by decide +kernel
theorem f_184_707 : x_fe 184 707 = some (.iconst (1), 708) := by decide +kernel
theorem f_184_708 : x_fe 184 708 = some (.iadd, 709) := by decide +kernel
theorem f_184_709 : x_fe 184 709 = some (.iaload, 710) := by decide +kernel
theorem f_184_710 : x_fe 184 710 = some (.invokevirtual 78, 713) := by decide +kernel
theorem f_184_713 : x_fe 184 713 = some (.aload 2, 714) := by decide +kernel
theorem f_184_714 : x_fe 184 714 = some (.aload 0, 715) := by decide +kernel
theorem f_184_715 : x_fe 184 715 = some (.iload 3, 716) := by decide +kernel
theorem f_184_716 : x_fe 184 716 = some (.iconst (1), 717) := by decide +kernel
theorem f_184_717 : x_fe 184 717 = some (.iadd, 718) := by decide +kernel
theorem f_184_718 : x_fe 184 718 = some (.iaload, 719) := by decide +kernel
theorem f_184_719 : x_fe 184 719 = some (.invokevirtual 148, 722) := by decide +kernel
theorem f_184_722 : x_fe 184 722 = some (.if_icmp .eq (Int.ofNat 997), 725) := by decide +kernel
theorem f_184_725 : x_fe 184 725 = some (.iconst (0), 726) := by decide +kernel
theorem f_184_726 : x_fe 184 726 = some (.ireturn, 727) := by decide +kernel
theorem f_184_727 : x_fe 184 727 = some (.aload 1, 728) := by decide +kernel
theorem f_184_728 : x_fe 184 728 = some (.aload 0, 729) := by decide +kernel
theorem f_184_729 : x_fe 184 729 = some (.iload 3, 730) := by decide +kernel
theorem f_184_730 : x_fe 184 730 = some (.iconst (1), 731) := by decide +kernel
theorem f_184_731 : x_fe 184 731 = some (.iadd, 732) := by decide +kernel
theorem f_184_732 : x_fe 184 732 = some (.iaload, 733) := by decide +kernel
theorem f_184_733 : x_fe 184 733 = some (.aload 0, 734) := by decide +kernel
theorem f_184_734 : x_fe 184 734 = some (.iload 3, 735) := by decide +kernel
theorem f_184_735 : x_fe 184 735 = some (.iconst (2), 736) := by decide +kernel
theorem f_184_736 : x_fe 184 736 = some (.iadd, 737) := by decide +kernel
theorem f_184_737 : x_fe 184 737 = some (.iaload, 738) := by decide +kernel
theorem f_184_738 : x_fe 184 738 = some (.invokevirtual 80, 741) := by decide +kernel
theorem f_184_741 : x_fe 184 741 = some (.aload 2, 742) := by decide +kernel
theorem f_184_742 : x_fe 184 742 = some (.aload 0, 743) := by decide +kernel
theorem f_184_743 : x_fe 184 743 = some (.iload 3, 744) := by decide +kernel
theorem f_184_744 : x_fe 184 744 = some (.iconst (1), 745) := by decide +kernel
theorem f_184_745 : x_fe 184 745 = some (.iadd, 746) := by decide +kernel
theorem f_184_746 : x_fe 184 746 = some (.iaload, 747) := by decide +kernel
theorem f_184_747 : x_fe 184 747 = some (.aload 0, 748) := by decide +kernel
theorem f_184_748 : x_fe 184 748 = some (.iload 3, 749) := by decide +kernel
theorem f_184_749 : x_fe 184 749 = some (.iconst (2), 750) := by decide +kernel
theorem f_184_750 : x_fe 184 750 = some (.iadd, 751) := by decide +kernel
theorem f_184_751 : x_fe 184 751 = some (.iaload, 752) := by decide +kernel
theorem f_184_752 : x_fe 184 752 = some (.invokevirtual 150, 755) := by decide +kernel
theorem f_184_755 : x_fe 184 755 = some (.if_icmp .eq (Int.ofNat 997), 758) := by decide +kernel
theorem f_184_758 : x_fe 184 758 = some (.iconst (0), 759) := by decide +kernel
theorem f_184_759 : x_fe 184 759 = some (.ireturn, 760) := by decide +kernel
theorem f_184_760 : x_fe 184 760 = some (.aload 1, 761) := by decide +kernel
theorem f_184_761 : x_fe 184 761 = some (.aload 0, 762) := by decide +kernel
theorem f_184_762 : x_fe 184 762 = some (.iload 3, 763) := by decide +kernel
theorem f_184_763 : x_fe 184 763 = some (.iconst (1), 764) := by decide +kernel
theorem f_184_764 : x_fe 184 764 = some (.iadd, 765) := by decide +kernel
theorem f_184_765 : x_fe 184 765 = some (.iaload, 766) := by decide +kernel
theorem f_184_766 : x_fe 184 766 = some (.aload 0, 767) := by decide +kernel
theorem f_184_767 : x_fe 184 767 = some (.iload 3, 768) := by decide +kernel
theorem f_184_768 : x_fe 184 768 = some (.iconst (2), 769) := by decide +kernel
theorem f_184_769 : x_fe 184 769 = some (.iadd, 770) := by decide +kernel
theorem f_184_770 : x_fe 184 770 = some (.iaload, 771) := by decide +kernel
theorem f_184_771 : x_fe 184 771 = some (.aload 0, 772) := by decide +kernel
theorem f_184_772 : x_fe 184 772 = some (.iload 3, 773) := by decide +kernel
theorem f_184_773 : x_fe 184 773 = some (.iconst (3), 774) := by decide +kernel
theorem f_184_774 : x_fe 184 774 = some (.iadd, 775) := by decide +kernel
theorem f_184_775 : x_fe 184 775 = some (.iaload, 776) := by decide +kernel
theorem f_184_776 : x_fe 184 776 = some (.invokevirtual 83, 779) := by decide +kernel
theorem f_184_779 : x_fe 184 779 = some (.aload 2, 780) := by decide +kernel
theorem f_184_780 : x_fe 184 780 = some (.aload 0, 781) := by decide +kernel
theorem f_184_781 : x_fe 184 781 = some (.iload 3, 782) := by decide +kernel
theorem f_184_782 : x_fe 184 782 = some (.iconst (1), 783) := by decide +kernel
theorem f_184_783 : x_fe 184 783 = some (.iadd, 784) := by decide +kernel
theorem f_184_784 : x_fe 184 784 = some (.iaload, 785) := by decide +kernel
theorem f_184_785 : x_fe 184 785 = some (.aload 0, 786) := by decide +kernel
theorem f_184_786 : x_fe 184 786 = some (.iload 3, 787) := by decide +kernel
theorem f_184_787 : x_fe 184 787 = some (.iconst (2), 788) := by decide +kernel
theorem f_184_788 : x_fe 184 788 = some (.iadd, 789) := by decide +kernel
theorem f_184_789 : x_fe 184 789 = some (.iaload, 790) := by decide +kernel
theorem f_184_790 : x_fe 184 790 = some (.aload 0, 791) := by decide +kernel
theorem f_184_791 : x_fe 184 791 = some (.iload 3, 792) := by decide +kernel
theorem f_184_792 : x_fe 184 792 = some (.iconst (3), 793) := by decide +kernel
theorem f_184_793 : x_fe 184 793 = some (.iadd, 794) := by decide +kernel
theorem f_184_794 : x_fe 184 794 = some (.iaload, 795) := by decide +kernel
theorem f_184_795 : x_fe 184 795 = some (.invokevirtual 154, 798) := by decide +kernel
theorem f_184_798 : x_fe 184 798 = some (.if_icmp .eq (Int.ofNat 997), 801) := by decide +kernel
theorem f_184_801 : x_fe 184 801 = some (.iconst (0), 802) := by decide +kernel
theorem f_184_802 : x_fe 184 802 = some (.ireturn, 803) := by decide +kernel
theorem f_184_803 : x_fe 184 803 = some (.aload 1, 804) := by decide +kernel
theorem f_184_804 : x_fe 184 804 = some (.aload 0, 805) := by decide +kernel
theorem f_184_805 : x_fe 184 805 = some (.iload 3, 806) := by decide +kernel
theorem f_184_806 : x_fe 184 806 = some (.iconst (1), 807) := by decide +kernel
theorem f_184_807 : x_fe 184 807 = some (.iadd, 808) := by decide +kernel
theorem f_184_808 : x_fe 184 808 = some (.iaload, 809) := by decide +kernel
theorem f_184_809 : x_fe 184 809 = some (.invokevirtual 85, 812) := by decide +kernel
theorem f_184_812 : x_fe 184 812 = some (.aload 2, 813) := by decide +kernel
theorem f_184_813 : x_fe 184 813 = some (.aload 0, 814) := by decide +kernel
theorem f_184_814 : x_fe 184 814 = some (.iload 3, 815) := by decide +kernel
theorem f_184_815 : x_fe 184 815 = some (.iconst (1), 816) := by decide +kernel
theorem f_184_816 : x_fe 184 816 = some (.iadd, 817) := by decide +kernel
theorem f_184_817 : x_fe 184 817 = some (.iaload, 818) := by decide +kernel
theorem f_184_818 : x_fe 184 818 = some (.invokevirtual 156, 821) := by decide +kernel
theorem f_184_821 : x_fe 184 821 = some (.if_icmp .eq (Int.ofNat 997), 824) := by decide +kernel
theorem f_184_824 : x_fe 184 824 = some (.iconst (0), 825) := by decide +kernel
theorem f_184_825 : x_fe 184 825 = some (.ireturn, 826) := by decide +kernel
theorem f_184_826 : x_fe 184 826 = some (.aload 1, 827) := by decide +kernel
theorem f_184_827 : x_fe 184 827 = some (.aload 0, 828) := by decide +kernel
theorem f_184_828 : x_fe 184 828 = some (.iload 3, 829) := by decide +kernel
theorem f_184_829 : x_fe 184 829 = some (.iconst (1), 830) := by decide +kernel
theorem f_184_830 : x_fe 184 830 = some (.iadd, 831) := by decide +kernel
theorem f_184_831 : x_fe 184 831 = some (.iaload, 832) := by decide +kernel
theorem f_184_832 : x_fe 184 832 = some (.invokevirtual 86, 835) := by decide +kernel
theorem f_184_835 : x_fe 184 835 = some (.aload 2, 836) := by decide +kernel
theorem f_184_836 : x_fe 184 836 = some (.aload 0, 837) := by decide +kernel
theorem f_184_837 : x_fe 184 837 = some (.iload 3, 838) := by decide +kernel
theorem f_184_838 : x_fe 184 838 = some (.iconst (1), 839) := by decide +kernel
theorem f_184_839 : x_fe 184 839 = some (.iadd, 840) := by decide +kernel
theorem f_184_840 : x_fe 184 840 = some (.iaload, 841) := by decide +kernel
theorem f_184_841 : x_fe 184 841 = some (.invokevirtual 158, 844) := by decide +kernel
theorem f_184_844 : x_fe 184 844 = some (.if_icmp .eq (Int.ofNat 997), 847) := by decide +kernel
theorem f_184_847 : x_fe 184 847 = some (.iconst (0), 848) := by decide +kernel
theorem f_184_848 : x_fe 184 848 = some (.ireturn, 849) := by decide +kernel
theorem f_184_849 : x_fe 184 849 = some (.aload 1, 850) := by decide +kernel
theorem f_184_850 : x_fe 184 850 = some (.aload 0, 851) := by decide +kernel
theorem f_184_851 : x_fe 184 851 = some (.iload 3, 852) := by decide +kernel
theorem f_184_852 : x_fe 184 852 = some (.iconst (1), 853) := by decide +kernel
theorem f_184_853 : x_fe 184 853 = some (.iadd, 854) := by decide +kernel
theorem f_184_854 : x_fe 184 854 = some (.iaload, 855) := by decide +kernel
theorem f_184_855 : x_fe 184 855 = some (.invokevirtual 87, 858) := by decide +kernel
theorem f_184_858 : x_fe 184 858 = some (.aload 2, 859) := by decide +kernel
theorem f_184_859 : x_fe 184 859 = some (.aload 0, 860) := by decide +kernel
theorem f_184_860 : x_fe 184 860 = some (.iload 3, 861) := by decide +kernel
theorem f_184_861 : x_fe 184 861 = some (.iconst (1), 862) := by decide +kernel
theorem f_184_862 : x_fe 184 862 = some (.iadd, 863) := by decide +kernel
theorem f_184_863 : x_fe 184 863 = some (.iaload, 864) := by decide +kernel
theorem f_184_864 : x_fe 184 864 = some (.invokevirtual 159, 867) := by decide +kernel
theorem f_184_867 : x_fe 184 867 = some (.if_icmp .eq (Int.ofNat 997), 870) := by decide +kernel
theorem f_184_870 : x_fe 184 870 = some (.iconst (0), 871) := by decide +kernel
theorem f_184_871 : x_fe 184 871 = some (.ireturn, 872) := by decide +kernel
theorem f_184_872 : x_fe 184 872 = some (.aload 1, 873) := by decide +kernel
theorem f_184_873 : x_fe 184 873 = some (.aload 0, 874) := by decide +kernel
theorem f_184_874 : x_fe 184 874 = some (.iload 3, 875) := by decide +kernel
theorem f_184_875 : x_fe 184 875 = some (.iconst (1), 876) := by decide +kernel
theorem f_184_876 : x_fe 184 876 = some (.iadd, 877) := by decide +kernel
theorem f_184_877 : x_fe 184 877 = some (.iaload, 878) := by decide +kernel
theorem f_184_878 : x_fe 184 878 = some (.aload 0, 879) := by decide +kernel
theorem f_184_879 : x_fe 184 879 = some (.iload 3, 880) := by decide +kernel
theorem f_184_880 : x_fe 184 880 = some (.iconst (2), 881) := by decide +kernel
theorem f_184_881 : x_fe 184 881 = some (.iadd, 882) := by decide +kernel
theorem f_184_882 : x_fe 184 882 = some (.iaload, 883) := by decide +kernel
theorem f_184_883 : x_fe 184 883 = some (.invokevirtual 90, 886) := by decide +kernel
theorem f_184_886 : x_fe 184 886 = some (.aload 2, 887) := by decide +kernel
theorem f_184_887 : x_fe 184 887 = some (.aload 0, 888) := by decide +kernel
theorem f_184_888 : x_fe 184 888 = some (.iload 3, 889) := by decide +kernel
theorem f_184_889 : x_fe 184 889 = some (.iconst (1), 890) := by decide +kernel
theorem f_184_890 : x_fe 184 890 = some (.iadd, 891) := by decide +kernel
theorem f_184_891 : x_fe 184 891 = some (.iaload, 892) := by decide +kernel
theorem f_184_892 : x_fe 184 892 = some (.aload 0, 893) := by decide +kernel
theorem f_184_893 : x_fe 184 893 = some (.iload 3, 894) := by decide +kernel
theorem f_184_894 : x_fe 184 894 = some (.iconst (2), 895) := by decide +kernel
theorem f_184_895 : x_fe 184 895 = some (.iadd, 896) := by decide +kernel
theorem f_184_896 : x_fe 184 896 = some (.iaload, 897) := by decide +kernel
theorem f_184_897 : x_fe 184 897 = some (.invokevirtual 161, 900) := by decide +kernel
theorem f_184_900 : x_fe 184 900 = some (.if_icmp .eq (Int.ofNat 997), 903) := by decide +kernel
theorem f_184_903 : x_fe 184 903 = some (.iconst (0), 904) := by decide +kernel
theorem f_184_904 : x_fe 184 904 = some (.ireturn, 905) := by decide +kernel
theorem f_184_905 : x_fe 184 905 = some (.aload 1, 906) := by decide +kernel
theorem f_184_906 : x_fe 184 906 = some (.aload 0, 907) := by decide +kernel
theorem f_184_907 : x_fe 184 907 = some (.iload 3, 908) := by decide +kernel
theorem f_184_908 : x_fe 184 908 = some (.iconst (1), 909) := by decide +kernel
theorem f_184_909 : x_fe 184 909 = some (.iadd, 910) := by decide +kernel
theorem f_184_910 : x_fe 184 910 = some (.iaload, 911) := by decide +kernel
theorem f_184_911 : x_fe 184 911 = some (.aload 0, 912) := by decide +kernel
theorem f_184_912 : x_fe 184 912 = some (.iload 3, 913) := by decide +kernel
theorem f_184_913 : x_fe 184 913 = some (.iconst (2), 914) := by decide +kernel
theorem f_184_914 : x_fe 184 914 = some (.iadd, 915) := by decide +kernel
theorem f_184_915 : x_fe 184 915 = some (.iaload, 916) := by decide +kernel
theorem f_184_916 : x_fe 184 916 = some (.invokevirtual 91, 919) := by decide +kernel
theorem f_184_919 : x_fe 184 919 = some (.aload 2, 920) := by decide +kernel
theorem f_184_920 : x_fe 184 920 = some (.aload 0, 921) := by decide +kernel
theorem f_184_921 : x_fe 184 921 = some (.iload 3, 922) := by decide +kernel
theorem f_184_922 : x_fe 184 922 = some (.iconst (1), 923) := by decide +kernel
theorem f_184_923 : x_fe 184 923 = some (.iadd, 924) := by decide +kernel
theorem f_184_924 : x_fe 184 924 = some (.iaload, 925) := by decide +kernel
theorem f_184_925 : x_fe 184 925 = some (.aload 0, 926) := by decide +kernel
theorem f_184_926 : x_fe 184 926 = some (.iload 3, 927) := by decide +kernel
theorem f_184_927 : x_fe 184 927 = some (.iconst (2), 928) := by decide +kernel
theorem f_184_928 : x_fe 184 928 = some (.iadd, 929) := by decide +kernel
theorem f_184_929 : x_fe 184 929 = some (.iaload, 930) := by decide +kernel
theorem f_184_930 : x_fe 184 930 = some (.invokevirtual 162, 933) := by decide +kernel
theorem f_184_933 : x_fe 184 933 = some (.if_icmp .eq (Int.ofNat 997), 936) := by decide +kernel
theorem f_184_936 : x_fe 184 936 = some (.iconst (0), 937) := by decide +kernel
theorem f_184_937 : x_fe 184 937 = some (.ireturn, 938) := by decide +kernel
