theorem dL_holds_218 : decode cL_holds 218 = .ok (.invokevirtual 22, 3) := by decide +kernel
theorem dL_holds_221 : decode cL_holds 221 = .ok (.iadd, 1) := by decide +kernel
theorem dL_holds_222 : decode cL_holds 222 = .ok (.istore 8, 2) := by decide +kernel
theorem dL_holds_224 : decode cL_holds 224 = .ok (.aload_n 0, 1) := by decide +kernel
theorem dL_holds_225 : decode cL_holds 225 = .ok (.iload 5, 2) := by decide +kernel
theorem dL_holds_227 : decode cL_holds 227 = .ok (.iload 9, 2) := by decide +kernel
theorem dL_holds_229 : decode cL_holds 229 = .ok (.iconst 1, 1) := by decide +kernel
theorem dL_holds_230 : decode cL_holds 230 = .ok (.invokevirtual 22, 3) := by decide +kernel
theorem dL_holds_233 : decode cL_holds 233 = .ok (.iconst 1, 1) := by decide +kernel
theorem dL_holds_234 : decode cL_holds 234 = .ok (.if_icmp .lt 102, 3) := by decide +kernel
theorem dL_holds_237 : decode cL_holds 237 = .ok (.aload_n 0, 1) := by decide +kernel
theorem dL_holds_238 : decode cL_holds 238 = .ok (.iload 5, 2) := by decide +kernel
theorem dL_holds_240 : decode cL_holds 240 = .ok (.iload 9, 2) := by decide +kernel
theorem dL_holds_242 : decode cL_holds 242 = .ok (.iconst 2, 1) := by decide +kernel
theorem dL_holds_243 : decode cL_holds 243 = .ok (.invokevirtual 22, 3) := by decide +kernel
theorem dL_holds_246 : decode cL_holds 246 = .ok (.iconst 1, 1) := by decide +kernel
theorem dL_holds_247 : decode cL_holds 247 = .ok (.if_icmp .lt 89, 3) := by decide +kernel
theorem dL_holds_250 : decode cL_holds 250 = .ok (.aload_n 0, 1) := by decide +kernel
theorem dL_holds_251 : decode cL_holds 251 = .ok (.iload 5, 2) := by decide +kernel
theorem dL_holds_253 : decode cL_holds 253 = .ok (.iload 9, 2) := by decide +kernel
theorem dL_holds_255 : decode cL_holds 255 = .ok (.iconst 2, 1) := by decide +kernel
theorem dL_holds_256 : decode cL_holds 256 = .ok (.invokevirtual 22, 3) := by decide +kernel
theorem dL_holds_259 : decode cL_holds 259 = .ok (.iload 5, 2) := by decide +kernel
theorem dL_holds_261 : decode cL_holds 261 = .ok (.iconst 1, 1) := by decide +kernel
theorem dL_holds_262 : decode cL_holds 262 = .ok (.iadd, 1) := by decide +kernel
theorem dL_holds_263 : decode cL_holds 263 = .ok (.if_icmp .gt 73, 3) := by decide +kernel
theorem dL_holds_266 : decode cL_holds 266 = .ok (.aload_n 0, 1) := by decide +kernel
theorem dL_holds_267 : decode cL_holds 267 = .ok (.iload 5, 2) := by decide +kernel
theorem dL_holds_269 : decode cL_holds 269 = .ok (.iload 9, 2) := by decide +kernel
theorem dL_holds_271 : decode cL_holds 271 = .ok (.iconst 3, 1) := by decide +kernel
theorem dL_holds_272 : decode cL_holds 272 = .ok (.invokevirtual 22, 3) := by decide +kernel
theorem dL_holds_275 : decode cL_holds 275 = .ok (.ifCond .le 7, 3) := by decide +kernel
theorem dL_holds_278 : decode cL_holds 278 = .ok (.iconst 1, 1) := by decide +kernel
theorem dL_holds_279 : decode cL_holds 279 = .ok (.goto 4, 3) := by decide +kernel
theorem dL_holds_282 : decode cL_holds 282 = .ok (.iconst 0, 1) := by decide +kernel
theorem dL_holds_283 : decode cL_holds 283 = .ok (.aload_n 0, 1) := by decide +kernel
theorem dL_holds_284 : decode cL_holds 284 = .ok (.iload 5, 2) := by decide +kernel
theorem dL_holds_286 : decode cL_holds 286 = .ok (.iload 9, 2) := by decide +kernel
theorem dL_holds_288 : decode cL_holds 288 = .ok (.iconst 2, 1) := by decide +kernel
theorem dL_holds_289 : decode cL_holds 289 = .ok (.invokevirtual 22, 3) := by decide +kernel
theorem dL_holds_292 : decode cL_holds 292 = .ok (.iconst 1, 1) := by decide +kernel
theorem dL_holds_293 : decode cL_holds 293 = .ok (.if_icmp .le 7, 3) := by decide +kernel
theorem dL_holds_296 : decode cL_holds 296 = .ok (.iconst 1, 1) := by decide +kernel
theorem dL_holds_297 : decode cL_holds 297 = .ok (.goto 4, 3) := by decide +kernel
theorem dL_holds_300 : decode cL_holds 300 = .ok (.iconst 0, 1) := by decide +kernel
theorem dL_holds_301 : decode cL_holds 301 = .ok (.if_icmp .ne 35, 3) := by decide +kernel
theorem dL_holds_304 : decode cL_holds 304 = .ok (.iload 9, 2) := by decide +kernel
theorem dL_holds_306 : decode cL_holds 306 = .ok (.ifCond .eq 26, 3) := by decide +kernel
theorem dL_holds_309 : decode cL_holds 309 = .ok (.aload_n 0, 1) := by decide +kernel
theorem dL_holds_310 : decode cL_holds 310 = .ok (.iload 5, 2) := by decide +kernel
theorem dL_holds_312 : decode cL_holds 312 = .ok (.iload 9, 2) := by decide +kernel
theorem dL_holds_314 : decode cL_holds 314 = .ok (.iconst 1, 1) := by decide +kernel
theorem dL_holds_315 : decode cL_holds 315 = .ok (.invokevirtual 22, 3) := by decide +kernel
theorem dL_holds_318 : decode cL_holds 318 = .ok (.aload_n 0, 1) := by decide +kernel
theorem dL_holds_319 : decode cL_holds 319 = .ok (.iload 5, 2) := by decide +kernel
theorem dL_holds_321 : decode cL_holds 321 = .ok (.iload 9, 2) := by decide +kernel
theorem dL_holds_323 : decode cL_holds 323 = .ok (.iconst 1, 1) := by decide +kernel
theorem dL_holds_324 : decode cL_holds 324 = .ok (.isub, 1) := by decide +kernel
theorem dL_holds_325 : decode cL_holds 325 = .ok (.iconst 1, 1) := by decide +kernel
theorem dL_holds_326 : decode cL_holds 326 = .ok (.invokevirtual 22, 3) := by decide +kernel
theorem dL_holds_329 : decode cL_holds 329 = .ok (.if_icmp .gt 7, 3) := by decide +kernel
theorem dL_holds_332 : decode cL_holds 332 = .ok (.iconst 1, 1) := by decide +kernel
theorem dL_holds_333 : decode cL_holds 333 = .ok (.goto 4, 3) := by decide +kernel
theorem dL_holds_336 : decode cL_holds 336 = .ok (.iconst 0, 1) := by decide +kernel
theorem dL_holds_337 : decode cL_holds 337 = .ok (.istore 4, 2) := by decide +kernel
theorem dL_holds_339 : decode cL_holds 339 = .ok (.iinc 9 1, 3) := by decide +kernel
theorem dL_holds_342 : decode cL_holds 342 = .ok (.goto (-149), 3) := by decide +kernel
theorem dL_holds_345 : decode cL_holds 345 = .ok (.iconst 0, 1) := by decide +kernel
theorem dL_holds_346 : decode cL_holds 346 = .ok (.istore 9, 2) := by decide +kernel
theorem dL_holds_348 : decode cL_holds 348 = .ok (.iconst 0, 1) := by decide +kernel
