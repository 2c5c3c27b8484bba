theorem cdL_X6_count : yX6_count.cls = RX6 ∧ yX6_count.cls ≠ "java/lang/invoke/MethodHandle" ∧ yX6_count.cls ≠ "java/lang/invoke/VarHandle" ∧ (parseMethodDescriptor yX6_count.desc).map (fun d => d.parameters.length) = some 1 := by decide +kernel
theorem cdL_X7_count : yX7_count.cls = RX7 ∧ yX7_count.cls ≠ "java/lang/invoke/MethodHandle" ∧ yX7_count.cls ≠ "java/lang/invoke/VarHandle" ∧ (parseMethodDescriptor yX7_count.desc).map (fun d => d.parameters.length) = some 1 := by decide +kernel
set_option maxRecDepth 100000 in
set_option maxHeartbeats 1000000 in
theorem lawc_8 {zp : Program} {l : Launch} {ze : Env} {zs : State} {zm : MethodId} {zbelow : List Frame} {zmeth : Method} {zc : Code} {zQ : State → Prop} {Hs : Heap} {X : Cx} {b L : Nat} {xs : Nat → Int32} (F : Fx zp zs zm #[Value.ref b] zc cL_law RL wsL_law 4 X) (S : LScr zs Hs X b L xs) {M : Mem} (hI : LInv M) (i : Int) (hi0 : 0 ≤ i) (hi1 : i + 4 ≤ (L : Int)) (kk : ∀ Mn, LInv Mn → J zp l ze room_1 zs zm #[Value.ref b] zbelow zmeth zc 600000 7302250 zQ Hs X 4 Mn 689 [(0, Value.ref b), (1, vR X 0), (2, vR X 82), (3, vI i)] []) : J zp l ze room_1 zs zm #[Value.ref b] zbelow zmeth zc 600000 7302250 zQ Hs X 4 M 314 [(0, Value.ref b), (1, vR X 0), (2, vR X 82), (3, vI i)] [] := by
  have hX := F.2.2.2.2.2.2
  have hL := S.2.2.2
  refine j_aload_n (q := 315) F dL_law_314 rfl rfl 1 rfl ?_
  refine j_aload_s (q := 316) F dL_law_315 rfl rfl 0 rfl ?_
  refine j_iload_n (q := 317) F dL_law_316 rfl rfl 3 rfl ?_
  refine j_iconst (q := 318) F dL_law_317 rfl ?_
  refine j_iadd (q := 319) (z := i + 1) F dL_law_318 rfl rfl ?_
  refine j_sld (q := 320) F S (by omega) (by omega) dL_law_319 rfl ?_
  refine j_callVI (q := 323) F [vI ((xs (i + 1).toNat).toInt)] (ct_X6_count l X hX M hI.1 ((xs (i + 1).toNat).toInt) (inR_self _)) gL_law_X6_count rfl cdL_X6_count ⟨Nat.le_of_ble_eq_true rfl, Nat.le_of_ble_eq_true rfl, Nat.le_of_ble_eq_true rfl, Nat.le_of_ble_eq_true rfl⟩ rfl rfl rfl rfl (Nat.le_of_ble_eq_true rfl) dL_law_320 rfl (fun r1 M1 h1 => ?_)
  refine j_aload_n (q := 324) F dL_law_323 rfl rfl 2 rfl ?_
  refine j_aload_s (q := 325) F dL_law_324 rfl rfl 0 rfl ?_
  refine j_iload_n (q := 326) F dL_law_325 rfl rfl 3 rfl ?_
  refine j_iconst (q := 327) F dL_law_326 rfl ?_
  refine j_iadd (q := 328) (z := i + 1) F dL_law_327 rfl rfl ?_
  refine j_sld (q := 329) F S (by omega) (by omega) dL_law_328 rfl ?_
  have hp := lpre hI h1.1
  refine j_callVI (q := 332) F [vI ((xs (i + 1).toNat).toInt)] (ct_X7_count l X hX M1 hp.1 ((xs (i + 1).toNat).toInt) (inR_self _)) gL_law_X7_count rfl cdL_X7_count ⟨Nat.le_of_ble_eq_true rfl, Nat.le_of_ble_eq_true rfl, Nat.le_of_ble_eq_true rfl, Nat.le_of_ble_eq_true rfl⟩ rfl rfl rfl rfl (Nat.le_of_ble_eq_true rfl) dL_law_329 rfl (fun r2 M2 h2 => ?_)
  obtain ⟨he, hI2⟩ := law_pair (OP := fun M => Ocount M ((xs (i + 1).toNat).toInt)) (fun _ => rfl) hI h1 h2
  subst he
  exact j_eqself (tgt := 689) F dL_law_332 (by decide) (kk M2 hI2)
theorem cdL_X6_word : yX6_word.cls = RX6 ∧ yX6_word.cls ≠ "java/lang/invoke/MethodHandle" ∧ yX6_word.cls ≠ "java/lang/invoke/VarHandle" ∧ (parseMethodDescriptor yX6_word.desc).map (fun d => d.parameters.length) = some 2 := by decide +kernel
theorem cdL_X7_word : yX7_word.cls = RX7 ∧ yX7_word.cls ≠ "java/lang/invoke/MethodHandle" ∧ yX7_word.cls ≠ "java/lang/invoke/VarHandle" ∧ (parseMethodDescriptor yX7_word.desc).map (fun d => d.parameters.length) = some 2 := by decide +kernel
set_option maxRecDepth 100000 in
set_option maxHeartbeats 1000000 in
theorem lawc_9 {zp : Program} {l : Launch} {ze : Env} {zs : State} {zm : MethodId} {zbelow : List Frame} {zmeth : Method} {zc : Code} {zQ : State → Prop} {Hs : Heap} {X : Cx} {b L : Nat} {xs : Nat → Int32} (F : Fx zp zs zm #[Value.ref b] zc cL_law RL wsL_law 4 X) (S : LScr zs Hs X b L xs) {M : Mem} (hI : LInv M) (i : Int) (hi0 : 0 ≤ i) (hi1 : i + 4 ≤ (L : Int)) (kk : ∀ Mn, LInv Mn → J zp l ze room_1 zs zm #[Value.ref b] zbelow zmeth zc 600000 7302250 zQ Hs X 4 Mn 689 [(0, Value.ref b), (1, vR X 0), (2, vR X 82), (3, vI i)] []) : J zp l ze room_1 zs zm #[Value.ref b] zbelow zmeth zc 600000 7302250 zQ Hs X 4 M 337 [(0, Value.ref b), (1, vR X 0), (2, vR X 82), (3, vI i)] [] := by
  have hX := F.2.2.2.2.2.2
  have hL := S.2.2.2
  refine j_aload_n (q := 338) F dL_law_337 rfl rfl 1 rfl ?_
  refine j_aload_s (q := 339) F dL_law_338 rfl rfl 0 rfl ?_
  refine j_iload_n (q := 340) F dL_law_339 rfl rfl 3 rfl ?_
  refine j_iconst (q := 341) F dL_law_340 rfl ?_
  refine j_iadd (q := 342) (z := i + 1) F dL_law_341 rfl rfl ?_
  refine j_sld (q := 343) F S (by omega) (by omega) dL_law_342 rfl ?_
  refine j_aload_s (q := 344) F dL_law_343 rfl rfl 0 rfl ?_
  refine j_iload_n (q := 345) F dL_law_344 rfl rfl 3 rfl ?_
  refine j_iconst (q := 346) F dL_law_345 rfl ?_
  refine j_iadd (q := 347) (z := i + 2) F dL_law_346 rfl rfl ?_
  refine j_sld (q := 348) F S (by omega) (by omega) dL_law_347 rfl ?_
  refine j_callVI (q := 351) F [vI ((xs (i + 1).toNat).toInt), vI ((xs (i + 2).toNat).toInt)] (ct_X6_word l X hX M hI.1 ((xs (i + 1).toNat).toInt) ((xs (i + 2).toNat).toInt) (inR_self _) (inR_self _)) gL_law_X6_word rfl cdL_X6_word ⟨Nat.le_of_ble_eq_true rfl, Nat.le_of_ble_eq_true rfl, Nat.le_of_ble_eq_true rfl, Nat.le_of_ble_eq_true rfl⟩ rfl rfl rfl rfl (Nat.le_of_ble_eq_true rfl) dL_law_348 rfl (fun r1 M1 h1 => ?_)
  refine j_aload_n (q := 352) F dL_law_351 rfl rfl 2 rfl ?_
  refine j_aload_s (q := 353) F dL_law_352 rfl rfl 0 rfl ?_
  refine j_iload_n (q := 354) F dL_law_353 rfl rfl 3 rfl ?_
  refine j_iconst (q := 355) F dL_law_354 rfl ?_
  refine j_iadd (q := 356) (z := i + 1) F dL_law_355 rfl rfl ?_
  refine j_sld (q := 357) F S (by omega) (by omega) dL_law_356 rfl ?_
  refine j_aload_s (q := 358) F dL_law_357 rfl rfl 0 rfl ?_
  refine j_iload_n (q := 359) F dL_law_358 rfl rfl 3 rfl ?_
  refine j_iconst (q := 360) F dL_law_359 rfl ?_
  refine j_iadd (q := 361) (z := i + 2) F dL_law_360 rfl rfl ?_
  refine j_sld (q := 362) F S (by omega) (by omega) dL_law_361 rfl ?_
  have hp := lpre hI h1.1
  refine j_callVI (q := 365) F [vI ((xs (i + 1).toNat).toInt), vI ((xs (i + 2).toNat).toInt)] (ct_X7_word l X hX M1 hp.1 ((xs (i + 1).toNat).toInt) (inR_self _) ((xs (i + 2).toNat).toInt) (inR_self _)) gL_law_X7_word rfl cdL_X7_word ⟨Nat.le_of_ble_eq_true rfl, Nat.le_of_ble_eq_true rfl, Nat.le_of_ble_eq_true rfl, Nat.le_of_ble_eq_true rfl⟩ rfl rfl rfl rfl (Nat.le_of_ble_eq_true rfl) dL_law_362 rfl (fun r2 M2 h2 => ?_)
  obtain ⟨he, hI2⟩ := law_pair (OP := fun M => Oword M ((xs (i + 1).toNat).toInt) ((xs (i + 2).toNat).toInt)) (fun _ => rfl) hI h1 h2
  subst he
  exact j_eqself (tgt := 689) F dL_law_365 (by decide) (kk M2 hI2)
theorem cdL_X6_line : yX6_line.cls = RX6 ∧ yX6_line.cls ≠ "java/lang/invoke/MethodHandle" ∧ yX6_line.cls ≠ "java/lang/invoke/VarHandle" ∧ (parseMethodDescriptor yX6_line.desc).map (fun d => d.parameters.length) = some 2 := by decide +kernel
theorem cdL_X7_line : yX7_line.cls = RX7 ∧ yX7_line.cls ≠ "java/lang/invoke/MethodHandle" ∧ yX7_line.cls ≠ "java/lang/invoke/VarHandle" ∧ (parseMethodDescriptor yX7_line.desc).map (fun d => d.parameters.length) = some 2 := by decide +kernel
set_option maxRecDepth 100000 in
set_option maxHeartbeats 1000000 in
theorem lawc_10 {zp : Program} {l : Launch} {ze : Env} {zs : State} {zm : MethodId} {zbelow : List Frame} {zmeth : Method} {zc : Code} {zQ : State → Prop} {Hs : Heap} {X : Cx} {b L : Nat} {xs : Nat → Int32} (F : Fx zp zs zm #[Value.ref b] zc cL_law RL wsL_law 4 X) (S : LScr zs Hs X b L xs) {M : Mem} (hI : LInv M) (i : Int) (hi0 : 0 ≤ i) (hi1 : i + 4 ≤ (L : Int)) (kk : ∀ Mn, LInv Mn → J zp l ze room_1 zs zm #[Value.ref b] zbelow zmeth zc 600000 7302250 zQ Hs X 4 Mn 689 [(0, Value.ref b), (1, vR X 0), (2, vR X 82), (3, vI i)] []) : J zp l ze room_1 zs zm #[Value.ref b] zbelow zmeth zc 600000 7302250 zQ Hs X 4 M 370 [(0, Value.ref b), (1, vR X 0), (2, vR X 82), (3, vI i)] [] := by
  have hX := F.2.2.2.2.2.2
  have hL := S.2.2.2
  refine j_aload_n (q := 371) F dL_law_370 rfl rfl 1 rfl ?_
  refine j_aload_s (q := 372) F dL_law_371 rfl rfl 0 rfl ?_
  refine j_iload_n (q := 373) F dL_law_372 rfl rfl 3 rfl ?_
  refine j_iconst (q := 374) F dL_law_373 rfl ?_
  refine j_iadd (q := 375) (z := i + 1) F dL_law_374 rfl rfl ?_
  refine j_sld (q := 376) F S (by omega) (by omega) dL_law_375 rfl ?_
  refine j_aload_s (q := 377) F dL_law_376 rfl rfl 0 rfl ?_
  refine j_iload_n (q := 378) F dL_law_377 rfl rfl 3 rfl ?_
  refine j_iconst (q := 379) F dL_law_378 rfl ?_
  refine j_iadd (q := 380) (z := i + 2) F dL_law_379 rfl rfl ?_
  refine j_sld (q := 381) F S (by omega) (by omega) dL_law_380 rfl ?_
  refine j_callVI (q := 384) F [vI ((xs (i + 1).toNat).toInt), vI ((xs (i + 2).toNat).toInt)] (ct_X6_line l X hX M hI.1 ((xs (i + 1).toNat).toInt) (inR_self _) ((xs (i + 2).toNat).toInt) (inR_self _)) gL_law_X6_line rfl cdL_X6_line ⟨Nat.le_of_ble_eq_true rfl, Nat.le_of_ble_eq_true rfl, Nat.le_of_ble_eq_true rfl, Nat.le_of_ble_eq_true rfl⟩ rfl rfl rfl rfl (Nat.le_of_ble_eq_true rfl) dL_law_381 rfl (fun r1 M1 h1 => ?_)
  refine j_aload_n (q := 385) F dL_law_384 rfl rfl 2 rfl ?_
  refine j_aload_s (q := 386) F dL_law_385 rfl rfl 0 rfl ?_
  refine j_iload_n (q := 387) F dL_law_386 rfl rfl 3 rfl ?_
  refine j_iconst (q := 388) F dL_law_387 rfl ?_
  refine j_iadd (q := 389) (z := i + 1) F dL_law_388 rfl rfl ?_
  refine j_sld (q := 390) F S (by omega) (by omega) dL_law_389 rfl ?_
  refine j_aload_s (q := 391) F dL_law_390 rfl rfl 0 rfl ?_
  refine j_iload_n (q := 392) F dL_law_391 rfl rfl 3 rfl ?_
  refine j_iconst (q := 393) F dL_law_392 rfl ?_
  refine j_iadd (q := 394) (z := i + 2) F dL_law_393 rfl rfl ?_
  refine j_sld (q := 395) F S (by omega) (by omega) dL_law_394 rfl ?_
  have hp := lpre hI h1.1
  refine j_callVI (q := 398) F [vI ((xs (i + 1).toNat).toInt), vI ((xs (i + 2).toNat).toInt)] (ct_X7_line l X hX M1 hp.1 ((xs (i + 1).toNat).toInt) (inR_self _) ((xs (i + 2).toNat).toInt) (inR_self _)) gL_law_X7_line rfl cdL_X7_line ⟨Nat.le_of_ble_eq_true rfl, Nat.le_of_ble_eq_true rfl, Nat.le_of_ble_eq_true rfl, Nat.le_of_ble_eq_true rfl⟩ rfl rfl rfl rfl (Nat.le_of_ble_eq_true rfl) dL_law_395 rfl (fun r2 M2 h2 => ?_)
  obtain ⟨he, hI2⟩ := law_pair (OP := fun M => Oline M ((xs (i + 1).toNat).toInt) ((xs (i + 2).toNat).toInt)) (fun _ => rfl) hI h1 h2
  subst he
  exact j_eqself (tgt := 689) F dL_law_398 (by decide) (kk M2 hI2)
theorem cdL_X6_undo : yX6_undo.cls = RX6 ∧ yX6_undo.cls ≠ "java/lang/invoke/MethodHandle" ∧ yX6_undo.cls ≠ "java/lang/invoke/VarHandle" ∧ (parseMethodDescriptor yX6_undo.desc).map (fun d => d.parameters.length) = some 0 := by decide +kernel
theorem cdL_X7_undo : yX7_undo.cls = RX7 ∧ yX7_undo.cls ≠ "java/lang/invoke/MethodHandle" ∧ yX7_undo.cls ≠ "java/lang/invoke/VarHandle" ∧ (parseMethodDescriptor yX7_undo.desc).map (fun d => d.parameters.length) = some 0 := by decide +kernel
set_option maxRecDepth 100000 in
set_option maxHeartbeats 1000000 in
theorem lawc_11 {zp : Program} {l : Launch} {ze : Env} {zs : State} {zm : MethodId} {zbelow : List Frame} {zmeth : Method} {zc : Code} {zQ : State → Prop} {Hs : Heap} {X : Cx} {b L : Nat} {xs : Nat → Int32} (F : Fx zp zs zm #[Value.ref b] zc cL_law RL wsL_law 4 X) (S : LScr zs Hs X b L xs) {M : Mem} (hI : LInv M) (i : Int) (hi0 : 0 ≤ i) (hi1 : i + 4 ≤ (L : Int)) (kk : ∀ Mn, LInv Mn → J zp l ze room_1 zs zm #[Value.ref b] zbelow zmeth zc 600000 7302250 zQ Hs X 4 Mn 689 [(0, Value.ref b), (1, vR X 0), (2, vR X 82), (3, vI i)] []) : J zp l ze room_1 zs zm #[Value.ref b] zbelow zmeth zc 600000 7302250 zQ Hs X 4 M 403 [(0, Value.ref b), (1, vR X 0), (2, vR X 82), (3, vI i)] [] := by
  have hX := F.2.2.2.2.2.2
  have hL := S.2.2.2
  refine j_aload_n (q := 404) F dL_law_403 rfl rfl 1 rfl ?_
  refine j_callVI (q := 407) F [] (ct_X6_undo l X hX M hI.1) gL_law_X6_undo rfl cdL_X6_undo ⟨Nat.le_of_ble_eq_true rfl, Nat.le_of_ble_eq_true rfl, Nat.le_of_ble_eq_true rfl, Nat.le_of_ble_eq_true rfl⟩ rfl rfl rfl rfl (Nat.le_of_ble_eq_true rfl) dL_law_404 rfl (fun r1 M1 h1 => ?_)
  refine j_aload_n (q := 408) F dL_law_407 rfl rfl 2 rfl ?_
  have hp := lpre hI h1.1
  refine j_callVI (q := 411) F [] (ct_X7_undo l X hX M1 hp.2.1) gL_law_X7_undo rfl cdL_X7_undo ⟨Nat.le_of_ble_eq_true rfl, Nat.le_of_ble_eq_true rfl, Nat.le_of_ble_eq_true rfl, Nat.le_of_ble_eq_true rfl⟩ rfl rfl rfl rfl (Nat.le_of_ble_eq_true rfl) dL_law_408 rfl (fun r2 M2 h2 => ?_)
  obtain ⟨he, hI2⟩ := law_pair (OP := fun M => Oundo M) (fun _ => rfl) hI h1 h2
  subst he
  exact j_eqself (tgt := 689) F dL_law_411 (by decide) (kk M2 hI2)
theorem cdL_X6_gap : yX6_gap.cls = RX6 ∧ yX6_gap.cls ≠ "java/lang/invoke/MethodHandle" ∧ yX6_gap.cls ≠ "java/lang/invoke/VarHandle" ∧ (parseMethodDescriptor yX6_gap.desc).map (fun d => d.parameters.length) = some 3 := by decide +kernel
theorem cdL_X7_gap : yX7_gap.cls = RX7 ∧ yX7_gap.cls ≠ "java/lang/invoke/MethodHandle" ∧ yX7_gap.cls ≠ "java/lang/invoke/VarHandle" ∧ (parseMethodDescriptor yX7_gap.desc).map (fun d => d.parameters.length) = some 3 := by decide +kernel
set_option maxRecDepth 100000 in
set_option maxHeartbeats 1000000 in
theorem lawc_12 {zp : Program} {l : Launch} {ze : Env} {zs : State} {zm : MethodId} {zbelow : List Frame} {zmeth : Method} {zc : Code} {zQ : State → Prop} {Hs : Heap} {X : Cx} {b L : Nat} {xs : Nat → Int32} (F : Fx zp zs zm #[Value.ref b] zc cL_law RL wsL_law 4 X) (S : LScr zs Hs X b L xs) {M : Mem} (hI : LInv M) (i : Int) (hi0 : 0 ≤ i) (hi1 : i + 4 ≤ (L : Int)) (kk : ∀ Mn, LInv Mn → J zp l ze room_1 zs zm #[Value.ref b] zbelow zmeth zc 600000 7302250 zQ Hs X 4 Mn 689 [(0, Value.ref b), (1, vR X 0), (2, vR X 82), (3, vI i)] []) : J zp l ze room_1 zs zm #[Value.ref b] zbelow zmeth zc 600000 7302250 zQ Hs X 4 M 416 [(0, Value.ref b), (1, vR X 0), (2, vR X 82), (3, vI i)] [] := by
  have hX := F.2.2.2.2.2.2
  have hL := S.2.2.2
  refine j_aload_n (q := 417) F dL_law_416 rfl rfl 1 rfl ?_
  refine j_aload_s (q := 418) F dL_law_417 rfl rfl 0 rfl ?_
  refine j_iload_n (q := 419) F dL_law_418 rfl rfl 3 rfl ?_
  refine j_iconst (q := 420) F dL_law_419 rfl ?_
  refine j_iadd (q := 421) (z := i + 1) F dL_law_420 rfl rfl ?_
  refine j_sld (q := 422) F S (by omega) (by omega) dL_law_421 rfl ?_
  refine j_aload_s (q := 423) F dL_law_422 rfl rfl 0 rfl ?_
  refine j_iload_n (q := 424) F dL_law_423 rfl rfl 3 rfl ?_
  refine j_iconst (q := 425) F dL_law_424 rfl ?_
  refine j_iadd (q := 426) (z := i + 2) F dL_law_425 rfl rfl ?_
  refine j_sld (q := 427) F S (by omega) (by omega) dL_law_426 rfl ?_
  refine j_aload_s (q := 428) F dL_law_427 rfl rfl 0 rfl ?_
  refine j_iload_n (q := 429) F dL_law_428 rfl rfl 3 rfl ?_
  refine j_iconst (q := 430) F dL_law_429 rfl ?_
  refine j_iadd (q := 431) (z := i + 3) F dL_law_430 rfl rfl ?_
  refine j_sld (q := 432) F S (by omega) (by omega) dL_law_431 rfl ?_
  refine j_callVI (q := 435) F [vI ((xs (i + 1).toNat).toInt), vI ((xs (i + 2).toNat).toInt), vI ((xs (i + 3).toNat).toInt)] (ct_X6_gap l X hX M hI.1 ((xs (i + 1).toNat).toInt) (inR_self _) ((xs (i + 2).toNat).toInt) ((xs (i + 3).toNat).toInt) (inR_self _) (inR_self _)) gL_law_X6_gap rfl cdL_X6_gap ⟨Nat.le_of_ble_eq_true rfl, Nat.le_of_ble_eq_true rfl, Nat.le_of_ble_eq_true rfl, Nat.le_of_ble_eq_true rfl⟩ rfl rfl rfl rfl (Nat.le_of_ble_eq_true rfl) dL_law_432 rfl (fun r1 M1 h1 => ?_)
  refine j_aload_n (q := 436) F dL_law_435 rfl rfl 2 rfl ?_
  refine j_aload_s (q := 437) F dL_law_436 rfl rfl 0 rfl ?_
  refine j_iload_n (q := 438) F dL_law_437 rfl rfl 3 rfl ?_
  refine j_iconst (q := 439) F dL_law_438 rfl ?_
  refine j_iadd (q := 440) (z := i + 1) F dL_law_439 rfl rfl ?_
  refine j_sld (q := 441) F S (by omega) (by omega) dL_law_440 rfl ?_
  refine j_aload_s (q := 442) F dL_law_441 rfl rfl 0 rfl ?_
  refine j_iload_n (q := 443) F dL_law_442 rfl rfl 3 rfl ?_
  refine j_iconst (q := 444) F dL_law_443 rfl ?_
  refine j_iadd (q := 445) (z := i + 2) F dL_law_444 rfl rfl ?_
  refine j_sld (q := 446) F S (by omega) (by omega) dL_law_445 rfl ?_
  refine j_aload_s (q := 447) F dL_law_446 rfl rfl 0 rfl ?_
  refine j_iload_n (q := 448) F dL_law_447 rfl rfl 3 rfl ?_
  refine j_iconst (q := 449) F dL_law_448 rfl ?_
  refine j_iadd (q := 450) (z := i + 3) F dL_law_449 rfl rfl ?_
  refine j_sld (q := 451) F S (by omega) (by omega) dL_law_450 rfl ?_
  have hp := lpre hI h1.1
  refine j_callVI (q := 454) F [vI ((xs (i + 1).toNat).toInt), vI ((xs (i + 2).toNat).toInt), vI ((xs (i + 3).toNat).toInt)] (ct_X7_gap l X hX M1 hp.1 ((xs (i + 1).toNat).toInt) (inR_self _) ((xs (i + 2).toNat).toInt) (inR_self _) ((xs (i + 3).toNat).toInt) (inR_self _)) gL_law_X7_gap rfl cdL_X7_gap ⟨Nat.le_of_ble_eq_true rfl, Nat.le_of_ble_eq_true rfl, Nat.le_of_ble_eq_true rfl, Nat.le_of_ble_eq_true rfl⟩ rfl rfl rfl rfl (Nat.le_of_ble_eq_true rfl) dL_law_451 rfl (fun r2 M2 h2 => ?_)
  obtain ⟨he, hI2⟩ := law_pair (OP := fun M => Ogap M ((xs (i + 1).toNat).toInt) ((xs (i + 2).toNat).toInt) ((xs (i + 3).toNat).toInt)) (fun _ => rfl) hI h1 h2
  subst he
  exact j_eqself (tgt := 689) F dL_law_454 (by decide) (kk M2 hI2)
theorem cdL_X6_river : yX6_river.cls = RX6 ∧ yX6_river.cls ≠ "java/lang/invoke/MethodHandle" ∧ yX6_river.cls ≠ "java/lang/invoke/VarHandle" ∧ (parseMethodDescriptor yX6_river.desc).map (fun d => d.parameters.length) = some 2 := by decide +kernel
theorem cdL_X7_river : yX7_river.cls = RX7 ∧ yX7_river.cls ≠ "java/lang/invoke/MethodHandle" ∧ yX7_river.cls ≠ "java/lang/invoke/VarHandle" ∧ (parseMethodDescriptor yX7_river.desc).map (fun d => d.parameters.length) = some 2 := by decide +kernel
set_option maxRecDepth 100000 in
set_option maxHeartbeats 1000000 in
theorem lawc_13 {zp : Program} {l : Launch} {ze : Env} {zs : State} {zm : MethodId} {zbelow : List Frame} {zmeth : Method} {zc : Code} {zQ : State → Prop} {Hs : Heap} {X : Cx} {b L : Nat} {xs : Nat → Int32} (F : Fx zp zs zm #[Value.ref b] zc cL_law RL wsL_law 4 X) (S : LScr zs Hs X b L xs) {M : Mem} (hI : LInv M) (i : Int) (hi0 : 0 ≤ i) (hi1 : i + 4 ≤ (L : Int)) (kk : ∀ Mn, LInv Mn → J zp l ze room_1 zs zm #[Value.ref b] zbelow zmeth zc 600000 7302250 zQ Hs X 4 Mn 689 [(0, Value.ref b), (1, vR X 0), (2, vR X 82), (3, vI i)] []) : J zp l ze room_1 zs zm #[Value.ref b] zbelow zmeth zc 600000 7302250 zQ Hs X 4 M 459 [(0, Value.ref b), (1, vR X 0), (2, vR X 82), (3, vI i)] [] := by
  have hX := F.2.2.2.2.2.2
  have hL := S.2.2.2
  refine j_aload_n (q := 460) F dL_law_459 rfl rfl 1 rfl ?_
  refine j_aload_s (q := 461) F dL_law_460 rfl rfl 0 rfl ?_
  refine j_iload_n (q := 462) F dL_law_461 rfl rfl 3 rfl ?_
  refine j_iconst (q := 463) F dL_law_462 rfl ?_
  refine j_iadd (q := 464) (z := i + 1) F dL_law_463 rfl rfl ?_
  refine j_sld (q := 465) F S (by omega) (by omega) dL_law_464 rfl ?_
  refine j_aload_s (q := 466) F dL_law_465 rfl rfl 0 rfl ?_
  refine j_iload_n (q := 467) F dL_law_466 rfl rfl 3 rfl ?_
  refine j_iconst (q := 468) F dL_law_467 rfl ?_
  refine j_iadd (q := 469) (z := i + 2) F dL_law_468 rfl rfl ?_
  refine j_sld (q := 470) F S (by omega) (by omega) dL_law_469 rfl ?_
  refine j_callVI (q := 473) F [vI ((xs (i + 1).toNat).toInt), vI ((xs (i + 2).toNat).toInt)] (ct_X6_river l X hX M hI.1 ((xs (i + 1).toNat).toInt) ((xs (i + 2).toNat).toInt) (inR_self _) (inR_self _)) gL_law_X6_river rfl cdL_X6_river ⟨Nat.le_of_ble_eq_true rfl, Nat.le_of_ble_eq_true rfl, Nat.le_of_ble_eq_true rfl, Nat.le_of_ble_eq_true rfl⟩ rfl rfl rfl rfl (Nat.le_of_ble_eq_true rfl) dL_law_470 rfl (fun r1 M1 h1 => ?_)
  refine j_aload_n (q := 474) F dL_law_473 rfl rfl 2 rfl ?_
  refine j_aload_s (q := 475) F dL_law_474 rfl rfl 0 rfl ?_
  refine j_iload_n (q := 476) F dL_law_475 rfl rfl 3 rfl ?_
  refine j_iconst (q := 477) F dL_law_476 rfl ?_
  refine j_iadd (q := 478) (z := i + 1) F dL_law_477 rfl rfl ?_
  refine j_sld (q := 479) F S (by omega) (by omega) dL_law_478 rfl ?_
  refine j_aload_s (q := 480) F dL_law_479 rfl rfl 0 rfl ?_
  refine j_iload_n (q := 481) F dL_law_480 rfl rfl 3 rfl ?_
  refine j_iconst (q := 482) F dL_law_481 rfl ?_
  refine j_iadd (q := 483) (z := i + 2) F dL_law_482 rfl rfl ?_
  refine j_sld (q := 484) F S (by omega) (by omega) dL_law_483 rfl ?_
  have hp := lpre hI h1.1
  refine j_callVI (q := 487) F [vI ((xs (i + 1).toNat).toInt), vI ((xs (i + 2).toNat).toInt)] (ct_X7_river l X hX M1 hp.1 ((xs (i + 1).toNat).toInt) (inR_self _) ((xs (i + 2).toNat).toInt) (inR_self _)) gL_law_X7_river rfl cdL_X7_river ⟨Nat.le_of_ble_eq_true rfl, Nat.le_of_ble_eq_true rfl, Nat.le_of_ble_eq_true rfl, Nat.le_of_ble_eq_true rfl⟩ rfl rfl rfl rfl (Nat.le_of_ble_eq_true rfl) dL_law_484 rfl (fun r2 M2 h2 => ?_)
  obtain ⟨he, hI2⟩ := law_pair (OP := fun M => Oriver M ((xs (i + 1).toNat).toInt) ((xs (i + 2).toNat).toInt)) (fun _ => rfl) hI h1 h2
  subst he
  exact j_eqself (tgt := 689) F dL_law_487 (by decide) (kk M2 hI2)
theorem cdL_X6_at : yX6_at.cls = RX6 ∧ yX6_at.cls ≠ "java/lang/invoke/MethodHandle" ∧ yX6_at.cls ≠ "java/lang/invoke/VarHandle" ∧ (parseMethodDescriptor yX6_at.desc).map (fun d => d.parameters.length) = some 2 := by decide +kernel
theorem cdL_X7_at : yX7_at.cls = RX7 ∧ yX7_at.cls ≠ "java/lang/invoke/MethodHandle" ∧ yX7_at.cls ≠ "java/lang/invoke/VarHandle" ∧ (parseMethodDescriptor yX7_at.desc).map (fun d => d.parameters.length) = some 2 := by decide +kernel
set_option maxRecDepth 100000 in
set_option maxHeartbeats 1000000 in
theorem lawc_14 {zp : Program} {l : Launch} {ze : Env} {zs : State} {zm : MethodId} {zbelow : List Frame} {zmeth : Method} {zc : Code} {zQ : State → Prop} {Hs : Heap} {X : Cx} {b L : Nat} {xs : Nat → Int32} (F : Fx zp zs zm #[Value.ref b] zc cL_law RL wsL_law 4 X) (S : LScr zs Hs X b L xs) {M : Mem} (hI : LInv M) (i : Int) (hi0 : 0 ≤ i) (hi1 : i + 4 ≤ (L : Int)) (kk : ∀ Mn, LInv Mn → J zp l ze room_1 zs zm #[Value.ref b] zbelow zmeth zc 600000 7302250 zQ Hs X 4 Mn 689 [(0, Value.ref b), (1, vR X 0), (2, vR X 82), (3, vI i)] []) : J zp l ze room_1 zs zm #[Value.ref b] zbelow zmeth zc 600000 7302250 zQ Hs X 4 M 492 [(0, Value.ref b), (1, vR X 0), (2, vR X 82), (3, vI i)] [] := by
  have hX := F.2.2.2.2.2.2
  have hL := S.2.2.2
  refine j_aload_n (q := 493) F dL_law_492 rfl rfl 1 rfl ?_
  refine j_aload_s (q := 494) F dL_law_493 rfl rfl 0 rfl ?_
  refine j_iload_n (q := 495) F dL_law_494 rfl rfl 3 rfl ?_
  refine j_iconst (q := 496) F dL_law_495 rfl ?_
  refine j_iadd (q := 497) (z := i + 1) F dL_law_496 rfl rfl ?_
  refine j_sld (q := 498) F S (by omega) (by omega) dL_law_497 rfl ?_
  refine j_aload_s (q := 499) F dL_law_498 rfl rfl 0 rfl ?_
  refine j_iload_n (q := 500) F dL_law_499 rfl rfl 3 rfl ?_
  refine j_iconst (q := 501) F dL_law_500 rfl ?_
  refine j_iadd (q := 502) (z := i + 2) F dL_law_501 rfl rfl ?_
  refine j_sld (q := 503) F S (by omega) (by omega) dL_law_502 rfl ?_
  refine j_callVI (q := 506) F [vI ((xs (i + 1).toNat).toInt), vI ((xs (i + 2).toNat).toInt)] (ct_X6_at l X hX M hI.1 ((xs (i + 1).toNat).toInt) (inR_self _) ((xs (i + 2).toNat).toInt) (inR_self _)) gL_law_X6_at rfl cdL_X6_at ⟨Nat.le_of_ble_eq_true rfl, Nat.le_of_ble_eq_true rfl, Nat.le_of_ble_eq_true rfl, Nat.le_of_ble_eq_true rfl⟩ rfl rfl rfl rfl (Nat.le_of_ble_eq_true rfl) dL_law_503 rfl (fun r1 M1 h1 => ?_)
  refine j_aload_n (q := 507) F dL_law_506 rfl rfl 2 rfl ?_
  refine j_aload_s (q := 508) F dL_law_507 rfl rfl 0 rfl ?_
  refine j_iload_n (q := 509) F dL_law_508 rfl rfl 3 rfl ?_
  refine j_iconst (q := 510) F dL_law_509 rfl ?_
  refine j_iadd (q := 511) (z := i + 1) F dL_law_510 rfl rfl ?_
  refine j_sld (q := 512) F S (by omega) (by omega) dL_law_511 rfl ?_
  refine j_aload_s (q := 513) F dL_law_512 rfl rfl 0 rfl ?_
  refine j_iload_n (q := 514) F dL_law_513 rfl rfl 3 rfl ?_
  refine j_iconst (q := 515) F dL_law_514 rfl ?_
  refine j_iadd (q := 516) (z := i + 2) F dL_law_515 rfl rfl ?_
  refine j_sld (q := 517) F S (by omega) (by omega) dL_law_516 rfl ?_
  have hp := lpre hI h1.1
  refine j_callVI (q := 520) F [vI ((xs (i + 1).toNat).toInt), vI ((xs (i + 2).toNat).toInt)] (ct_X7_at l X hX M1 hp.1 ((xs (i + 1).toNat).toInt) (inR_self _) ((xs (i + 2).toNat).toInt) (inR_self _)) gL_law_X7_at rfl cdL_X7_at ⟨Nat.le_of_ble_eq_true rfl, Nat.le_of_ble_eq_true rfl, Nat.le_of_ble_eq_true rfl, Nat.le_of_ble_eq_true rfl⟩ rfl rfl rfl rfl (Nat.le_of_ble_eq_true rfl) dL_law_517 rfl (fun r2 M2 h2 => ?_)
  obtain ⟨he, hI2⟩ := law_pair (OP := fun M => Oat M ((xs (i + 1).toNat).toInt) ((xs (i + 2).toNat).toInt)) (fun _ => rfl) hI h1 h2
  subst he
  exact j_eqself (tgt := 689) F dL_law_520 (by decide) (kk M2 hI2)
theorem cdL_X6_plan : yX6_plan.cls = RX6 ∧ yX6_plan.cls ≠ "java/lang/invoke/MethodHandle" ∧ yX6_plan.cls ≠ "java/lang/invoke/VarHandle" ∧ (parseMethodDescriptor yX6_plan.desc).map (fun d => d.parameters.length) = some 2 := by decide +kernel
theorem cdL_X7_plan : yX7_plan.cls = RX7 ∧ yX7_plan.cls ≠ "java/lang/invoke/MethodHandle" ∧ yX7_plan.cls ≠ "java/lang/invoke/VarHandle" ∧ (parseMethodDescriptor yX7_plan.desc).map (fun d => d.parameters.length) = some 2 := by decide +kernel
set_option maxRecDepth 100000 in
set_option maxHeartbeats 1000000 in
theorem lawc_15 {zp : Program} {l : Launch} {ze : Env} {zs : State} {zm : MethodId} {zbelow : List Frame} {zmeth : Method} {zc : Code} {zQ : State → Prop} {Hs : Heap} {X : Cx} {b L : Nat} {xs : Nat → Int32} (F : Fx zp zs zm #[Value.ref b] zc cL_law RL wsL_law 4 X) (S : LScr zs Hs X b L xs) {M : Mem} (hI : LInv M) (i : Int) (hi0 : 0 ≤ i) (hi1 : i + 4 ≤ (L : Int)) (kk : ∀ Mn, LInv Mn → J zp l ze room_1 zs zm #[Value.ref b] zbelow zmeth zc 600000 7302250 zQ Hs X 4 Mn 689 [(0, Value.ref b), (1, vR X 0), (2, vR X 82), (3, vI i)] []) : J zp l ze room_1 zs zm #[Value.ref b] zbelow zmeth zc 600000 7302250 zQ Hs X 4 M 525 [(0, Value.ref b), (1, vR X 0), (2, vR X 82), (3, vI i)] [] := by
  have hX := F.2.2.2.2.2.2
  have hL := S.2.2.2
  refine j_aload_n (q := 526) F dL_law_525 rfl rfl 1 rfl ?_
  refine j_aload_s (q := 527) F dL_law_526 rfl rfl 0 rfl ?_
  refine j_iload_n (q := 528) F dL_law_527 rfl rfl 3 rfl ?_
  refine j_iconst (q := 529) F dL_law_528 rfl ?_
  refine j_iadd (q := 530) (z := i + 1) F dL_law_529 rfl rfl ?_
  refine j_sld (q := 531) F S (by omega) (by omega) dL_law_530 rfl ?_
  refine j_aload_s (q := 532) F dL_law_531 rfl rfl 0 rfl ?_
  refine j_iload_n (q := 533) F dL_law_532 rfl rfl 3 rfl ?_
  refine j_iconst (q := 534) F dL_law_533 rfl ?_
  refine j_iadd (q := 535) (z := i + 2) F dL_law_534 rfl rfl ?_
  refine j_sld (q := 536) F S (by omega) (by omega) dL_law_535 rfl ?_
  refine j_callVI (q := 539) F [vI ((xs (i + 1).toNat).toInt), vI ((xs (i + 2).toNat).toInt)] (ct_X6_plan l X hX M hI.1 ((xs (i + 1).toNat).toInt) ((xs (i + 2).toNat).toInt) (inR_self _) (inR_self _)) gL_law_X6_plan rfl cdL_X6_plan ⟨Nat.le_of_ble_eq_true rfl, Nat.le_of_ble_eq_true rfl, Nat.le_of_ble_eq_true rfl, Nat.le_of_ble_eq_true rfl⟩ rfl rfl rfl rfl (Nat.le_of_ble_eq_true rfl) dL_law_536 rfl (fun r1 M1 h1 => ?_)
  refine j_aload_n (q := 540) F dL_law_539 rfl rfl 2 rfl ?_
  refine j_aload_s (q := 541) F dL_law_540 rfl rfl 0 rfl ?_
  refine j_iload_n (q := 542) F dL_law_541 rfl rfl 3 rfl ?_
  refine j_iconst (q := 543) F dL_law_542 rfl ?_
  refine j_iadd (q := 544) (z := i + 1) F dL_law_543 rfl rfl ?_
  refine j_sld (q := 545) F S (by omega) (by omega) dL_law_544 rfl ?_
  refine j_aload_s (q := 546) F dL_law_545 rfl rfl 0 rfl ?_
  refine j_iload_n (q := 547) F dL_law_546 rfl rfl 3 rfl ?_
  refine j_iconst (q := 548) F dL_law_547 rfl ?_
  refine j_iadd (q := 549) (z := i + 2) F dL_law_548 rfl rfl ?_
  refine j_sld (q := 550) F S (by omega) (by omega) dL_law_549 rfl ?_
  have hp := lpre hI h1.1
  refine j_callVI (q := 553) F [vI ((xs (i + 1).toNat).toInt), vI ((xs (i + 2).toNat).toInt)] (ct_X7_plan l X hX M1 hp.1 hp.2.2.2.2 ((xs (i + 1).toNat).toInt) (inR_self _) ((xs (i + 2).toNat).toInt) (inR_self _)) gL_law_X7_plan rfl cdL_X7_plan ⟨Nat.le_of_ble_eq_true rfl, Nat.le_of_ble_eq_true rfl, Nat.le_of_ble_eq_true rfl, Nat.le_of_ble_eq_true rfl⟩ rfl rfl rfl rfl (Nat.le_of_ble_eq_true rfl) dL_law_550 rfl (fun r2 M2 h2 => ?_)
  obtain ⟨he, hI2⟩ := law_pair (OP := fun M => Oplan M ((xs (i + 1).toNat).toInt) ((xs (i + 2).toNat).toInt)) (fun _ => rfl) hI h1 h2
  subst he
  exact j_eqself (tgt := 689) F dL_law_553 (by decide) (kk M2 hI2)
