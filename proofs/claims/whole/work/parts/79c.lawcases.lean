theorem cdL_X6_planned : yX6_planned.cls = RX6 ∧ yX6_planned.cls ≠ "java/lang/invoke/MethodHandle" ∧ yX6_planned.cls ≠ "java/lang/invoke/VarHandle" ∧ (parseMethodDescriptor yX6_planned.desc).map (fun d => d.parameters.length) = some 2 := by decide +kernel
theorem cdL_X7_planned : yX7_planned.cls = RX7 ∧ yX7_planned.cls ≠ "java/lang/invoke/MethodHandle" ∧ yX7_planned.cls ≠ "java/lang/invoke/VarHandle" ∧ (parseMethodDescriptor yX7_planned.desc).map (fun d => d.parameters.length) = some 2 := by decide +kernel
set_option maxRecDepth 100000 in
set_option maxHeartbeats 1000000 in
theorem lawc_16 {zp : Program} {l : Launch} {ze : Env} {zs : State} {zm : MethodId} {zbelow : List Frame} {zmeth : Method} {zc : Code} {zQ : State → Prop} {Hs : Heap} {X : Cx} {b L : Nat} {xs : Nat → Int32} (F : Fx zp zs zm #[Value.ref b] zc cL_law RL wsL_law 4 X) (S : LScr zs Hs X b L xs) {M : Mem} (hI : LInv M) (i : Int) (hi0 : 0 ≤ i) (hi1 : i + 4 ≤ (L : Int)) (kk : ∀ Mn, LInv Mn → J zp l ze room_1 zs zm #[Value.ref b] zbelow zmeth zc 600000 7302250 zQ Hs X 4 Mn 689 [(0, Value.ref b), (1, vR X 0), (2, vR X 82), (3, vI i)] []) : J zp l ze room_1 zs zm #[Value.ref b] zbelow zmeth zc 600000 7302250 zQ Hs X 4 M 558 [(0, Value.ref b), (1, vR X 0), (2, vR X 82), (3, vI i)] [] := by
  have hX := F.2.2.2.2.2.2
  have hL := S.2.2.2
  refine j_aload_n (q := 559) F dL_law_558 rfl rfl 1 rfl ?_
  refine j_aload_s (q := 560) F dL_law_559 rfl rfl 0 rfl ?_
  refine j_iload_n (q := 561) F dL_law_560 rfl rfl 3 rfl ?_
  refine j_iconst (q := 562) F dL_law_561 rfl ?_
  refine j_iadd (q := 563) (z := i + 1) F dL_law_562 rfl rfl ?_
  refine j_sld (q := 564) F S (by omega) (by omega) dL_law_563 rfl ?_
  refine j_aload_s (q := 565) F dL_law_564 rfl rfl 0 rfl ?_
  refine j_iload_n (q := 566) F dL_law_565 rfl rfl 3 rfl ?_
  refine j_iconst (q := 567) F dL_law_566 rfl ?_
  refine j_iadd (q := 568) (z := i + 2) F dL_law_567 rfl rfl ?_
  refine j_sld (q := 569) F S (by omega) (by omega) dL_law_568 rfl ?_
  refine j_callVI (q := 572) F [vI ((xs (i + 1).toNat).toInt), vI ((xs (i + 2).toNat).toInt)] (ct_X6_planned l X hX M hI.1 ((xs (i + 1).toNat).toInt) ((xs (i + 2).toNat).toInt) (inR_self _) (inR_self _)) gL_law_X6_planned rfl cdL_X6_planned ⟨Nat.le_of_ble_eq_true rfl, Nat.le_of_ble_eq_true rfl, Nat.le_of_ble_eq_true rfl, Nat.le_of_ble_eq_true rfl⟩ rfl rfl rfl rfl (Nat.le_of_ble_eq_true rfl) dL_law_569 rfl (fun r1 M1 h1 => ?_)
  refine j_aload_n (q := 573) F dL_law_572 rfl rfl 2 rfl ?_
  refine j_aload_s (q := 574) F dL_law_573 rfl rfl 0 rfl ?_
  refine j_iload_n (q := 575) F dL_law_574 rfl rfl 3 rfl ?_
  refine j_iconst (q := 576) F dL_law_575 rfl ?_
  refine j_iadd (q := 577) (z := i + 1) F dL_law_576 rfl rfl ?_
  refine j_sld (q := 578) F S (by omega) (by omega) dL_law_577 rfl ?_
  refine j_aload_s (q := 579) F dL_law_578 rfl rfl 0 rfl ?_
  refine j_iload_n (q := 580) F dL_law_579 rfl rfl 3 rfl ?_
  refine j_iconst (q := 581) F dL_law_580 rfl ?_
  refine j_iadd (q := 582) (z := i + 2) F dL_law_581 rfl rfl ?_
  refine j_sld (q := 583) F S (by omega) (by omega) dL_law_582 rfl ?_
  have hp := lpre hI h1.1
  refine j_callVI (q := 586) F [vI ((xs (i + 1).toNat).toInt), vI ((xs (i + 2).toNat).toInt)] (ct_X7_planned l X hX M1 hp.1 hp.2.2.2.2 ((xs (i + 1).toNat).toInt) (inR_self _) ((xs (i + 2).toNat).toInt) (inR_self _)) gL_law_X7_planned rfl cdL_X7_planned ⟨Nat.le_of_ble_eq_true rfl, Nat.le_of_ble_eq_true rfl, Nat.le_of_ble_eq_true rfl, Nat.le_of_ble_eq_true rfl⟩ rfl rfl rfl rfl (Nat.le_of_ble_eq_true rfl) dL_law_583 rfl (fun r2 M2 h2 => ?_)
  obtain ⟨he, hI2⟩ := law_pair (OP := fun M => Oplanned M ((xs (i + 1).toNat).toInt) ((xs (i + 2).toNat).toInt)) (fun _ => rfl) hI h1 h2
  subst he
  exact j_eqself (tgt := 689) F dL_law_586 (by decide) (kk M2 hI2)
theorem cdL_X6_dam : yX6_dam.cls = RX6 ∧ yX6_dam.cls ≠ "java/lang/invoke/MethodHandle" ∧ yX6_dam.cls ≠ "java/lang/invoke/VarHandle" ∧ (parseMethodDescriptor yX6_dam.desc).map (fun d => d.parameters.length) = some 1 := by decide +kernel
theorem cdL_X7_dam : yX7_dam.cls = RX7 ∧ yX7_dam.cls ≠ "java/lang/invoke/MethodHandle" ∧ yX7_dam.cls ≠ "java/lang/invoke/VarHandle" ∧ (parseMethodDescriptor yX7_dam.desc).map (fun d => d.parameters.length) = some 1 := by decide +kernel
set_option maxRecDepth 100000 in
set_option maxHeartbeats 1000000 in
theorem lawc_17 {zp : Program} {l : Launch} {ze : Env} {zs : State} {zm : MethodId} {zbelow : List Frame} {zmeth : Method} {zc : Code} {zQ : State → Prop} {Hs : Heap} {X : Cx} {b L : Nat} {xs : Nat → Int32} (F : Fx zp zs zm #[Value.ref b] zc cL_law RL wsL_law 4 X) (S : LScr zs Hs X b L xs) {M : Mem} (hI : LInv M) (i : Int) (hi0 : 0 ≤ i) (hi1 : i + 4 ≤ (L : Int)) (kk : ∀ Mn, LInv Mn → J zp l ze room_1 zs zm #[Value.ref b] zbelow zmeth zc 600000 7302250 zQ Hs X 4 Mn 689 [(0, Value.ref b), (1, vR X 0), (2, vR X 82), (3, vI i)] []) : J zp l ze room_1 zs zm #[Value.ref b] zbelow zmeth zc 600000 7302250 zQ Hs X 4 M 591 [(0, Value.ref b), (1, vR X 0), (2, vR X 82), (3, vI i)] [] := by
  have hX := F.2.2.2.2.2.2
  have hL := S.2.2.2
  refine j_aload_n (q := 592) F dL_law_591 rfl rfl 1 rfl ?_
  refine j_aload_s (q := 593) F dL_law_592 rfl rfl 0 rfl ?_
  refine j_iload_n (q := 594) F dL_law_593 rfl rfl 3 rfl ?_
  refine j_iconst (q := 595) F dL_law_594 rfl ?_
  refine j_iadd (q := 596) (z := i + 1) F dL_law_595 rfl rfl ?_
  refine j_sld (q := 597) F S (by omega) (by omega) dL_law_596 rfl ?_
  refine j_callVI (q := 600) F [vI ((xs (i + 1).toNat).toInt)] (ct_X6_dam l X hX M hI.1 ((xs (i + 1).toNat).toInt) (inR_self _)) gL_law_X6_dam rfl cdL_X6_dam ⟨Nat.le_of_ble_eq_true rfl, Nat.le_of_ble_eq_true rfl, Nat.le_of_ble_eq_true rfl, Nat.le_of_ble_eq_true rfl⟩ rfl rfl rfl rfl (Nat.le_of_ble_eq_true rfl) dL_law_597 rfl (fun r1 M1 h1 => ?_)
  refine j_aload_n (q := 601) F dL_law_600 rfl rfl 2 rfl ?_
  refine j_aload_s (q := 602) F dL_law_601 rfl rfl 0 rfl ?_
  refine j_iload_n (q := 603) F dL_law_602 rfl rfl 3 rfl ?_
  refine j_iconst (q := 604) F dL_law_603 rfl ?_
  refine j_iadd (q := 605) (z := i + 1) F dL_law_604 rfl rfl ?_
  refine j_sld (q := 606) F S (by omega) (by omega) dL_law_605 rfl ?_
  have hp := lpre hI h1.1
  refine j_callVI (q := 609) F [vI ((xs (i + 1).toNat).toInt)] (ct_X7_dam l X hX M1 hp.1 hp.2.1 hp.2.2.2.2 ((xs (i + 1).toNat).toInt) (inR_self _)) gL_law_X7_dam rfl cdL_X7_dam ⟨Nat.le_of_ble_eq_true rfl, Nat.le_of_ble_eq_true rfl, Nat.le_of_ble_eq_true rfl, Nat.le_of_ble_eq_true rfl⟩ rfl rfl rfl rfl (Nat.le_of_ble_eq_true rfl) dL_law_606 rfl (fun r2 M2 h2 => ?_)
  obtain ⟨he, hI2⟩ := law_pair (OP := fun M => Odam M ((xs (i + 1).toNat).toInt)) (fun _ => rfl) hI h1 h2
  subst he
  exact j_eqself (tgt := 689) F dL_law_609 (by decide) (kk M2 hI2)
theorem cdL_X6_leastRiver : yX6_leastRiver.cls = RX6 ∧ yX6_leastRiver.cls ≠ "java/lang/invoke/MethodHandle" ∧ yX6_leastRiver.cls ≠ "java/lang/invoke/VarHandle" ∧ (parseMethodDescriptor yX6_leastRiver.desc).map (fun d => d.parameters.length) = some 0 := by decide +kernel
theorem cdL_X7_leastRiver : yX7_leastRiver.cls = RX7 ∧ yX7_leastRiver.cls ≠ "java/lang/invoke/MethodHandle" ∧ yX7_leastRiver.cls ≠ "java/lang/invoke/VarHandle" ∧ (parseMethodDescriptor yX7_leastRiver.desc).map (fun d => d.parameters.length) = some 0 := by decide +kernel
set_option maxRecDepth 100000 in
set_option maxHeartbeats 1000000 in
theorem lawc_18 {zp : Program} {l : Launch} {ze : Env} {zs : State} {zm : MethodId} {zbelow : List Frame} {zmeth : Method} {zc : Code} {zQ : State → Prop} {Hs : Heap} {X : Cx} {b L : Nat} {xs : Nat → Int32} (F : Fx zp zs zm #[Value.ref b] zc cL_law RL wsL_law 4 X) (S : LScr zs Hs X b L xs) {M : Mem} (hI : LInv M) (i : Int) (hi0 : 0 ≤ i) (hi1 : i + 4 ≤ (L : Int)) (kk : ∀ Mn, LInv Mn → J zp l ze room_1 zs zm #[Value.ref b] zbelow zmeth zc 600000 7302250 zQ Hs X 4 Mn 689 [(0, Value.ref b), (1, vR X 0), (2, vR X 82), (3, vI i)] []) : J zp l ze room_1 zs zm #[Value.ref b] zbelow zmeth zc 600000 7302250 zQ Hs X 4 M 614 [(0, Value.ref b), (1, vR X 0), (2, vR X 82), (3, vI i)] [] := by
  have hX := F.2.2.2.2.2.2
  have hL := S.2.2.2
  refine j_aload_n (q := 615) F dL_law_614 rfl rfl 1 rfl ?_
  refine j_callVI (q := 618) F [] (ct_X6_leastRiver l X hX M hI.1) gL_law_X6_leastRiver rfl cdL_X6_leastRiver ⟨Nat.le_of_ble_eq_true rfl, Nat.le_of_ble_eq_true rfl, Nat.le_of_ble_eq_true rfl, Nat.le_of_ble_eq_true rfl⟩ rfl rfl rfl rfl (Nat.le_of_ble_eq_true rfl) dL_law_615 rfl (fun r1 M1 h1 => ?_)
  refine j_aload_n (q := 619) F dL_law_618 rfl rfl 2 rfl ?_
  have hp := lpre hI h1.1
  refine j_callVI (q := 622) F [] (ct_X7_leastRiver l X hX M1 hp.1 hp.2.2.2.2) gL_law_X7_leastRiver rfl cdL_X7_leastRiver ⟨Nat.le_of_ble_eq_true rfl, Nat.le_of_ble_eq_true rfl, Nat.le_of_ble_eq_true rfl, Nat.le_of_ble_eq_true rfl⟩ rfl rfl rfl rfl (Nat.le_of_ble_eq_true rfl) dL_law_619 rfl (fun r2 M2 h2 => ?_)
  obtain ⟨he, hI2⟩ := law_pair (OP := fun M => Oleast M) (fun _ => rfl) hI h1 h2
  subst he
  exact j_eqself (tgt := 689) F dL_law_622 (by decide) (kk M2 hI2)
theorem cdL_X6_type : yX6_type.cls = RX6 ∧ yX6_type.cls ≠ "java/lang/invoke/MethodHandle" ∧ yX6_type.cls ≠ "java/lang/invoke/VarHandle" ∧ (parseMethodDescriptor yX6_type.desc).map (fun d => d.parameters.length) = some 1 := by decide +kernel
theorem cdL_X7_type : yX7_type.cls = RX7 ∧ yX7_type.cls ≠ "java/lang/invoke/MethodHandle" ∧ yX7_type.cls ≠ "java/lang/invoke/VarHandle" ∧ (parseMethodDescriptor yX7_type.desc).map (fun d => d.parameters.length) = some 1 := by decide +kernel
set_option maxRecDepth 100000 in
set_option maxHeartbeats 1000000 in
theorem lawc_19 {zp : Program} {l : Launch} {ze : Env} {zs : State} {zm : MethodId} {zbelow : List Frame} {zmeth : Method} {zc : Code} {zQ : State → Prop} {Hs : Heap} {X : Cx} {b L : Nat} {xs : Nat → Int32} (F : Fx zp zs zm #[Value.ref b] zc cL_law RL wsL_law 4 X) (S : LScr zs Hs X b L xs) {M : Mem} (hI : LInv M) (i : Int) (hi0 : 0 ≤ i) (hi1 : i + 4 ≤ (L : Int)) (kk : ∀ Mn, LInv Mn → J zp l ze room_1 zs zm #[Value.ref b] zbelow zmeth zc 600000 7302250 zQ Hs X 4 Mn 689 [(0, Value.ref b), (1, vR X 0), (2, vR X 82), (3, vI i)] []) : J zp l ze room_1 zs zm #[Value.ref b] zbelow zmeth zc 600000 7302250 zQ Hs X 4 M 627 [(0, Value.ref b), (1, vR X 0), (2, vR X 82), (3, vI i)] [] := by
  have hX := F.2.2.2.2.2.2
  have hL := S.2.2.2
  refine j_aload_n (q := 628) F dL_law_627 rfl rfl 1 rfl ?_
  refine j_aload_s (q := 629) F dL_law_628 rfl rfl 0 rfl ?_
  refine j_iload_n (q := 630) F dL_law_629 rfl rfl 3 rfl ?_
  refine j_iconst (q := 631) F dL_law_630 rfl ?_
  refine j_iadd (q := 632) (z := i + 1) F dL_law_631 rfl rfl ?_
  refine j_sld (q := 633) F S (by omega) (by omega) dL_law_632 rfl ?_
  refine j_callVI (q := 636) F [vI ((xs (i + 1).toNat).toInt)] (ct_X6_type l X hX M hI.1 ((xs (i + 1).toNat).toInt) (inR_self _)) gL_law_X6_type rfl cdL_X6_type ⟨Nat.le_of_ble_eq_true rfl, Nat.le_of_ble_eq_true rfl, Nat.le_of_ble_eq_true rfl, Nat.le_of_ble_eq_true rfl⟩ rfl rfl rfl rfl (Nat.le_of_ble_eq_true rfl) dL_law_633 rfl (fun r1 M1 h1 => ?_)
  refine j_aload_n (q := 637) F dL_law_636 rfl rfl 2 rfl ?_
  refine j_aload_s (q := 638) F dL_law_637 rfl rfl 0 rfl ?_
  refine j_iload_n (q := 639) F dL_law_638 rfl rfl 3 rfl ?_
  refine j_iconst (q := 640) F dL_law_639 rfl ?_
  refine j_iadd (q := 641) (z := i + 1) F dL_law_640 rfl rfl ?_
  refine j_sld (q := 642) F S (by omega) (by omega) dL_law_641 rfl ?_
  have hp := lpre hI h1.1
  refine j_callVI (q := 645) F [vI ((xs (i + 1).toNat).toInt)] (ct_X7_type l X hX M1 hp.2.2.1 hp.2.2.2.1 ((xs (i + 1).toNat).toInt) (inR_self _)) gL_law_X7_type rfl cdL_X7_type ⟨Nat.le_of_ble_eq_true rfl, Nat.le_of_ble_eq_true rfl, Nat.le_of_ble_eq_true rfl, Nat.le_of_ble_eq_true rfl⟩ rfl rfl rfl rfl (Nat.le_of_ble_eq_true rfl) dL_law_642 rfl (fun r2 M2 h2 => ?_)
  obtain ⟨he, hI2⟩ := law_pair (OP := fun M => Otype M ((xs (i + 1).toNat).toInt)) (fun _ => rfl) hI h1 h2
  subst he
  exact j_eqself (tgt := 689) F dL_law_645 (by decide) (kk M2 hI2)
theorem cdL_X6_clearText : yX6_clearText.cls = RX6 ∧ yX6_clearText.cls ≠ "java/lang/invoke/MethodHandle" ∧ yX6_clearText.cls ≠ "java/lang/invoke/VarHandle" ∧ (parseMethodDescriptor yX6_clearText.desc).map (fun d => d.parameters.length) = some 0 := by decide +kernel
theorem cdL_X7_clearText : yX7_clearText.cls = RX7 ∧ yX7_clearText.cls ≠ "java/lang/invoke/MethodHandle" ∧ yX7_clearText.cls ≠ "java/lang/invoke/VarHandle" ∧ (parseMethodDescriptor yX7_clearText.desc).map (fun d => d.parameters.length) = some 0 := by decide +kernel
set_option maxRecDepth 100000 in
set_option maxHeartbeats 1000000 in
theorem lawc_20 {zp : Program} {l : Launch} {ze : Env} {zs : State} {zm : MethodId} {zbelow : List Frame} {zmeth : Method} {zc : Code} {zQ : State → Prop} {Hs : Heap} {X : Cx} {b L : Nat} {xs : Nat → Int32} (F : Fx zp zs zm #[Value.ref b] zc cL_law RL wsL_law 4 X) (S : LScr zs Hs X b L xs) {M : Mem} (hI : LInv M) (i : Int) (hi0 : 0 ≤ i) (hi1 : i + 4 ≤ (L : Int)) (kk : ∀ Mn, LInv Mn → J zp l ze room_1 zs zm #[Value.ref b] zbelow zmeth zc 600000 7302250 zQ Hs X 4 Mn 689 [(0, Value.ref b), (1, vR X 0), (2, vR X 82), (3, vI i)] []) : J zp l ze room_1 zs zm #[Value.ref b] zbelow zmeth zc 600000 7302250 zQ Hs X 4 M 650 [(0, Value.ref b), (1, vR X 0), (2, vR X 82), (3, vI i)] [] := by
  have hX := F.2.2.2.2.2.2
  have hL := S.2.2.2
  refine j_aload_n (q := 651) F dL_law_650 rfl rfl 1 rfl ?_
  refine j_callVI (q := 654) F [] (ct_X6_clearText l X hX M hI.1) gL_law_X6_clearText rfl cdL_X6_clearText ⟨Nat.le_of_ble_eq_true rfl, Nat.le_of_ble_eq_true rfl, Nat.le_of_ble_eq_true rfl, Nat.le_of_ble_eq_true rfl⟩ rfl rfl rfl rfl (Nat.le_of_ble_eq_true rfl) dL_law_651 rfl (fun r1 M1 h1 => ?_)
  refine j_aload_n (q := 655) F dL_law_654 rfl rfl 2 rfl ?_
  have hp := lpre hI h1.1
  refine j_callVI (q := 658) F [] (ct_X7_clearText l X hX M1 hp.2.2.1 hp.2.2.2.1) gL_law_X7_clearText rfl cdL_X7_clearText ⟨Nat.le_of_ble_eq_true rfl, Nat.le_of_ble_eq_true rfl, Nat.le_of_ble_eq_true rfl, Nat.le_of_ble_eq_true rfl⟩ rfl rfl rfl rfl (Nat.le_of_ble_eq_true rfl) dL_law_655 rfl (fun r2 M2 h2 => ?_)
  obtain ⟨he, hI2⟩ := law_pair (OP := fun M => Oclear M) (fun _ => rfl) hI h1 h2
  subst he
  exact j_eqself (tgt := 689) F dL_law_658 (by decide) (kk M2 hI2)
theorem cdL_X6_fault : yX6_fault.cls = RX6 ∧ yX6_fault.cls ≠ "java/lang/invoke/MethodHandle" ∧ yX6_fault.cls ≠ "java/lang/invoke/VarHandle" ∧ (parseMethodDescriptor yX6_fault.desc).map (fun d => d.parameters.length) = some 0 := by decide +kernel
theorem cdL_X7_fault : yX7_fault.cls = RX7 ∧ yX7_fault.cls ≠ "java/lang/invoke/MethodHandle" ∧ yX7_fault.cls ≠ "java/lang/invoke/VarHandle" ∧ (parseMethodDescriptor yX7_fault.desc).map (fun d => d.parameters.length) = some 0 := by decide +kernel
set_option maxRecDepth 100000 in
set_option maxHeartbeats 1000000 in
theorem lawc_21 {zp : Program} {l : Launch} {ze : Env} {zs : State} {zm : MethodId} {zbelow : List Frame} {zmeth : Method} {zc : Code} {zQ : State → Prop} {Hs : Heap} {X : Cx} {b L : Nat} {xs : Nat → Int32} (F : Fx zp zs zm #[Value.ref b] zc cL_law RL wsL_law 4 X) (S : LScr zs Hs X b L xs) {M : Mem} (hI : LInv M) (i : Int) (hi0 : 0 ≤ i) (hi1 : i + 4 ≤ (L : Int)) (kk : ∀ Mn, LInv Mn → J zp l ze room_1 zs zm #[Value.ref b] zbelow zmeth zc 600000 7302250 zQ Hs X 4 Mn 689 [(0, Value.ref b), (1, vR X 0), (2, vR X 82), (3, vI i)] []) : J zp l ze room_1 zs zm #[Value.ref b] zbelow zmeth zc 600000 7302250 zQ Hs X 4 M 663 [(0, Value.ref b), (1, vR X 0), (2, vR X 82), (3, vI i)] [] := by
  have hX := F.2.2.2.2.2.2
  have hL := S.2.2.2
  refine j_aload_n (q := 664) F dL_law_663 rfl rfl 1 rfl ?_
  refine j_callVI (q := 667) F [] (ct_X6_fault l X hX M hI.1) gL_law_X6_fault rfl cdL_X6_fault ⟨Nat.le_of_ble_eq_true rfl, Nat.le_of_ble_eq_true rfl, Nat.le_of_ble_eq_true rfl, Nat.le_of_ble_eq_true rfl⟩ rfl rfl rfl rfl (Nat.le_of_ble_eq_true rfl) dL_law_664 rfl (fun r1 M1 h1 => ?_)
  refine j_aload_n (q := 668) F dL_law_667 rfl rfl 2 rfl ?_
  have hp := lpre hI h1.1
  refine j_callVI (q := 671) F [] (ct_X7_fault l X hX M1 hp.2.2.1 hp.2.2.2.1) gL_law_X7_fault rfl cdL_X7_fault ⟨Nat.le_of_ble_eq_true rfl, Nat.le_of_ble_eq_true rfl, Nat.le_of_ble_eq_true rfl, Nat.le_of_ble_eq_true rfl⟩ rfl rfl rfl rfl (Nat.le_of_ble_eq_true rfl) dL_law_668 rfl (fun r2 M2 h2 => ?_)
  obtain ⟨he, hI2⟩ := law_pair (OP := fun M => Ofault M) (fun _ => rfl) hI h1 (flt_mpo h2)
  subst he
  exact j_eqself (tgt := 689) F dL_law_671 (by decide) (kk M2 hI2)
theorem cdL_X6_read : yX6_read.cls = RX6 ∧ yX6_read.cls ≠ "java/lang/invoke/MethodHandle" ∧ yX6_read.cls ≠ "java/lang/invoke/VarHandle" ∧ (parseMethodDescriptor yX6_read.desc).map (fun d => d.parameters.length) = some 0 := by decide +kernel
theorem cdL_X7_read : yX7_read.cls = RX7 ∧ yX7_read.cls ≠ "java/lang/invoke/MethodHandle" ∧ yX7_read.cls ≠ "java/lang/invoke/VarHandle" ∧ (parseMethodDescriptor yX7_read.desc).map (fun d => d.parameters.length) = some 0 := by decide +kernel
set_option maxRecDepth 100000 in
set_option maxHeartbeats 1000000 in
theorem lawc_22 {zp : Program} {l : Launch} {ze : Env} {zs : State} {zm : MethodId} {zbelow : List Frame} {zmeth : Method} {zc : Code} {zQ : State → Prop} {Hs : Heap} {X : Cx} {b L : Nat} {xs : Nat → Int32} (F : Fx zp zs zm #[Value.ref b] zc cL_law RL wsL_law 4 X) (S : LScr zs Hs X b L xs) {M : Mem} (hI : LInv M) (i : Int) (hi0 : 0 ≤ i) (hi1 : i + 4 ≤ (L : Int)) (kk : ∀ Mn, LInv Mn → J zp l ze room_1 zs zm #[Value.ref b] zbelow zmeth zc 600000 7302250 zQ Hs X 4 Mn 689 [(0, Value.ref b), (1, vR X 0), (2, vR X 82), (3, vI i)] []) : J zp l ze room_1 zs zm #[Value.ref b] zbelow zmeth zc 600000 7302250 zQ Hs X 4 M 676 [(0, Value.ref b), (1, vR X 0), (2, vR X 82), (3, vI i)] [] := by
  have hX := F.2.2.2.2.2.2
  have hL := S.2.2.2
  refine j_aload_n (q := 677) F dL_law_676 rfl rfl 1 rfl ?_
  refine j_callVI (q := 680) F [] (ct_X6_read l X hX M hI.1) gL_law_X6_read rfl cdL_X6_read ⟨Nat.le_of_ble_eq_true rfl, Nat.le_of_ble_eq_true rfl, Nat.le_of_ble_eq_true rfl, Nat.le_of_ble_eq_true rfl⟩ rfl rfl rfl rfl (Nat.le_of_ble_eq_true rfl) dL_law_677 rfl (fun r1 M1 h1 => ?_)
  refine j_aload_n (q := 681) F dL_law_680 rfl rfl 2 rfl ?_
  have hp := lpre hI h1.1
  refine j_callVI (q := 684) F [] (ct_X7_read l X hX M1 hp.1 hp.2.1 hp.2.2.1 hp.2.2.2.1) gL_law_X7_read rfl cdL_X7_read ⟨Nat.le_of_ble_eq_true rfl, Nat.le_of_ble_eq_true rfl, Nat.le_of_ble_eq_true rfl, Nat.le_of_ble_eq_true rfl⟩ rfl rfl rfl rfl (Nat.le_of_ble_eq_true rfl) dL_law_681 rfl (fun r2 M2 h2 => ?_)
  obtain ⟨he, hI2⟩ := law_pair (OP := fun M => Oread M) (fun _ => rfl) hI h1 h2
  subst he
  exact j_eqself (tgt := 689) F dL_law_684 (by decide) (kk M2 hI2)
