theorem pull_back2 {N M M' : Mem} {ln L r0 r : Int} (hI : QI N M) (hl : isL (N 83) ln) (hp : ¬ noPull (N 83) ln) (hc0 : ln + 1 = L ∧ r0 = L + 1 ∧ sd (N 83) (ln + 1) + 1 = sd (N 83) (ln + 2) ∨ ln + 1 ≠ L ∧ r0 = L ∧ sd (N 83) (ln + 1) + 1 ≠ sd (N 83) (ln + 2)) (e3 : N 83 3 = r0) (h : CPO M (Opull M ln) r M') : ∃ P : Mem, r = L ∧ QI (mixM M' P) (mixM M' P) ∧ isL (mixM M' P 83) ln ∧ sd (mixM M' P 83) (ln + 1) - sd (mixM M' P 83) ln = sd (N 83) (ln + 1) + 1 - sd (N 83) ln :=
  pull_back hI hl hp (by rw [e3]; exact hc0) h
theorem add_ok {N M M' : Mem} {k r : Int} (hI : QI N M) (h24 : N 83 0 < 24) (hk : 1 ≤ k ∧ k ≤ 8) (h : CPO M (Oadd M k) r M') : ∃ P : Mem, r = N 83 0 ∧ QI (mixM M' P) (mixM M' P) ∧ mixM M' P 83 0 = N 83 0 + 1 ∧ RecP N (mixM M' P) := by
  obtain ⟨P, hc⟩ := add_of hI hk h
  refine ⟨P, ?_⟩
  rcases hc with ⟨z, -⟩ | ⟨-, er, hq, e0, -, hr⟩
  · omega
  · exact ⟨er, hq, e0, hr⟩
theorem cd_L_cell : yL_cell.cls ≠ "java/lang/invoke/MethodHandle" ∧ yL_cell.cls ≠ "java/lang/invoke/VarHandle" ∧ (parseMethodDescriptor yL_cell.desc).map (fun d => d.parameters.length) = some 2 := by decide +kernel
theorem cd_L_dams : yL_dams.cls ≠ "java/lang/invoke/MethodHandle" ∧ yL_dams.cls ≠ "java/lang/invoke/VarHandle" ∧ (parseMethodDescriptor yL_dams.desc).map (fun d => d.parameters.length) = some 2 := by decide +kernel
theorem cd_L_holds : yL_holds.cls ≠ "java/lang/invoke/MethodHandle" ∧ yL_holds.cls ≠ "java/lang/invoke/VarHandle" ∧ (parseMethodDescriptor yL_holds.desc).map (fun d => d.parameters.length) = some 1 := by decide +kernel
theorem cd_X6_add : yX6_add.cls = RX6 ∧ yX6_add.cls ≠ "java/lang/invoke/MethodHandle" ∧ yX6_add.cls ≠ "java/lang/invoke/VarHandle" ∧ (parseMethodDescriptor yX6_add.desc).map (fun d => d.parameters.length) = some 1 := by decide +kernel
theorem cd_X6_dam : yX6_dam.cls = RX6 ∧ yX6_dam.cls ≠ "java/lang/invoke/MethodHandle" ∧ yX6_dam.cls ≠ "java/lang/invoke/VarHandle" ∧ (parseMethodDescriptor yX6_dam.desc).map (fun d => d.parameters.length) = some 1 := by decide +kernel
theorem cd_X6_freeze : yX6_freeze.cls = RX6 ∧ yX6_freeze.cls ≠ "java/lang/invoke/MethodHandle" ∧ yX6_freeze.cls ≠ "java/lang/invoke/VarHandle" ∧ (parseMethodDescriptor yX6_freeze.desc).map (fun d => d.parameters.length) = some 2 := by decide +kernel
theorem cd_X6_pull : yX6_pull.cls = RX6 ∧ yX6_pull.cls ≠ "java/lang/invoke/MethodHandle" ∧ yX6_pull.cls ≠ "java/lang/invoke/VarHandle" ∧ (parseMethodDescriptor yX6_pull.desc).map (fun d => d.parameters.length) = some 1 := by decide +kernel
theorem cd_X6_push : yX6_push.cls = RX6 ∧ yX6_push.cls ≠ "java/lang/invoke/MethodHandle" ∧ yX6_push.cls ≠ "java/lang/invoke/VarHandle" ∧ (parseMethodDescriptor yX6_push.desc).map (fun d => d.parameters.length) = some 1 := by decide +kernel
theorem cd_X6_setSlack : yX6_setSlack.cls = RX6 ∧ yX6_setSlack.cls ≠ "java/lang/invoke/MethodHandle" ∧ yX6_setSlack.cls ≠ "java/lang/invoke/VarHandle" ∧ (parseMethodDescriptor yX6_setSlack.desc).map (fun d => d.parameters.length) = some 1 := by decide +kernel
theorem cd_X6_setWidth : yX6_setWidth.cls = RX6 ∧ yX6_setWidth.cls ≠ "java/lang/invoke/MethodHandle" ∧ yX6_setWidth.cls ≠ "java/lang/invoke/VarHandle" ∧ (parseMethodDescriptor yX6_setWidth.desc).map (fun d => d.parameters.length) = some 1 := by decide +kernel
theorem cd_X6_undo : yX6_undo.cls = RX6 ∧ yX6_undo.cls ≠ "java/lang/invoke/MethodHandle" ∧ yX6_undo.cls ≠ "java/lang/invoke/VarHandle" ∧ (parseMethodDescriptor yX6_undo.desc).map (fun d => d.parameters.length) = some 0 := by decide +kernel
set_option maxRecDepth 100000 in
set_option maxHeartbeats 8000000 in
theorem law_body {zp : Program} {l : Launch} {ze : Env} {zs : State} {zm : MethodId} {zbelow : List Frame} {zmeth : Method} {zc : Code} {zQ : State → Prop} {Hs : Heap} {X : Cx} {b L : Nat} {xs : Nat → Int32} (F : Fx zp zs zm #[Value.ref b] zc cL_law RL wsL_law 16 X) (S : LScr zs Hs X b L xs) {M : Mem} (hI : QI M M) (hz : M 83 0 = 0) (hs60 : M 83 2 = 6) (hfin : ∀ M lv, J zp l ze room_1 zs zm #[Value.ref b] zbelow zmeth zc 600000 7302250 zQ Hs X 16 M 632 lv [vI 1]) : J zp l ze room_1 zs zm #[Value.ref b] zbelow zmeth zc 600000 7302250 zQ Hs X 16 M 8 [(0, Value.ref b), (1, vR X 0)] [] := by
  have hX := F.2.2.2.2.2.2
  have hLL := S.2.2.2
  refine j_aload_n (q := 9) F dL_law_8 rfl rfl 1 rfl ?_
  refine j_callSI (q := 12) F [vR X 0] (ct_L_holds l X hX M M hI) gL_law_L_holds rfl cd_L_holds ⟨by first | exact Nat.le_of_ble_eq_true rfl | (simp only [rm]; omega) | (simp [rm, vI, vR, Value.category]; omega), by first | exact Nat.le_of_ble_eq_true rfl | (simp only [rm]; omega) | (simp [rm, vI, vR, Value.category]; omega), by first | exact Nat.le_of_ble_eq_true rfl | (simp only [rm]; omega) | (simp [rm, vI, vR, Value.category]; omega), by first | exact Nat.le_of_ble_eq_true rfl | (simp only [rm]; omega) | (simp [rm, vI, vR, Value.category]; omega)⟩ rfl rfl (Nat.le_of_ble_eq_true rfl) dL_law_9 rfl (fun r_9 M_9 h_9 => ?_)
  obtain ⟨er_9, hI⟩ := h_9
  subst er_9
  refine j_if_eq (q := 15) (tgt := 62) F dL_law_12 (by decide) rfl ⟨by decide, by decide⟩ (fun h => absurd h (by decide)) (fun _ => ?_)
  refine j_aload_n (q := 16) F dL_law_15 rfl rfl 1 rfl ?_
  refine j_iconst (q := 17) F dL_law_16 rfl ?_
  refine j_callSI (q := 20) F [vR X 0, vI 3] (ct_L_dams l X hX M M_9 hI 3 ⟨by decide, by decide⟩) gL_law_L_dams rfl cd_L_dams ⟨by first | exact Nat.le_of_ble_eq_true rfl | (simp only [rm]; omega) | (simp [rm, vI, vR, Value.category]; omega), by first | exact Nat.le_of_ble_eq_true rfl | (simp only [rm]; omega) | (simp [rm, vI, vR, Value.category]; omega), by first | exact Nat.le_of_ble_eq_true rfl | (simp only [rm]; omega) | (simp [rm, vI, vR, Value.category]; omega), by first | exact Nat.le_of_ble_eq_true rfl | (simp only [rm]; omega) | (simp [rm, vI, vR, Value.category]; omega)⟩ rfl rfl (Nat.le_of_ble_eq_true rfl) dL_law_17 rfl (fun r_17 M_17 h_17 => ?_)
  obtain ⟨er_17, hI⟩ := h_17
  subst er_17
  refine j_if_eq (q := 23) (tgt := 62) F dL_law_20 (by decide) rfl ⟨by decide, by decide⟩ (fun h => absurd h (by decide)) (fun _ => ?_)
  refine j_aload_n (q := 24) F dL_law_23 rfl rfl 1 rfl ?_
  refine j_bipush (q := 26) F dL_law_24 rfl (by decide) ?_
  refine j_aload_s (q := 27) F dL_law_26 rfl rfl 0 rfl ?_
  refine j_iconst (q := 28) F dL_law_27 rfl ?_
  refine j_callSX (q := 31) F S [Value.ref b, vI 0] (ct_L_cell l X hX M_17 b L xs S.2.2.2 0 ⟨by omega, by omega⟩) gL_law_L_cell rfl cd_L_cell ⟨by first | exact Nat.le_of_ble_eq_true rfl | (simp only [rm]; omega) | (simp [rm, vI, vR, Value.category]; omega), by first | exact Nat.le_of_ble_eq_true rfl | (simp only [rm]; omega) | (simp [rm, vI, vR, Value.category]; omega), by first | exact Nat.le_of_ble_eq_true rfl | (simp only [rm]; omega) | (simp [rm, vI, vR, Value.category]; omega), by first | exact Nat.le_of_ble_eq_true rfl | (simp only [rm]; omega) | (simp [rm, vI, vR, Value.category]; omega)⟩ rfl rfl (Nat.le_of_ble_eq_true rfl) dL_law_28 rfl (fun y0 hy0 => ?_)
  refine j_bipush (q := 33) F dL_law_31 rfl (by decide) ?_
  refine j_irem (q := 34) F dL_law_33 rfl ⟨by omega, by omega⟩ ⟨by omega, by omega⟩ ?_
  refine j_iadd (q := 35) (z := 16 + (y0 % 14)) F dL_law_34 rfl rfl ?_
  refine j_callVI (q := 38) F [vI (16 + (y0 % 14))] (ct_X6_setWidth l X hX M_17 hI.1 (16 + (y0 % 14)) ⟨by omega, by omega⟩) gL_law_X6_setWidth rfl cd_X6_setWidth ⟨by first | exact Nat.le_of_ble_eq_true rfl | (simp only [rm]; omega) | (simp [rm, vI, vR, Value.category]; omega), by first | exact Nat.le_of_ble_eq_true rfl | (simp only [rm]; omega) | (simp [rm, vI, vR, Value.category]; omega), by first | exact Nat.le_of_ble_eq_true rfl | (simp only [rm]; omega) | (simp [rm, vI, vR, Value.category]; omega), by first | exact Nat.le_of_ble_eq_true rfl | (simp only [rm]; omega) | (simp [rm, vI, vR, Value.category]; omega)⟩ wr0 rfl rfl rfl (Nat.le_of_ble_eq_true rfl) dL_law_35 rfl (fun r_35 M_35 h_35 => ?_)
  obtain ⟨P_35, er_35, hI, hs6⟩ := width_of hI hz ⟨by omega, by omega⟩ h_35
  subst er_35
  refine j_mix (N := P_35) ?_
  generalize mixM M_35 P_35 = B_35 at hI hs6 ⊢
  refine j_if_ne (q := 41) (tgt := 62) F dL_law_38 (by decide) rfl ⟨by decide, by decide⟩ (fun h => absurd h (by decide)) (fun _ => ?_)
  refine j_aload_n (q := 42) F dL_law_41 rfl rfl 1 rfl ?_
  refine j_aload_s (q := 43) F dL_law_42 rfl rfl 0 rfl ?_
  refine j_iconst (q := 44) F dL_law_43 rfl ?_
  refine j_callSX (q := 47) F S [Value.ref b, vI 1] (ct_L_cell l X hX B_35 b L xs S.2.2.2 1 ⟨by omega, by omega⟩) gL_law_L_cell rfl cd_L_cell ⟨by first | exact Nat.le_of_ble_eq_true rfl | (simp only [rm]; omega) | (simp [rm, vI, vR, Value.category]; omega), by first | exact Nat.le_of_ble_eq_true rfl | (simp only [rm]; omega) | (simp [rm, vI, vR, Value.category]; omega), by first | exact Nat.le_of_ble_eq_true rfl | (simp only [rm]; omega) | (simp [rm, vI, vR, Value.category]; omega), by first | exact Nat.le_of_ble_eq_true rfl | (simp only [rm]; omega) | (simp [rm, vI, vR, Value.category]; omega)⟩ rfl rfl (Nat.le_of_ble_eq_true rfl) dL_law_44 rfl (fun y1 hy1 => ?_)
  refine j_bipush (q := 49) F dL_law_47 rfl (by decide) ?_
  refine j_irem (q := 50) F dL_law_49 rfl ⟨by omega, by omega⟩ ⟨by omega, by omega⟩ ?_
  refine j_callVI (q := 53) F [vI (y1 % 9)] (ct_X6_setSlack l X hX B_35 hI.1 (y1 % 9) ⟨by omega, by omega⟩) gL_law_X6_setSlack rfl cd_X6_setSlack ⟨by first | exact Nat.le_of_ble_eq_true rfl | (simp only [rm]; omega) | (simp [rm, vI, vR, Value.category]; omega), by first | exact Nat.le_of_ble_eq_true rfl | (simp only [rm]; omega) | (simp [rm, vI, vR, Value.category]; omega), by first | exact Nat.le_of_ble_eq_true rfl | (simp only [rm]; omega) | (simp [rm, vI, vR, Value.category]; omega), by first | exact Nat.le_of_ble_eq_true rfl | (simp only [rm]; omega) | (simp [rm, vI, vR, Value.category]; omega)⟩ wr0 rfl rfl rfl (Nat.le_of_ble_eq_true rfl) dL_law_50 rfl (fun r_50 M_50 h_50 => ?_)
  obtain ⟨P_50, er_50, hI⟩ := slack_of hI ⟨by omega, by omega⟩ h_50
  subst er_50
  refine j_mix (N := P_50) ?_
  generalize mixM M_50 P_50 = B_50 at hI ⊢
  refine j_bipush (q := 55) F dL_law_53 rfl (by decide) ?_
  refine j_icmp_ne (q := 58) (tgt := 62) F dL_law_55 (by decide) rfl ⟨by omega, by omega⟩ ⟨by decide, by decide⟩ (fun h => by exfalso; omega) (fun h55_7 => ?_)
  refine j_iconst (q := 59) F dL_law_58 rfl ?_
  refine j_goto (q := 63) F dL_law_59 (by decide) ?_
  refine j_istore_n (q := 64) (lv' := [(0, Value.ref b), (1, vR X 0), (2, vI 1)]) F dL_law_63 rfl rfl (by decide) rfl rfl ?_
  refine j_iconst (q := 65) F dL_law_64 rfl ?_
  refine j_istore_n (q := 66) (lv' := [(0, Value.ref b), (1, vR X 0), (2, vI 1), (3, vI 0)]) F dL_law_65 rfl rfl (by decide) rfl rfl ?_
  have LP66 : ∀ (nn : Nat) (k : Int) (Mq : Mem), (QI Mq Mq) → (0 ≤ k) → (k ≤ 34) → (34 - k).toNat < nn → J zp l ze room_1 zs zm #[Value.ref b] zbelow zmeth zc 600000 7302250 zQ Hs X 16 Mq 66 [(0, Value.ref b), (1, vR X 0), (2, vI 1), (3, vI k)] [] := by
    intro nn
    induction nn with
    | zero => intro k Mq hI k0 k1 hm66; exact absurd hm66 (Nat.not_lt_zero _)
    | succ nn ih66 =>
      intro k Mq hI k0 k1 hm66
      refine j_iload_n (q := 67) F dL_law_66 rfl rfl 3 rfl ?_
      refine j_bipush (q := 69) F dL_law_67 rfl (by decide) ?_
      refine j_icmp_ge (q := 72) (tgt := 548) F dL_law_69 (by decide) rfl ⟨by omega, by omega⟩ ⟨by decide, by decide⟩ (fun h69_8 => ?_) (fun h69_8 => ?_)
      · skip
        refine j_aload_n (q := 549) F dL_law_548 rfl rfl 1 rfl ?_
        refine j_bipush (q := 551) F dL_law_549 rfl (by decide) ?_
        refine j_callVI (q := 554) F [vI 9] (ct_X6_count l X hX Mq hI.1 9 ⟨by omega, by omega⟩) gL_law_X6_count rfl cd_X6_count ⟨by first | exact Nat.le_of_ble_eq_true rfl | (simp only [rm]; omega) | (simp [rm, vI, vR, Value.category]; omega), by first | exact Nat.le_of_ble_eq_true rfl | (simp only [rm]; omega) | (simp [rm, vI, vR, Value.category]; omega), by first | exact Nat.le_of_ble_eq_true rfl | (simp only [rm]; omega) | (simp [rm, vI, vR, Value.category]; omega), by first | exact Nat.le_of_ble_eq_true rfl | (simp only [rm]; omega) | (simp [rm, vI, vR, Value.category]; omega)⟩ wr0 rfl rfl rfl (Nat.le_of_ble_eq_true rfl) dL_law_551 rfl (fun r_551 M_551 h_551 => ?_)
        obtain ⟨hI, er_551⟩ := q_c9 hI  h_551
        subst er_551
        refine j_istore_n (q := 555) (lv' := [(0, Value.ref b), (1, vR X 0), (2, vI 1), (3, vI (Mq 82 2))]) F dL_law_554 rfl rfl (by decide) rfl rfl ?_
        refine j_aload_n (q := 556) F dL_law_555 rfl rfl 1 rfl ?_
        refine j_iconst (q := 557) F dL_law_556 rfl ?_
        refine j_callVI (q := 560) F [vI 0] (ct_X6_count l X hX M_551 hI.1 0 ⟨by omega, by omega⟩) gL_law_X6_count rfl cd_X6_count ⟨by first | exact Nat.le_of_ble_eq_true rfl | (simp only [rm]; omega) | (simp [rm, vI, vR, Value.category]; omega), by first | exact Nat.le_of_ble_eq_true rfl | (simp only [rm]; omega) | (simp [rm, vI, vR, Value.category]; omega), by first | exact Nat.le_of_ble_eq_true rfl | (simp only [rm]; omega) | (simp [rm, vI, vR, Value.category]; omega), by first | exact Nat.le_of_ble_eq_true rfl | (simp only [rm]; omega) | (simp [rm, vI, vR, Value.category]; omega)⟩ wr0 rfl rfl rfl (Nat.le_of_ble_eq_true rfl) dL_law_557 rfl (fun r_557 M_557 h_557 => ?_)
        obtain ⟨hI, er_557⟩ := q_c0 hI  h_557
        subst er_557
        refine j_istore (q := 562) (lv' := [(0, Value.ref b), (1, vR X 0), (2, vI 1), (3, vI (Mq 82 2)), (4, vI (Mq 83 0))]) F dL_law_560 rfl (by decide) rfl rfl ?_
        have hst := hI.hst
        have hn := hI.hD.1
        refine j_iload_n (q := 563) F dL_law_562 rfl rfl 2 rfl ?_
        refine j_if_eq (q := 566) (tgt := 614) F dL_law_563 (by decide) rfl ⟨by decide, by decide⟩ (fun h => absurd h (by decide)) (fun _ => ?_)
        refine j_iload (q := 568) F dL_law_566 rfl 4 rfl ?_
        refine j_bipush (q := 570) F dL_law_568 rfl (by decide) ?_
        refine j_icmp_eq (q := 573) (tgt := 610) F dL_law_570 (by decide) rfl ⟨by omega, by omega⟩ ⟨by decide, by decide⟩ (fun h570_11 => ?_) (fun h570_11 => ?_)
        · skip
          refine j_iconst (q := 611) F dL_law_610 rfl ?_
          refine j_goto (q := 615) F dL_law_611 (by decide) ?_
          refine j_istore_n (q := 616) (lv' := [(0, Value.ref b), (1, vR X 0), (2, vI 1), (3, vI (Mq 82 2)), (4, vI (Mq 83 0))]) F dL_law_615 rfl rfl (by decide) rfl rfl ?_
          refine j_iload_n (q := 617) F dL_law_616 rfl rfl 2 rfl ?_
          refine j_if_eq (q := 620) (tgt := 631) F dL_law_617 (by decide) rfl ⟨by decide, by decide⟩ (fun h => absurd h (by decide)) (fun _ => ?_)
          refine j_aload_n (q := 621) F dL_law_620 rfl rfl 1 rfl ?_
          refine j_callSI (q := 624) F [vR X 0] (ct_L_holds l X hX Mq M_557 hI) gL_law_L_holds rfl cd_L_holds ⟨by first | exact Nat.le_of_ble_eq_true rfl | (simp only [rm]; omega) | (simp [rm, vI, vR, Value.category]; omega), by first | exact Nat.le_of_ble_eq_true rfl | (simp only [rm]; omega) | (simp [rm, vI, vR, Value.category]; omega), by first | exact Nat.le_of_ble_eq_true rfl | (simp only [rm]; omega) | (simp [rm, vI, vR, Value.category]; omega), by first | exact Nat.le_of_ble_eq_true rfl | (simp only [rm]; omega) | (simp [rm, vI, vR, Value.category]; omega)⟩ rfl rfl (Nat.le_of_ble_eq_true rfl) dL_law_621 rfl (fun r_621 M_621 h_621 => ?_)
          obtain ⟨er_621, hI⟩ := h_621
          subst er_621
          refine j_if_eq (q := 627) (tgt := 631) F dL_law_624 (by decide) rfl ⟨by decide, by decide⟩ (fun h => absurd h (by decide)) (fun _ => ?_)
          refine j_iconst (q := 628) F dL_law_627 rfl ?_
          refine j_goto (q := 632) F dL_law_628 (by decide) ?_
          exact hfin _ _
        · skip
          refine j_aload_n (q := 574) F dL_law_573 rfl rfl 1 rfl ?_
          refine j_iconst (q := 575) F dL_law_574 rfl ?_
          refine j_callVI (q := 578) F [vI 3] (ct_X6_add l X hX M_557 hI.1 3 ⟨by omega, by omega⟩) gL_law_X6_add rfl cd_X6_add ⟨by first | exact Nat.le_of_ble_eq_true rfl | (simp only [rm]; omega) | (simp [rm, vI, vR, Value.category]; omega), by first | exact Nat.le_of_ble_eq_true rfl | (simp only [rm]; omega) | (simp [rm, vI, vR, Value.category]; omega), by first | exact Nat.le_of_ble_eq_true rfl | (simp only [rm]; omega) | (simp [rm, vI, vR, Value.category]; omega), by first | exact Nat.le_of_ble_eq_true rfl | (simp only [rm]; omega) | (simp [rm, vI, vR, Value.category]; omega)⟩ wr0 rfl rfl rfl (Nat.le_of_ble_eq_true rfl) dL_law_575 rfl (fun r_575 M_575 h_575 => ?_)
          obtain ⟨P_575, er_575, hI, c4, hrp⟩ := add_ok hI (by omega) ⟨by decide, by decide⟩ h_575
          subst er_575
          refine j_mix (N := P_575) ?_
          generalize mixM M_575 P_575 = B_575 at hI c4 hrp ⊢
          refine j_iload (q := 580) F dL_law_578 rfl 4 rfl ?_
          refine j_icmp_ne (q := 583) (tgt := 614) F dL_law_580 (by decide) rfl ⟨by omega, by omega⟩ ⟨by omega, by omega⟩ (fun h => by exfalso; omega) (fun h580_14 => ?_)
          refine j_aload_n (q := 584) F dL_law_583 rfl rfl 1 rfl ?_
          refine j_callVI (q := 587) F [] (ct_X6_undo l X hX B_575 hI.1 ) gL_law_X6_undo rfl cd_X6_undo ⟨by first | exact Nat.le_of_ble_eq_true rfl | (simp only [rm]; omega) | (simp [rm, vI, vR, Value.category]; omega), by first | exact Nat.le_of_ble_eq_true rfl | (simp only [rm]; omega) | (simp [rm, vI, vR, Value.category]; omega), by first | exact Nat.le_of_ble_eq_true rfl | (simp only [rm]; omega) | (simp [rm, vI, vR, Value.category]; omega), by first | exact Nat.le_of_ble_eq_true rfl | (simp only [rm]; omega) | (simp [rm, vI, vR, Value.category]; omega)⟩ wr0 rfl rfl rfl (Nat.le_of_ble_eq_true rfl) dL_law_584 rfl (fun r_584 M_584 h_584 => ?_)
          obtain ⟨P_584, hr9, hI, cu⟩ := undo_back hI hst hrp h_584
          refine j_mix (N := P_584) ?_
          generalize mixM M_584 P_584 = B_584 at hI cu ⊢
          refine j_iload_n (q := 588) F dL_law_587 rfl rfl 3 rfl ?_
          refine j_iconst (q := 589) F dL_law_588 rfl ?_
          refine j_icmp_ge (q := 592) (tgt := 596) F dL_law_589 (by decide) rfl ⟨by omega, by omega⟩ ⟨by decide, by decide⟩ (fun h589_16 => ?_) (fun h589_16 => ?_)
          · skip
            refine j_iconst (q := 597) F dL_law_596 rfl ?_
            refine j_icmp_ne (q := 600) (tgt := 614) F dL_law_597 (by decide) rfl ⟨by omega, by omega⟩ ⟨by decide, by decide⟩ (fun h => by exfalso; omega) (fun h597_17 => ?_)
            refine j_aload_n (q := 601) F dL_law_600 rfl rfl 1 rfl ?_
            refine j_iconst (q := 602) F dL_law_601 rfl ?_
            refine j_callVI (q := 605) F [vI 0] (ct_X6_count l X hX B_584 hI.1 0 ⟨by omega, by omega⟩) gL_law_X6_count rfl cd_X6_count ⟨by first | exact Nat.le_of_ble_eq_true rfl | (simp only [rm]; omega) | (simp [rm, vI, vR, Value.category]; omega), by first | exact Nat.le_of_ble_eq_true rfl | (simp only [rm]; omega) | (simp [rm, vI, vR, Value.category]; omega), by first | exact Nat.le_of_ble_eq_true rfl | (simp only [rm]; omega) | (simp [rm, vI, vR, Value.category]; omega), by first | exact Nat.le_of_ble_eq_true rfl | (simp only [rm]; omega) | (simp [rm, vI, vR, Value.category]; omega)⟩ wr0 rfl rfl rfl (Nat.le_of_ble_eq_true rfl) dL_law_602 rfl (fun r_602 M_602 h_602 => ?_)
            obtain ⟨hI, er_602⟩ := q_c0 hI  h_602
            subst er_602
            refine j_iload (q := 607) F dL_law_605 rfl 4 rfl ?_
            refine j_icmp_ne (q := 610) (tgt := 614) F dL_law_607 (by decide) rfl ⟨by omega, by omega⟩ ⟨by omega, by omega⟩ (fun h => by exfalso; omega) (fun h607_19 => ?_)
            refine j_iconst (q := 611) F dL_law_610 rfl ?_
            refine j_goto (q := 615) F dL_law_611 (by decide) ?_
            refine j_istore_n (q := 616) (lv' := [(0, Value.ref b), (1, vR X 0), (2, vI 1), (3, vI (Mq 82 2)), (4, vI (Mq 83 0))]) F dL_law_615 rfl rfl (by decide) rfl rfl ?_
            refine j_iload_n (q := 617) F dL_law_616 rfl rfl 2 rfl ?_
            refine j_if_eq (q := 620) (tgt := 631) F dL_law_617 (by decide) rfl ⟨by decide, by decide⟩ (fun h => absurd h (by decide)) (fun _ => ?_)
            refine j_aload_n (q := 621) F dL_law_620 rfl rfl 1 rfl ?_
            refine j_callSI (q := 624) F [vR X 0] (ct_L_holds l X hX B_584 M_602 hI) gL_law_L_holds rfl cd_L_holds ⟨by first | exact Nat.le_of_ble_eq_true rfl | (simp only [rm]; omega) | (simp [rm, vI, vR, Value.category]; omega), by first | exact Nat.le_of_ble_eq_true rfl | (simp only [rm]; omega) | (simp [rm, vI, vR, Value.category]; omega), by first | exact Nat.le_of_ble_eq_true rfl | (simp only [rm]; omega) | (simp [rm, vI, vR, Value.category]; omega), by first | exact Nat.le_of_ble_eq_true rfl | (simp only [rm]; omega) | (simp [rm, vI, vR, Value.category]; omega)⟩ rfl rfl (Nat.le_of_ble_eq_true rfl) dL_law_621 rfl (fun r_621 M_621 h_621 => ?_)
            obtain ⟨er_621, hI⟩ := h_621
            subst er_621
            refine j_if_eq (q := 627) (tgt := 631) F dL_law_624 (by decide) rfl ⟨by decide, by decide⟩ (fun h => absurd h (by decide)) (fun _ => ?_)
            refine j_iconst (q := 628) F dL_law_627 rfl ?_
            refine j_goto (q := 632) F dL_law_628 (by decide) ?_
            exact hfin _ _
          · skip
            refine j_iload_n (q := 593) F dL_law_592 rfl rfl 3 rfl ?_
            refine j_goto (q := 597) F dL_law_593 (by decide) ?_
            refine j_icmp_ne (q := 600) (tgt := 614) F dL_law_597 (by decide) rfl ⟨by omega, by omega⟩ ⟨by omega, by omega⟩ (fun h => by exfalso; omega) (fun h597_21 => ?_)
            refine j_aload_n (q := 601) F dL_law_600 rfl rfl 1 rfl ?_
            refine j_iconst (q := 602) F dL_law_601 rfl ?_
            refine j_callVI (q := 605) F [vI 0] (ct_X6_count l X hX B_584 hI.1 0 ⟨by omega, by omega⟩) gL_law_X6_count rfl cd_X6_count ⟨by first | exact Nat.le_of_ble_eq_true rfl | (simp only [rm]; omega) | (simp [rm, vI, vR, Value.category]; omega), by first | exact Nat.le_of_ble_eq_true rfl | (simp only [rm]; omega) | (simp [rm, vI, vR, Value.category]; omega), by first | exact Nat.le_of_ble_eq_true rfl | (simp only [rm]; omega) | (simp [rm, vI, vR, Value.category]; omega), by first | exact Nat.le_of_ble_eq_true rfl | (simp only [rm]; omega) | (simp [rm, vI, vR, Value.category]; omega)⟩ wr0 rfl rfl rfl (Nat.le_of_ble_eq_true rfl) dL_law_602 rfl (fun r_602 M_602 h_602 => ?_)
            obtain ⟨hI, er_602⟩ := q_c0 hI  h_602
            subst er_602
            refine j_iload (q := 607) F dL_law_605 rfl 4 rfl ?_
            refine j_icmp_ne (q := 610) (tgt := 614) F dL_law_607 (by decide) rfl ⟨by omega, by omega⟩ ⟨by omega, by omega⟩ (fun h => by exfalso; omega) (fun h607_23 => ?_)
            refine j_iconst (q := 611) F dL_law_610 rfl ?_
            refine j_goto (q := 615) F dL_law_611 (by decide) ?_
            refine j_istore_n (q := 616) (lv' := [(0, Value.ref b), (1, vR X 0), (2, vI 1), (3, vI (Mq 82 2)), (4, vI (Mq 83 0))]) F dL_law_615 rfl rfl (by decide) rfl rfl ?_
            refine j_iload_n (q := 617) F dL_law_616 rfl rfl 2 rfl ?_
            refine j_if_eq (q := 620) (tgt := 631) F dL_law_617 (by decide) rfl ⟨by decide, by decide⟩ (fun h => absurd h (by decide)) (fun _ => ?_)
            refine j_aload_n (q := 621) F dL_law_620 rfl rfl 1 rfl ?_
            refine j_callSI (q := 624) F [vR X 0] (ct_L_holds l X hX B_584 M_602 hI) gL_law_L_holds rfl cd_L_holds ⟨by first | exact Nat.le_of_ble_eq_true rfl | (simp only [rm]; omega) | (simp [rm, vI, vR, Value.category]; omega), by first | exact Nat.le_of_ble_eq_true rfl | (simp only [rm]; omega) | (simp [rm, vI, vR, Value.category]; omega), by first | exact Nat.le_of_ble_eq_true rfl | (simp only [rm]; omega) | (simp [rm, vI, vR, Value.category]; omega), by first | exact Nat.le_of_ble_eq_true rfl | (simp only [rm]; omega) | (simp [rm, vI, vR, Value.category]; omega)⟩ rfl rfl (Nat.le_of_ble_eq_true rfl) dL_law_621 rfl (fun r_621 M_621 h_621 => ?_)
            obtain ⟨er_621, hI⟩ := h_621
            subst er_621
            refine j_if_eq (q := 627) (tgt := 631) F dL_law_624 (by decide) rfl ⟨by decide, by decide⟩ (fun h => absurd h (by decide)) (fun _ => ?_)
            refine j_iconst (q := 628) F dL_law_627 rfl ?_
            refine j_goto (q := 632) F dL_law_628 (by decide) ?_
            exact hfin _ _
      · skip
        refine j_iload_n (q := 73) F dL_law_72 rfl rfl 2 rfl ?_
        refine j_if_eq (q := 76) (tgt := 548) F dL_law_73 (by decide) rfl ⟨by decide, by decide⟩ (fun h => absurd h (by decide)) (fun _ => ?_)
        refine j_aload_s (q := 77) F dL_law_76 rfl rfl 0 rfl ?_
        refine j_iconst (q := 78) F dL_law_77 rfl ?_
        refine j_iload_n (q := 79) F dL_law_78 rfl rfl 3 rfl ?_
        refine j_iadd (q := 80) (z := 2 + k) F dL_law_79 rfl rfl ?_
        refine j_callSX (q := 83) F S [Value.ref b, vI (2 + k)] (ct_L_cell l X hX Mq b L xs S.2.2.2 (2 + k) ⟨by omega, by omega⟩) gL_law_L_cell rfl cd_L_cell ⟨by first | exact Nat.le_of_ble_eq_true rfl | (simp only [rm]; omega) | (simp [rm, vI, vR, Value.category]; omega), by first | exact Nat.le_of_ble_eq_true rfl | (simp only [rm]; omega) | (simp [rm, vI, vR, Value.category]; omega), by first | exact Nat.le_of_ble_eq_true rfl | (simp only [rm]; omega) | (simp [rm, vI, vR, Value.category]; omega), by first | exact Nat.le_of_ble_eq_true rfl | (simp only [rm]; omega) | (simp [rm, vI, vR, Value.category]; omega)⟩ rfl rfl (Nat.le_of_ble_eq_true rfl) dL_law_80 rfl (fun y hy => ?_)
        refine j_istore (q := 85) (lv' := [(0, Value.ref b), (1, vR X 0), (2, vI 1), (3, vI k), (4, vI y)]) F dL_law_83 rfl (by decide) rfl rfl ?_
        refine j_iload (q := 87) F dL_law_85 rfl 4 rfl ?_
        refine j_bipush (q := 89) F dL_law_87 rfl (by decide) ?_
        refine j_idiv (q := 90) F dL_law_89 rfl ⟨by omega, by omega⟩ ⟨by omega, by omega⟩ ?_
        refine j_istore (q := 92) (lv' := [(0, Value.ref b), (1, vR X 0), (2, vI 1), (3, vI k), (4, vI y), (5, vI (y / 6))]) F dL_law_90 rfl (by decide) rfl rfl ?_
        refine j_aload_n (q := 93) F dL_law_92 rfl rfl 1 rfl ?_
        refine j_iconst (q := 94) F dL_law_93 rfl ?_
        refine j_callVI (q := 97) F [vI 1] (ct_X6_count l X hX Mq hI.1 1 ⟨by omega, by omega⟩) gL_law_X6_count rfl cd_X6_count ⟨by first | exact Nat.le_of_ble_eq_true rfl | (simp only [rm]; omega) | (simp [rm, vI, vR, Value.category]; omega), by first | exact Nat.le_of_ble_eq_true rfl | (simp only [rm]; omega) | (simp [rm, vI, vR, Value.category]; omega), by first | exact Nat.le_of_ble_eq_true rfl | (simp only [rm]; omega) | (simp [rm, vI, vR, Value.category]; omega), by first | exact Nat.le_of_ble_eq_true rfl | (simp only [rm]; omega) | (simp [rm, vI, vR, Value.category]; omega)⟩ wr0 rfl rfl rfl (Nat.le_of_ble_eq_true rfl) dL_law_94 rfl (fun r_94 M_94 h_94 => ?_)
        obtain ⟨hI, er_94⟩ := q_c1 hI  h_94
        subst er_94
        refine j_istore (q := 99) (lv' := [(0, Value.ref b), (1, vR X 0), (2, vI 1), (3, vI k), (4, vI y), (5, vI (y / 6)), (6, vI (Mq 83 3))]) F dL_law_97 rfl (by decide) rfl rfl ?_
        refine j_aload_n (q := 100) F dL_law_99 rfl rfl 1 rfl ?_
        refine j_iconst (q := 101) F dL_law_100 rfl ?_
        refine j_callVI (q := 104) F [vI 0] (ct_X6_count l X hX M_94 hI.1 0 ⟨by omega, by omega⟩) gL_law_X6_count rfl cd_X6_count ⟨by first | exact Nat.le_of_ble_eq_true rfl | (simp only [rm]; omega) | (simp [rm, vI, vR, Value.category]; omega), by first | exact Nat.le_of_ble_eq_true rfl | (simp only [rm]; omega) | (simp [rm, vI, vR, Value.category]; omega), by first | exact Nat.le_of_ble_eq_true rfl | (simp only [rm]; omega) | (simp [rm, vI, vR, Value.category]; omega), by first | exact Nat.le_of_ble_eq_true rfl | (simp only [rm]; omega) | (simp [rm, vI, vR, Value.category]; omega)⟩ wr0 rfl rfl rfl (Nat.le_of_ble_eq_true rfl) dL_law_101 rfl (fun r_101 M_101 h_101 => ?_)
        obtain ⟨hI, er_101⟩ := q_c0 hI  h_101
        subst er_101
        have hD := hI.hD
        have hn := hD.1
        have hL24 := hD.L24
        refine j_istore (q := 106) (lv' := [(0, Value.ref b), (1, vR X 0), (2, vI 1), (3, vI k), (4, vI y), (5, vI (y / 6)), (6, vI (Mq 83 3)), (7, vI (Mq 83 0))]) F dL_law_104 rfl (by decide) rfl rfl ?_
        have CUT505 : ∀ (Mj : Mem), (QI Mj Mj) → J zp l ze room_1 zs zm #[Value.ref b] zbelow zmeth zc 600000 7302250 zQ Hs X 16 Mj 505 [(0, Value.ref b), (1, vR X 0), (2, vI 1), (3, vI k), (4, vI y), (5, vI (y / 6)), (6, vI (Mq 83 3)), (7, vI (Mq 83 0))] [] := by
          intro Mj hI
          refine j_iload_n (q := 506) F dL_law_505 rfl rfl 2 rfl ?_
          refine j_if_eq (q := 509) (tgt := 540) F dL_law_506 (by decide) rfl ⟨by decide, by decide⟩ (fun h => absurd h (by decide)) (fun _ => ?_)
          refine j_aload_n (q := 510) F dL_law_509 rfl rfl 1 rfl ?_
          refine j_callSI (q := 513) F [vR X 0] (ct_L_holds l X hX Mj Mj hI) gL_law_L_holds rfl cd_L_holds ⟨by first | exact Nat.le_of_ble_eq_true rfl | (simp only [rm]; omega) | (simp [rm, vI, vR, Value.category]; omega), by first | exact Nat.le_of_ble_eq_true rfl | (simp only [rm]; omega) | (simp [rm, vI, vR, Value.category]; omega), by first | exact Nat.le_of_ble_eq_true rfl | (simp only [rm]; omega) | (simp [rm, vI, vR, Value.category]; omega), by first | exact Nat.le_of_ble_eq_true rfl | (simp only [rm]; omega) | (simp [rm, vI, vR, Value.category]; omega)⟩ rfl rfl (Nat.le_of_ble_eq_true rfl) dL_law_510 rfl (fun r_510 M_510 h_510 => ?_)
          obtain ⟨er_510, hI⟩ := h_510
          subst er_510
          refine j_if_eq (q := 516) (tgt := 540) F dL_law_513 (by decide) rfl ⟨by decide, by decide⟩ (fun h => absurd h (by decide)) (fun _ => ?_)
          refine j_iload_n (q := 517) F dL_law_516 rfl rfl 3 rfl ?_
          refine j_iconst (q := 518) F dL_law_517 rfl ?_
          refine j_irem (q := 519) F dL_law_518 rfl ⟨by omega, by omega⟩ ⟨by omega, by omega⟩ ?_
          refine j_if_gt (q := 522) (tgt := 536) F dL_law_519 (by decide) rfl ⟨by omega, by omega⟩ (fun h519_29 => ?_) (fun h519_29 => ?_)
          · skip
            refine j_iconst (q := 537) F dL_law_536 rfl ?_
            refine j_goto (q := 541) F dL_law_537 (by decide) ?_
            refine j_istore_n (q := 542) (lv' := [(0, Value.ref b), (1, vR X 0), (2, vI 1), (3, vI k), (4, vI y), (5, vI (y / 6)), (6, vI (Mq 83 3)), (7, vI (Mq 83 0))]) F dL_law_541 rfl rfl (by decide) rfl rfl ?_
            refine j_iinc (q := 545) (lv' := [(0, Value.ref b), (1, vR X 0), (2, vI 1), (3, vI (k + 1)), (4, vI y), (5, vI (y / 6)), (6, vI (Mq 83 3)), (7, vI (Mq 83 0))]) F dL_law_542 rfl 3 rfl (by decide) rfl rfl ?_
            refine j_goto (q := 66) F dL_law_545 (by decide) ?_
            refine j_sub (lv' := [(0, Value.ref b), (1, vR X 0), (2, vI 1), (3, vI (k + 1))]) [0, 1, 2, 3] rfl ?_
            exact ih66 (k + 1) M_510 (by exact hI.rb) (by omega) (by omega) (by omega)
          · skip
            refine j_aload_n (q := 523) F dL_law_522 rfl rfl 1 rfl ?_
            refine j_iconst (q := 524) F dL_law_523 rfl ?_
            refine j_iload (q := 526) F dL_law_524 rfl 4 rfl ?_
            refine j_bipush (q := 528) F dL_law_526 rfl (by decide) ?_
            refine j_irem (q := 529) F dL_law_528 rfl ⟨by omega, by omega⟩ ⟨by omega, by omega⟩ ?_
            refine j_iadd (q := 530) (z := 1 + (y % 6)) F dL_law_529 rfl rfl ?_
            refine j_callSI (q := 533) F [vR X 0, vI (1 + (y % 6))] (ct_L_dams l X hX Mj M_510 hI (1 + (y % 6)) ⟨by omega, by omega⟩) gL_law_L_dams rfl cd_L_dams ⟨by first | exact Nat.le_of_ble_eq_true rfl | (simp only [rm]; omega) | (simp [rm, vI, vR, Value.category]; omega), by first | exact Nat.le_of_ble_eq_true rfl | (simp only [rm]; omega) | (simp [rm, vI, vR, Value.category]; omega), by first | exact Nat.le_of_ble_eq_true rfl | (simp only [rm]; omega) | (simp [rm, vI, vR, Value.category]; omega), by first | exact Nat.le_of_ble_eq_true rfl | (simp only [rm]; omega) | (simp [rm, vI, vR, Value.category]; omega)⟩ rfl rfl (Nat.le_of_ble_eq_true rfl) dL_law_530 rfl (fun r_530 M_530 h_530 => ?_)
            obtain ⟨er_530, hI⟩ := h_530
            subst er_530
            refine j_if_eq (q := 536) (tgt := 540) F dL_law_533 (by decide) rfl ⟨by decide, by decide⟩ (fun h => absurd h (by decide)) (fun _ => ?_)
            refine j_iconst (q := 537) F dL_law_536 rfl ?_
            refine j_goto (q := 541) F dL_law_537 (by decide) ?_
            refine j_istore_n (q := 542) (lv' := [(0, Value.ref b), (1, vR X 0), (2, vI 1), (3, vI k), (4, vI y), (5, vI (y / 6)), (6, vI (Mq 83 3)), (7, vI (Mq 83 0))]) F dL_law_541 rfl rfl (by decide) rfl rfl ?_
            refine j_iinc (q := 545) (lv' := [(0, Value.ref b), (1, vR X 0), (2, vI 1), (3, vI (k + 1)), (4, vI y), (5, vI (y / 6)), (6, vI (Mq 83 3)), (7, vI (Mq 83 0))]) F dL_law_542 rfl 3 rfl (by decide) rfl rfl ?_
            refine j_goto (q := 66) F dL_law_545 (by decide) ?_
            refine j_sub (lv' := [(0, Value.ref b), (1, vR X 0), (2, vI 1), (3, vI (k + 1))]) [0, 1, 2, 3] rfl ?_
            exact ih66 (k + 1) M_530 (by exact hI.rb) (by omega) (by omega) (by omega)
        have CUT156 : J zp l ze room_1 zs zm #[Value.ref b] zbelow zmeth zc 600000 7302250 zQ Hs X 16 M_101 156 [(0, Value.ref b), (1, vR X 0), (2, vI 1), (3, vI k), (4, vI y), (5, vI (y / 6)), (6, vI (Mq 83 3)), (7, vI (Mq 83 0))] [] := by
          refine j_aload_n (q := 157) F dL_law_156 rfl rfl 1 rfl ?_
          refine j_iconst (q := 158) F dL_law_157 rfl ?_
          refine j_iload (q := 160) F dL_law_158 rfl 5 rfl ?_
          refine j_bipush (q := 162) F dL_law_160 rfl (by decide) ?_
          refine j_irem (q := 163) F dL_law_162 rfl ⟨by omega, by omega⟩ ⟨by omega, by omega⟩ ?_
          refine j_iadd (q := 164) (z := 1 + ((y / 6) % 8)) F dL_law_163 rfl rfl ?_
          refine j_callVI (q := 167) F [vI (1 + ((y / 6) % 8))] (ct_X6_add l X hX M_101 hI.1 (1 + ((y / 6) % 8)) ⟨by omega, by omega⟩) gL_law_X6_add rfl cd_X6_add ⟨by first | exact Nat.le_of_ble_eq_true rfl | (simp only [rm]; omega) | (simp [rm, vI, vR, Value.category]; omega), by first | exact Nat.le_of_ble_eq_true rfl | (simp only [rm]; omega) | (simp [rm, vI, vR, Value.category]; omega), by first | exact Nat.le_of_ble_eq_true rfl | (simp only [rm]; omega) | (simp [rm, vI, vR, Value.category]; omega), by first | exact Nat.le_of_ble_eq_true rfl | (simp only [rm]; omega) | (simp [rm, vI, vR, Value.category]; omega)⟩ wr0 rfl rfl rfl (Nat.le_of_ble_eq_true rfl) dL_law_164 rfl (fun r_164 M_164 h_164 => ?_)
          obtain ⟨P_164, hc⟩ := add_of hI ⟨by omega, by omega⟩ h_164
          refine j_mix (N := P_164) ?_
          generalize mixM M_164 P_164 = B_164 at hc ⊢
          rcases hc with ⟨c1, rfl, hI⟩ | ⟨c1, rfl, hI, c4, c5, -⟩
          · skip
            refine j_istore (q := 169) (lv' := [(0, Value.ref b), (1, vR X 0), (2, vI 1), (3, vI k), (4, vI y), (5, vI (y / 6)), (6, vI (Mq 83 3)), (7, vI (Mq 83 0)), (8, vI ((-3)))]) F dL_law_167 rfl (by decide) rfl rfl ?_
            refine j_iload (q := 171) F dL_law_169 rfl 7 rfl ?_
            refine j_bipush (q := 173) F dL_law_171 rfl (by decide) ?_
            refine j_icmp_ne (q := 176) (tgt := 191) F dL_law_173 (by decide) rfl ⟨by omega, by omega⟩ ⟨by decide, by decide⟩ (fun h => by exfalso; omega) (fun h173_32 => ?_)
            refine j_iload (q := 178) F dL_law_176 rfl 8 rfl ?_
            refine j_bipush (q := 180) F dL_law_178 rfl (by decide) ?_
            refine j_icmp_ne (q := 183) (tgt := 187) F dL_law_180 (by decide) rfl ⟨by decide, by decide⟩ ⟨by decide, by decide⟩ (fun h => absurd h (by decide)) (fun _ => ?_)
            refine j_iconst (q := 184) F dL_law_183 rfl ?_
            refine j_goto (q := 220) F dL_law_184 (by decide) ?_
            refine j_istore_n (q := 221) (lv' := [(0, Value.ref b), (1, vR X 0), (2, vI 1), (3, vI k), (4, vI y), (5, vI (y / 6)), (6, vI (Mq 83 3)), (7, vI (Mq 83 0)), (8, vI ((-3)))]) F dL_law_220 rfl rfl (by decide) rfl rfl ?_
            refine j_goto (q := 505) F dL_law_221 (by decide) ?_
            refine j_sub (lv' := [(0, Value.ref b), (1, vR X 0), (2, vI 1), (3, vI k), (4, vI y), (5, vI (y / 6)), (6, vI (Mq 83 3)), (7, vI (Mq 83 0))]) [0, 1, 2, 3, 4, 5, 6, 7] rfl ?_
            exact CUT505 B_164 (by exact hI.rb)
          · skip
            refine j_istore (q := 169) (lv' := [(0, Value.ref b), (1, vR X 0), (2, vI 1), (3, vI k), (4, vI y), (5, vI (y / 6)), (6, vI (Mq 83 3)), (7, vI (Mq 83 0)), (8, vI (Mq 83 0))]) F dL_law_167 rfl (by decide) rfl rfl ?_
            refine j_iload (q := 171) F dL_law_169 rfl 7 rfl ?_
            refine j_bipush (q := 173) F dL_law_171 rfl (by decide) ?_
            refine j_icmp_ne (q := 176) (tgt := 191) F dL_law_173 (by decide) rfl ⟨by omega, by omega⟩ ⟨by decide, by decide⟩ (fun h173_33 => ?_) (fun h => by exfalso; omega)
            refine j_iload (q := 193) F dL_law_191 rfl 8 rfl ?_
            refine j_iload (q := 195) F dL_law_193 rfl 7 rfl ?_
            refine j_icmp_ne (q := 198) (tgt := 219) F dL_law_195 (by decide) rfl ⟨by omega, by omega⟩ ⟨by omega, by omega⟩ (fun h => by exfalso; omega) (fun h195_34 => ?_)
            refine j_aload_n (q := 199) F dL_law_198 rfl rfl 1 rfl ?_
            refine j_iload (q := 201) F dL_law_199 rfl 7 rfl ?_
            refine j_iconst (q := 202) F dL_law_201 rfl ?_
            refine j_callVI (q := 205) F [vI (Mq 83 0), vI 0] (ct_X6_word l X hX B_164 hI.1 (Mq 83 0) 0 ⟨by omega, by omega⟩ ⟨by omega, by omega⟩) gL_law_X6_word rfl cd_X6_word ⟨by first | exact Nat.le_of_ble_eq_true rfl | (simp only [rm]; omega) | (simp [rm, vI, vR, Value.category]; omega), by first | exact Nat.le_of_ble_eq_true rfl | (simp only [rm]; omega) | (simp [rm, vI, vR, Value.category]; omega), by first | exact Nat.le_of_ble_eq_true rfl | (simp only [rm]; omega) | (simp [rm, vI, vR, Value.category]; omega), by first | exact Nat.le_of_ble_eq_true rfl | (simp only [rm]; omega) | (simp [rm, vI, vR, Value.category]; omega)⟩ wr0 rfl rfl rfl (Nat.le_of_ble_eq_true rfl) dL_law_202 rfl (fun r_202 M_202 h_202 => ?_)
            obtain ⟨hI, er_202⟩ := q_w0 hI ⟨by omega, by omega⟩ h_202
            subst er_202
            refine j_iconst (q := 206) F dL_law_205 rfl ?_
            refine j_iload (q := 208) F dL_law_206 rfl 5 rfl ?_
            refine j_bipush (q := 210) F dL_law_208 rfl (by decide) ?_
            refine j_irem (q := 211) F dL_law_210 rfl ⟨by omega, by omega⟩ ⟨by omega, by omega⟩ ?_
            refine j_iadd (q := 212) (z := 1 + ((y / 6) % 8)) F dL_law_211 rfl rfl ?_
            refine j_icmp_ne (q := 215) (tgt := 219) F dL_law_212 (by decide) rfl ⟨by omega, by omega⟩ ⟨by omega, by omega⟩ (fun h => by exfalso; omega) (fun h212_36 => ?_)
            refine j_iconst (q := 216) F dL_law_215 rfl ?_
            refine j_goto (q := 220) F dL_law_216 (by decide) ?_
            refine j_istore_n (q := 221) (lv' := [(0, Value.ref b), (1, vR X 0), (2, vI 1), (3, vI k), (4, vI y), (5, vI (y / 6)), (6, vI (Mq 83 3)), (7, vI (Mq 83 0)), (8, vI (Mq 83 0))]) F dL_law_220 rfl rfl (by decide) rfl rfl ?_
            refine j_goto (q := 505) F dL_law_221 (by decide) ?_
            refine j_sub (lv' := [(0, Value.ref b), (1, vR X 0), (2, vI 1), (3, vI k), (4, vI y), (5, vI (y / 6)), (6, vI (Mq 83 3)), (7, vI (Mq 83 0))]) [0, 1, 2, 3, 4, 5, 6, 7] rfl ?_
            exact CUT505 M_202 (by exact hI.rb)
        refine j_iload_n (q := 107) F dL_law_106 rfl rfl 3 rfl ?_
        refine j_bipush (q := 109) F dL_law_107 rfl (by decide) ?_
        refine j_icmp_ge (q := 112) (tgt := 116) F dL_law_109 (by decide) rfl ⟨by omega, by omega⟩ ⟨by decide, by decide⟩ (fun h109_37 => ?_) (fun h109_37 => ?_)
        · skip
          refine j_iload (q := 118) F dL_law_116 rfl 4 rfl ?_
          refine j_bipush (q := 120) F dL_law_118 rfl (by decide) ?_
          refine j_irem (q := 121) F dL_law_120 rfl ⟨by omega, by omega⟩ ⟨by omega, by omega⟩ ?_
          rcases (show y % 6 = 0 ∨ y % 6 = 1 ∨ y % 6 = 2 ∨ y % 6 = 3 ∨ y % 6 = 4 ∨ (y % 6 < 0 ∨ 4 < y % 6) by omega) with hs_38 | hs_38 | hs_38 | hs_38 | hs_38 | hs_38
          · rw [hs_38]
            refine j_tableIn (tgt := 156) F dL_law_121 ⟨by decide, by decide⟩ ⟨by decide, by decide⟩ rfl (by decide) ?_
            exact CUT156  
          · rw [hs_38]
            refine j_tableIn (tgt := 156) F dL_law_121 ⟨by decide, by decide⟩ ⟨by decide, by decide⟩ rfl (by decide) ?_
            exact CUT156  
          · rw [hs_38]
            refine j_tableIn (tgt := 224) F dL_law_121 ⟨by decide, by decide⟩ ⟨by decide, by decide⟩ rfl (by decide) ?_
            refine j_iload (q := 226) F dL_law_224 rfl 6 rfl ?_
            refine j_if_ne (q := 229) (tgt := 234) F dL_law_226 (by decide) rfl ⟨by omega, by omega⟩ (fun h226_39 => ?_) (fun h226_39 => ?_)
            · skip
              have hlp : 0 < Mq 83 3 := by omega
              have hmd := mod_bd (z := y / 6) hlp
              have hlx : isL (Mq 83) (y / 6 % Mq 83 3) := ⟨hmd.1, hmd.2⟩
              refine j_aload_n (q := 235) F dL_law_234 rfl rfl 1 rfl ?_
              refine j_iload (q := 237) F dL_law_235 rfl 5 rfl ?_
              refine j_iload (q := 239) F dL_law_237 rfl 6 rfl ?_
              refine j_irem (q := 240) F dL_law_239 rfl ⟨by omega, by omega⟩ ⟨by omega, by omega⟩ ?_
              refine j_callVI (q := 243) F [vI ((y / 6) % (Mq 83 3))] (ct_X6_pull l X hX M_101 hI.1 ((y / 6) % (Mq 83 3)) ⟨by omega, by omega⟩) gL_law_X6_pull rfl cd_X6_pull ⟨by first | exact Nat.le_of_ble_eq_true rfl | (simp only [rm]; omega) | (simp [rm, vI, vR, Value.category]; omega), by first | exact Nat.le_of_ble_eq_true rfl | (simp only [rm]; omega) | (simp [rm, vI, vR, Value.category]; omega), by first | exact Nat.le_of_ble_eq_true rfl | (simp only [rm]; omega) | (simp [rm, vI, vR, Value.category]; omega), by first | exact Nat.le_of_ble_eq_true rfl | (simp only [rm]; omega) | (simp [rm, vI, vR, Value.category]; omega)⟩ wr0 rfl rfl rfl (Nat.le_of_ble_eq_true rfl) dL_law_240 rfl (fun r_240 M_240 h_240 => ?_)
              obtain ⟨P_240, hc⟩ := pull_of hI hlx h_240
              refine j_mix (N := P_240) ?_
              generalize mixM M_240 P_240 = B_240 at hc ⊢
              rcases hc with ⟨-, rfl, hI⟩ | ⟨-, hI, e3, ⟨rfl, -⟩ | ⟨rfl, -, pl, pp, pn⟩, -⟩
              · skip
                refine j_istore (q := 245) (lv' := [(0, Value.ref b), (1, vR X 0), (2, vI 1), (3, vI k), (4, vI y), (5, vI (y / 6)), (6, vI (Mq 83 3)), (7, vI (Mq 83 0)), (9, vI ((-2)))]) F dL_law_243 rfl (by decide) rfl rfl ?_
                refine j_iload (q := 247) F dL_law_245 rfl 8 rfl ?_
                refine j_bipush (q := 249) F dL_law_247 rfl (by decide) ?_
                refine j_icmp_eq (q := 252) (tgt := 273) F dL_law_249 (by decide) rfl ⟨by decide, by decide⟩ ⟨by decide, by decide⟩ (fun _ => ?_) (fun h => absurd h (by decide))
                refine j_iconst (q := 274) F dL_law_273 rfl ?_
                refine j_goto (q := 278) F dL_law_274 (by decide) ?_
                refine j_istore_n (q := 279) (lv' := [(0, Value.ref b), (1, vR X 0), (2, vI 1), (3, vI k), (4, vI y), (5, vI (y / 6)), (6, vI (Mq 83 3)), (7, vI (Mq 83 0)), (9, vI ((-2)))]) F dL_law_278 rfl rfl (by decide) rfl rfl ?_
                refine j_goto (q := 505) F dL_law_279 (by decide) ?_
                refine j_sub (lv' := [(0, Value.ref b), (1, vR X 0), (2, vI 1), (3, vI k), (4, vI y), (5, vI (y / 6)), (6, vI (Mq 83 3)), (7, vI (Mq 83 0))]) [0, 1, 2, 3, 4, 5, 6, 7] rfl ?_
                exact CUT505 B_240 (by exact hI.rb)
              · skip
                refine j_istore (q := 245) (lv' := [(0, Value.ref b), (1, vR X 0), (2, vI 1), (3, vI k), (4, vI y), (5, vI (y / 6)), (6, vI (Mq 83 3)), (7, vI (Mq 83 0)), (9, vI (Mq 83 3 - 1))]) F dL_law_243 rfl (by decide) rfl rfl ?_
                refine j_iload (q := 247) F dL_law_245 rfl 8 rfl ?_
                refine j_bipush (q := 249) F dL_law_247 rfl (by decide) ?_
                refine j_icmp_eq (q := 252) (tgt := 273) F dL_law_249 (by decide) rfl ⟨by omega, by omega⟩ ⟨by decide, by decide⟩ (fun h => by exfalso; omega) (fun h249_41 => ?_)
                refine j_iload (q := 254) F dL_law_252 rfl 8 rfl ?_
                refine j_iload (q := 256) F dL_law_254 rfl 6 rfl ?_
                refine j_icmp_lt (q := 259) (tgt := 273) F dL_law_256 (by decide) rfl ⟨by omega, by omega⟩ ⟨by omega, by omega⟩ (fun h256_42 => ?_) (fun h => by exfalso; omega)
                refine j_iconst (q := 274) F dL_law_273 rfl ?_
                refine j_goto (q := 278) F dL_law_274 (by decide) ?_
                refine j_istore_n (q := 279) (lv' := [(0, Value.ref b), (1, vR X 0), (2, vI 1), (3, vI k), (4, vI y), (5, vI (y / 6)), (6, vI (Mq 83 3)), (7, vI (Mq 83 0)), (9, vI (Mq 83 3 - 1))]) F dL_law_278 rfl rfl (by decide) rfl rfl ?_
                refine j_goto (q := 505) F dL_law_279 (by decide) ?_
                refine j_sub (lv' := [(0, Value.ref b), (1, vR X 0), (2, vI 1), (3, vI k), (4, vI y), (5, vI (y / 6)), (6, vI (Mq 83 3)), (7, vI (Mq 83 0))]) [0, 1, 2, 3, 4, 5, 6, 7] rfl ?_
                exact CUT505 B_240 (by exact hI.rb)
              · skip
                refine j_istore (q := 245) (lv' := [(0, Value.ref b), (1, vR X 0), (2, vI 1), (3, vI k), (4, vI y), (5, vI (y / 6)), (6, vI (Mq 83 3)), (7, vI (Mq 83 0)), (9, vI (Mq 83 3))]) F dL_law_243 rfl (by decide) rfl rfl ?_
                refine j_iload (q := 247) F dL_law_245 rfl 8 rfl ?_
                refine j_bipush (q := 249) F dL_law_247 rfl (by decide) ?_
                refine j_icmp_eq (q := 252) (tgt := 273) F dL_law_249 (by decide) rfl ⟨by omega, by omega⟩ ⟨by decide, by decide⟩ (fun h => by exfalso; omega) (fun h249_43 => ?_)
                refine j_iload (q := 254) F dL_law_252 rfl 8 rfl ?_
                refine j_iload (q := 256) F dL_law_254 rfl 6 rfl ?_
                refine j_icmp_lt (q := 259) (tgt := 273) F dL_law_256 (by decide) rfl ⟨by omega, by omega⟩ ⟨by omega, by omega⟩ (fun h => by exfalso; omega) (fun h256_44 => ?_)
                refine j_aload_n (q := 260) F dL_law_259 rfl rfl 1 rfl ?_
                refine j_iload (q := 262) F dL_law_260 rfl 5 rfl ?_
                refine j_iload (q := 264) F dL_law_262 rfl 6 rfl ?_
                refine j_irem (q := 265) F dL_law_264 rfl ⟨by omega, by omega⟩ ⟨by omega, by omega⟩ ?_
                refine j_callVI (q := 268) F [vI ((y / 6) % (Mq 83 3))] (ct_X6_push l X hX B_240 hI.1 ((y / 6) % (Mq 83 3)) ⟨by omega, by omega⟩) gL_law_X6_push rfl cd_X6_push ⟨by first | exact Nat.le_of_ble_eq_true rfl | (simp only [rm]; omega) | (simp [rm, vI, vR, Value.category]; omega), by first | exact Nat.le_of_ble_eq_true rfl | (simp only [rm]; omega) | (simp [rm, vI, vR, Value.category]; omega), by first | exact Nat.le_of_ble_eq_true rfl | (simp only [rm]; omega) | (simp [rm, vI, vR, Value.category]; omega), by first | exact Nat.le_of_ble_eq_true rfl | (simp only [rm]; omega) | (simp [rm, vI, vR, Value.category]; omega)⟩ wr0 rfl rfl rfl (Nat.le_of_ble_eq_true rfl) dL_law_265 rfl (fun r_265 M_265 h_265 => ?_)
                obtain ⟨P_265, er_265, hI⟩ := push_back hI pl pp pn h_265
                subst er_265
                refine j_mix (N := P_265) ?_
                generalize mixM M_265 P_265 = B_265 at hI ⊢
                refine j_iload (q := 270) F dL_law_268 rfl 6 rfl ?_
                refine j_icmp_ne (q := 273) (tgt := 277) F dL_law_270 (by decide) rfl ⟨by omega, by omega⟩ ⟨by omega, by omega⟩ (fun h => by exfalso; omega) (fun h270_46 => ?_)
                refine j_iconst (q := 274) F dL_law_273 rfl ?_
                refine j_goto (q := 278) F dL_law_274 (by decide) ?_
                refine j_istore_n (q := 279) (lv' := [(0, Value.ref b), (1, vR X 0), (2, vI 1), (3, vI k), (4, vI y), (5, vI (y / 6)), (6, vI (Mq 83 3)), (7, vI (Mq 83 0)), (9, vI (Mq 83 3))]) F dL_law_278 rfl rfl (by decide) rfl rfl ?_
                refine j_goto (q := 505) F dL_law_279 (by decide) ?_
                refine j_sub (lv' := [(0, Value.ref b), (1, vR X 0), (2, vI 1), (3, vI k), (4, vI y), (5, vI (y / 6)), (6, vI (Mq 83 3)), (7, vI (Mq 83 0))]) [0, 1, 2, 3, 4, 5, 6, 7] rfl ?_
                exact CUT505 B_265 (by exact hI.rb)
            · skip
              refine j_bipush (q := 231) F dL_law_229 rfl (by decide) ?_
              refine j_goto (q := 243) F dL_law_231 (by decide) ?_
              refine j_istore (q := 245) (lv' := [(0, Value.ref b), (1, vR X 0), (2, vI 1), (3, vI k), (4, vI y), (5, vI (y / 6)), (6, vI (Mq 83 3)), (7, vI (Mq 83 0)), (9, vI ((-2)))]) F dL_law_243 rfl (by decide) rfl rfl ?_
              refine j_iload (q := 247) F dL_law_245 rfl 8 rfl ?_
              refine j_bipush (q := 249) F dL_law_247 rfl (by decide) ?_
              refine j_icmp_eq (q := 252) (tgt := 273) F dL_law_249 (by decide) rfl ⟨by decide, by decide⟩ ⟨by decide, by decide⟩ (fun _ => ?_) (fun h => absurd h (by decide))
              refine j_iconst (q := 274) F dL_law_273 rfl ?_
              refine j_goto (q := 278) F dL_law_274 (by decide) ?_
              refine j_istore_n (q := 279) (lv' := [(0, Value.ref b), (1, vR X 0), (2, vI 1), (3, vI k), (4, vI y), (5, vI (y / 6)), (6, vI (Mq 83 3)), (7, vI (Mq 83 0)), (9, vI ((-2)))]) F dL_law_278 rfl rfl (by decide) rfl rfl ?_
              refine j_goto (q := 505) F dL_law_279 (by decide) ?_
              refine j_sub (lv' := [(0, Value.ref b), (1, vR X 0), (2, vI 1), (3, vI k), (4, vI y), (5, vI (y / 6)), (6, vI (Mq 83 3)), (7, vI (Mq 83 0))]) [0, 1, 2, 3, 4, 5, 6, 7] rfl ?_
              exact CUT505 M_101 (by exact hI.rb)
          · rw [hs_38]
            refine j_tableIn (tgt := 282) F dL_law_121 ⟨by decide, by decide⟩ ⟨by decide, by decide⟩ rfl (by decide) ?_
            refine j_iload (q := 284) F dL_law_282 rfl 6 rfl ?_
            refine j_if_ne (q := 287) (tgt := 291) F dL_law_284 (by decide) rfl ⟨by omega, by omega⟩ (fun h284_47 => ?_) (fun h284_47 => ?_)
            · skip
              have hlp : 0 < Mq 83 3 := by omega
              have hmd := mod_bd (z := y / 6) hlp
              have hlx : isL (Mq 83) (y / 6 % Mq 83 3) := ⟨hmd.1, hmd.2⟩
              refine j_iload (q := 293) F dL_law_291 rfl 5 rfl ?_
              refine j_iload (q := 295) F dL_law_293 rfl 6 rfl ?_
              refine j_irem (q := 296) F dL_law_295 rfl ⟨by omega, by omega⟩ ⟨by omega, by omega⟩ ?_
              refine j_istore (q := 298) (lv' := [(0, Value.ref b), (1, vR X 0), (2, vI 1), (3, vI k), (4, vI y), (5, vI (y / 6)), (6, vI (Mq 83 3)), (7, vI (Mq 83 0)), (10, vI ((y / 6) % (Mq 83 3)))]) F dL_law_296 rfl (by decide) rfl rfl ?_
              refine j_iload (q := 300) F dL_law_298 rfl 6 rfl ?_
              refine j_if_ne (q := 303) (tgt := 307) F dL_law_300 (by decide) rfl ⟨by omega, by omega⟩ (fun h300_48 => ?_) (fun h => by exfalso; omega)
              refine j_aload_n (q := 308) F dL_law_307 rfl rfl 1 rfl ?_
              refine j_iload (q := 310) F dL_law_308 rfl 8 rfl ?_
              refine j_iconst (q := 311) F dL_law_310 rfl ?_
              have hbm0 := hD.bdall (l := y / 6 % Mq 83 3) hmd.1
              have hbm1 := hD.bdall (l := y / 6 % Mq 83 3 + 1) (by omega)
              refine j_callVI (q := 314) F [vI ((y / 6) % (Mq 83 3)), vI 1] (ct_X6_line l X hX M_101 hI.1 ((y / 6) % (Mq 83 3)) ⟨by omega, by omega⟩ 1 ⟨by omega, by omega⟩) gL_law_X6_line rfl cd_X6_line ⟨by first | exact Nat.le_of_ble_eq_true rfl | (simp only [rm]; omega) | (simp [rm, vI, vR, Value.category]; omega), by first | exact Nat.le_of_ble_eq_true rfl | (simp only [rm]; omega) | (simp [rm, vI, vR, Value.category]; omega), by first | exact Nat.le_of_ble_eq_true rfl | (simp only [rm]; omega) | (simp [rm, vI, vR, Value.category]; omega), by first | exact Nat.le_of_ble_eq_true rfl | (simp only [rm]; omega) | (simp [rm, vI, vR, Value.category]; omega)⟩ wr0 rfl rfl rfl (Nat.le_of_ble_eq_true rfl) dL_law_311 rfl (fun r_311 M_311 h_311 => ?_)
              obtain ⟨hI, er_311⟩ := q_l1 hI hlx h_311
              subst er_311
              refine j_istore (q := 316) (lv' := [(0, Value.ref b), (1, vR X 0), (2, vI 1), (3, vI k), (4, vI y), (5, vI (y / 6)), (6, vI (Mq 83 3)), (7, vI (Mq 83 0)), (10, vI ((y / 6) % (Mq 83 3))), (11, vI (sd (Mq 83) (((y / 6) % (Mq 83 3)) + 1) - sd (Mq 83) ((y / 6) % (Mq 83 3))))]) F dL_law_314 rfl (by decide) rfl rfl ?_
              refine j_iload (q := 318) F dL_law_316 rfl 6 rfl ?_
              refine j_if_ne (q := 321) (tgt := 326) F dL_law_318 (by decide) rfl ⟨by omega, by omega⟩ (fun h318_50 => ?_) (fun h => by exfalso; omega)
              refine j_aload_n (q := 327) F dL_law_326 rfl rfl 1 rfl ?_
              refine j_iload (q := 329) F dL_law_327 rfl 8 rfl ?_
              refine j_callVI (q := 332) F [vI ((y / 6) % (Mq 83 3))] (ct_X6_push l X hX M_311 hI.1 ((y / 6) % (Mq 83 3)) ⟨by omega, by omega⟩) gL_law_X6_push rfl cd_X6_push ⟨by first | exact Nat.le_of_ble_eq_true rfl | (simp only [rm]; omega) | (simp [rm, vI, vR, Value.category]; omega), by first | exact Nat.le_of_ble_eq_true rfl | (simp only [rm]; omega) | (simp [rm, vI, vR, Value.category]; omega), by first | exact Nat.le_of_ble_eq_true rfl | (simp only [rm]; omega) | (simp [rm, vI, vR, Value.category]; omega), by first | exact Nat.le_of_ble_eq_true rfl | (simp only [rm]; omega) | (simp [rm, vI, vR, Value.category]; omega)⟩ wr0 rfl rfl rfl (Nat.le_of_ble_eq_true rfl) dL_law_329 rfl (fun r_329 M_329 h_329 => ?_)
              obtain ⟨P_329, hc⟩ := push_of hI hlx h_329
              refine j_mix (N := P_329) ?_
              generalize mixM M_329 P_329 = B_329 at hc ⊢
              rcases hc with ⟨-, rfl, hI⟩ | ⟨-, hI, hc0, e3, cw, pl, pn⟩
              · skip
                refine j_istore (q := 334) (lv' := [(0, Value.ref b), (1, vR X 0), (2, vI 1), (3, vI k), (4, vI y), (5, vI (y / 6)), (6, vI (Mq 83 3)), (7, vI (Mq 83 0)), (10, vI ((y / 6) % (Mq 83 3))), (11, vI (sd (Mq 83) (((y / 6) % (Mq 83 3)) + 1) - sd (Mq 83) ((y / 6) % (Mq 83 3)))), (12, vI ((-2)))]) F dL_law_332 rfl (by decide) rfl rfl ?_
                refine j_iload (q := 336) F dL_law_334 rfl 10 rfl ?_
                refine j_bipush (q := 338) F dL_law_336 rfl (by decide) ?_
                refine j_icmp_eq (q := 341) (tgt := 385) F dL_law_338 (by decide) rfl ⟨by decide, by decide⟩ ⟨by decide, by decide⟩ (fun _ => ?_) (fun h => absurd h (by decide))
                refine j_iconst (q := 386) F dL_law_385 rfl ?_
                refine j_goto (q := 390) F dL_law_386 (by decide) ?_
                refine j_istore_n (q := 391) (lv' := [(0, Value.ref b), (1, vR X 0), (2, vI 1), (3, vI k), (4, vI y), (5, vI (y / 6)), (6, vI (Mq 83 3)), (7, vI (Mq 83 0)), (10, vI ((y / 6) % (Mq 83 3))), (11, vI (sd (Mq 83) (((y / 6) % (Mq 83 3)) + 1) - sd (Mq 83) ((y / 6) % (Mq 83 3)))), (12, vI ((-2)))]) F dL_law_390 rfl rfl (by decide) rfl rfl ?_
                refine j_goto (q := 505) F dL_law_391 (by decide) ?_
                refine j_sub (lv' := [(0, Value.ref b), (1, vR X 0), (2, vI 1), (3, vI k), (4, vI y), (5, vI (y / 6)), (6, vI (Mq 83 3)), (7, vI (Mq 83 0))]) [0, 1, 2, 3, 4, 5, 6, 7] rfl ?_
                exact CUT505 B_329 (by exact hI.rb)
              · skip
                refine j_istore (q := 334) (lv' := [(0, Value.ref b), (1, vR X 0), (2, vI 1), (3, vI k), (4, vI y), (5, vI (y / 6)), (6, vI (Mq 83 3)), (7, vI (Mq 83 0)), (10, vI ((y / 6) % (Mq 83 3))), (11, vI (sd (Mq 83) (((y / 6) % (Mq 83 3)) + 1) - sd (Mq 83) ((y / 6) % (Mq 83 3)))), (12, vI r_329)]) F dL_law_332 rfl (by decide) rfl rfl ?_
                refine j_iload (q := 336) F dL_law_334 rfl 10 rfl ?_
                refine j_bipush (q := 338) F dL_law_336 rfl (by decide) ?_
                refine j_icmp_eq (q := 341) (tgt := 385) F dL_law_338 (by decide) rfl ⟨by omega, by omega⟩ ⟨by decide, by decide⟩ (fun h => by exfalso; omega) (fun h338_52 => ?_)
                refine j_aload_n (q := 342) F dL_law_341 rfl rfl 1 rfl ?_
                refine j_iload (q := 344) F dL_law_342 rfl 8 rfl ?_
                refine j_iconst (q := 345) F dL_law_344 rfl ?_
                refine j_callVI (q := 348) F [vI ((y / 6) % (Mq 83 3)), vI 1] (ct_X6_line l X hX B_329 hI.1 ((y / 6) % (Mq 83 3)) ⟨by omega, by omega⟩ 1 ⟨by omega, by omega⟩) gL_law_X6_line rfl cd_X6_line ⟨by first | exact Nat.le_of_ble_eq_true rfl | (simp only [rm]; omega) | (simp [rm, vI, vR, Value.category]; omega), by first | exact Nat.le_of_ble_eq_true rfl | (simp only [rm]; omega) | (simp [rm, vI, vR, Value.category]; omega), by first | exact Nat.le_of_ble_eq_true rfl | (simp only [rm]; omega) | (simp [rm, vI, vR, Value.category]; omega), by first | exact Nat.le_of_ble_eq_true rfl | (simp only [rm]; omega) | (simp [rm, vI, vR, Value.category]; omega)⟩ wr0 rfl rfl rfl (Nat.le_of_ble_eq_true rfl) dL_law_345 rfl (fun r_345 M_345 h_345 => ?_)
                obtain ⟨hI, er_345⟩ := q_l1 hI pl h_345
                subst er_345
                refine j_iload (q := 350) F dL_law_348 rfl 9 rfl ?_
                refine j_iconst (q := 351) F dL_law_350 rfl ?_
                refine j_isub (q := 352) (z := (sd (Mq 83) (((y / 6) % (Mq 83 3)) + 1) - sd (Mq 83) ((y / 6) % (Mq 83 3))) - 1) F dL_law_351 rfl rfl ?_
                refine j_icmp_ne (q := 355) (tgt := 389) F dL_law_352 (by decide) rfl ⟨by omega, by omega⟩ ⟨by omega, by omega⟩ (fun h => by exfalso; omega) (fun h352_54 => ?_)
                refine j_iload (q := 357) F dL_law_355 rfl 5 rfl ?_
                refine j_iconst (q := 358) F dL_law_357 rfl ?_
                refine j_irem (q := 359) F dL_law_358 rfl ⟨by omega, by omega⟩ ⟨by omega, by omega⟩ ?_
                refine j_if_eq (q := 362) (tgt := 385) F dL_law_359 (by decide) rfl ⟨by omega, by omega⟩ (fun h359_55 => ?_) (fun h359_55 => ?_)
                · skip
                  refine j_iconst (q := 386) F dL_law_385 rfl ?_
                  refine j_goto (q := 390) F dL_law_386 (by decide) ?_
                  refine j_istore_n (q := 391) (lv' := [(0, Value.ref b), (1, vR X 0), (2, vI 1), (3, vI k), (4, vI y), (5, vI (y / 6)), (6, vI (Mq 83 3)), (7, vI (Mq 83 0)), (10, vI ((y / 6) % (Mq 83 3))), (11, vI (sd (Mq 83) (((y / 6) % (Mq 83 3)) + 1) - sd (Mq 83) ((y / 6) % (Mq 83 3)))), (12, vI r_329)]) F dL_law_390 rfl rfl (by decide) rfl rfl ?_
                  refine j_goto (q := 505) F dL_law_391 (by decide) ?_
                  refine j_sub (lv' := [(0, Value.ref b), (1, vR X 0), (2, vI 1), (3, vI k), (4, vI y), (5, vI (y / 6)), (6, vI (Mq 83 3)), (7, vI (Mq 83 0))]) [0, 1, 2, 3, 4, 5, 6, 7] rfl ?_
                  exact CUT505 M_345 (by exact hI.rb)
                · skip
                  refine j_aload_n (q := 363) F dL_law_362 rfl rfl 1 rfl ?_
                  refine j_iload (q := 365) F dL_law_363 rfl 8 rfl ?_
                  refine j_callVI (q := 368) F [vI ((y / 6) % (Mq 83 3))] (ct_X6_pull l X hX M_345 hI.1 ((y / 6) % (Mq 83 3)) ⟨by omega, by omega⟩) gL_law_X6_pull rfl cd_X6_pull ⟨by first | exact Nat.le_of_ble_eq_true rfl | (simp only [rm]; omega) | (simp [rm, vI, vR, Value.category]; omega), by first | exact Nat.le_of_ble_eq_true rfl | (simp only [rm]; omega) | (simp [rm, vI, vR, Value.category]; omega), by first | exact Nat.le_of_ble_eq_true rfl | (simp only [rm]; omega) | (simp [rm, vI, vR, Value.category]; omega), by first | exact Nat.le_of_ble_eq_true rfl | (simp only [rm]; omega) | (simp [rm, vI, vR, Value.category]; omega)⟩ wr0 rfl rfl rfl (Nat.le_of_ble_eq_true rfl) dL_law_365 rfl (fun r_365 M_365 h_365 => ?_)
                  obtain ⟨P_365, er_365, hI, pl2, cw2⟩ := pull_back2 hI pl pn hc0 e3 h_365
                  subst er_365
                  refine j_mix (N := P_365) ?_
                  generalize mixM M_365 P_365 = B_365 at hI pl2 cw2 ⊢
                  refine j_iload (q := 370) F dL_law_368 rfl 6 rfl ?_
                  refine j_icmp_ne (q := 373) (tgt := 389) F dL_law_370 (by decide) rfl ⟨by omega, by omega⟩ ⟨by omega, by omega⟩ (fun h => by exfalso; omega) (fun h370_57 => ?_)
                  refine j_aload_n (q := 374) F dL_law_373 rfl rfl 1 rfl ?_
                  refine j_iload (q := 376) F dL_law_374 rfl 8 rfl ?_
                  refine j_iconst (q := 377) F dL_law_376 rfl ?_
                  refine j_callVI (q := 380) F [vI ((y / 6) % (Mq 83 3)), vI 1] (ct_X6_line l X hX B_365 hI.1 ((y / 6) % (Mq 83 3)) ⟨by omega, by omega⟩ 1 ⟨by omega, by omega⟩) gL_law_X6_line rfl cd_X6_line ⟨by first | exact Nat.le_of_ble_eq_true rfl | (simp only [rm]; omega) | (simp [rm, vI, vR, Value.category]; omega), by first | exact Nat.le_of_ble_eq_true rfl | (simp only [rm]; omega) | (simp [rm, vI, vR, Value.category]; omega), by first | exact Nat.le_of_ble_eq_true rfl | (simp only [rm]; omega) | (simp [rm, vI, vR, Value.category]; omega), by first | exact Nat.le_of_ble_eq_true rfl | (simp only [rm]; omega) | (simp [rm, vI, vR, Value.category]; omega)⟩ wr0 rfl rfl rfl (Nat.le_of_ble_eq_true rfl) dL_law_377 rfl (fun r_377 M_377 h_377 => ?_)
                  obtain ⟨hI, er_377⟩ := q_l1 hI pl2 h_377
                  subst er_377
                  refine j_iload (q := 382) F dL_law_380 rfl 9 rfl ?_
                  refine j_icmp_ne (q := 385) (tgt := 389) F dL_law_382 (by decide) rfl ⟨by omega, by omega⟩ ⟨by omega, by omega⟩ (fun h => by exfalso; omega) (fun h382_59 => ?_)
                  refine j_iconst (q := 386) F dL_law_385 rfl ?_
                  refine j_goto (q := 390) F dL_law_386 (by decide) ?_
                  refine j_istore_n (q := 391) (lv' := [(0, Value.ref b), (1, vR X 0), (2, vI 1), (3, vI k), (4, vI y), (5, vI (y / 6)), (6, vI (Mq 83 3)), (7, vI (Mq 83 0)), (10, vI ((y / 6) % (Mq 83 3))), (11, vI (sd (Mq 83) (((y / 6) % (Mq 83 3)) + 1) - sd (Mq 83) ((y / 6) % (Mq 83 3)))), (12, vI r_329)]) F dL_law_390 rfl rfl (by decide) rfl rfl ?_
                  refine j_goto (q := 505) F dL_law_391 (by decide) ?_
                  refine j_sub (lv' := [(0, Value.ref b), (1, vR X 0), (2, vI 1), (3, vI k), (4, vI y), (5, vI (y / 6)), (6, vI (Mq 83 3)), (7, vI (Mq 83 0))]) [0, 1, 2, 3, 4, 5, 6, 7] rfl ?_
                  exact CUT505 M_377 (by exact hI.rb)
            · skip
              refine j_iconst (q := 288) F dL_law_287 rfl ?_
              refine j_goto (q := 296) F dL_law_288 (by decide) ?_
              refine j_istore (q := 298) (lv' := [(0, Value.ref b), (1, vR X 0), (2, vI 1), (3, vI k), (4, vI y), (5, vI (y / 6)), (6, vI (Mq 83 3)), (7, vI (Mq 83 0)), (10, vI 0)]) F dL_law_296 rfl (by decide) rfl rfl ?_
              refine j_iload (q := 300) F dL_law_298 rfl 6 rfl ?_
              refine j_if_ne (q := 303) (tgt := 307) F dL_law_300 (by decide) rfl ⟨by omega, by omega⟩ (fun h => by exfalso; omega) (fun h300_60 => ?_)
              refine j_iconst (q := 304) F dL_law_303 rfl ?_
              refine j_goto (q := 314) F dL_law_304 (by decide) ?_
              refine j_istore (q := 316) (lv' := [(0, Value.ref b), (1, vR X 0), (2, vI 1), (3, vI k), (4, vI y), (5, vI (y / 6)), (6, vI (Mq 83 3)), (7, vI (Mq 83 0)), (10, vI 0), (11, vI 0)]) F dL_law_314 rfl (by decide) rfl rfl ?_
              refine j_iload (q := 318) F dL_law_316 rfl 6 rfl ?_
              refine j_if_ne (q := 321) (tgt := 326) F dL_law_318 (by decide) rfl ⟨by omega, by omega⟩ (fun h => by exfalso; omega) (fun h318_61 => ?_)
              refine j_bipush (q := 323) F dL_law_321 rfl (by decide) ?_
              refine j_goto (q := 332) F dL_law_323 (by decide) ?_
              refine j_istore (q := 334) (lv' := [(0, Value.ref b), (1, vR X 0), (2, vI 1), (3, vI k), (4, vI y), (5, vI (y / 6)), (6, vI (Mq 83 3)), (7, vI (Mq 83 0)), (10, vI 0), (11, vI 0), (12, vI ((-2)))]) F dL_law_332 rfl (by decide) rfl rfl ?_
              refine j_iload (q := 336) F dL_law_334 rfl 10 rfl ?_
              refine j_bipush (q := 338) F dL_law_336 rfl (by decide) ?_
              refine j_icmp_eq (q := 341) (tgt := 385) F dL_law_338 (by decide) rfl ⟨by decide, by decide⟩ ⟨by decide, by decide⟩ (fun _ => ?_) (fun h => absurd h (by decide))
              refine j_iconst (q := 386) F dL_law_385 rfl ?_
              refine j_goto (q := 390) F dL_law_386 (by decide) ?_
              refine j_istore_n (q := 391) (lv' := [(0, Value.ref b), (1, vR X 0), (2, vI 1), (3, vI k), (4, vI y), (5, vI (y / 6)), (6, vI (Mq 83 3)), (7, vI (Mq 83 0)), (10, vI 0), (11, vI 0), (12, vI ((-2)))]) F dL_law_390 rfl rfl (by decide) rfl rfl ?_
              refine j_goto (q := 505) F dL_law_391 (by decide) ?_
              refine j_sub (lv' := [(0, Value.ref b), (1, vR X 0), (2, vI 1), (3, vI k), (4, vI y), (5, vI (y / 6)), (6, vI (Mq 83 3)), (7, vI (Mq 83 0))]) [0, 1, 2, 3, 4, 5, 6, 7] rfl ?_
              exact CUT505 M_101 (by exact hI.rb)
          · rw [hs_38]
            refine j_tableIn (tgt := 394) F dL_law_121 ⟨by decide, by decide⟩ ⟨by decide, by decide⟩ rfl (by decide) ?_
            refine j_iload (q := 396) F dL_law_394 rfl 6 rfl ?_
            refine j_if_eq (q := 399) (tgt := 418) F dL_law_396 (by decide) rfl ⟨by omega, by omega⟩ (fun h396_62 => ?_) (fun h396_62 => ?_)
            · skip
              refine j_iconst (q := 419) F dL_law_418 rfl ?_
              refine j_goto (q := 423) F dL_law_419 (by decide) ?_
              refine j_istore_n (q := 424) (lv' := [(0, Value.ref b), (1, vR X 0), (2, vI 1), (3, vI k), (4, vI y), (5, vI (y / 6)), (6, vI (Mq 83 3)), (7, vI (Mq 83 0))]) F dL_law_423 rfl rfl (by decide) rfl rfl ?_
              refine j_goto (q := 505) F dL_law_424 (by decide) ?_
              exact CUT505 M_101 (by exact hI.rb)
            · skip
              have hlp : 0 < Mq 83 3 := by omega
              have hmd := mod_bd (z := y / 6) hlp
              have hlx : isL (Mq 83) (y / 6 % Mq 83 3) := ⟨hmd.1, hmd.2⟩
              refine j_aload_n (q := 400) F dL_law_399 rfl rfl 1 rfl ?_
              refine j_iload (q := 402) F dL_law_400 rfl 5 rfl ?_
              refine j_iload (q := 404) F dL_law_402 rfl 6 rfl ?_
              refine j_irem (q := 405) F dL_law_404 rfl ⟨by omega, by omega⟩ ⟨by omega, by omega⟩ ?_
              refine j_iload (q := 407) F dL_law_405 rfl 5 rfl ?_
              refine j_bipush (q := 409) F dL_law_407 rfl (by decide) ?_
              refine j_idiv (q := 410) F dL_law_409 rfl ⟨by omega, by omega⟩ ⟨by omega, by omega⟩ ?_
              refine j_iconst (q := 411) F dL_law_410 rfl ?_
              refine j_irem (q := 412) F dL_law_411 rfl ⟨by omega, by omega⟩ ⟨by omega, by omega⟩ ?_
              refine j_callVI (q := 415) F [vI ((y / 6) % (Mq 83 3)), vI (((y / 6) / 32) % 2)] (ct_X6_freeze l X hX M_101 hI.1 ((y / 6) % (Mq 83 3)) ⟨by omega, by omega⟩ (((y / 6) / 32) % 2) ⟨by omega, by omega⟩) gL_law_X6_freeze rfl cd_X6_freeze ⟨by first | exact Nat.le_of_ble_eq_true rfl | (simp only [rm]; omega) | (simp [rm, vI, vR, Value.category]; omega), by first | exact Nat.le_of_ble_eq_true rfl | (simp only [rm]; omega) | (simp [rm, vI, vR, Value.category]; omega), by first | exact Nat.le_of_ble_eq_true rfl | (simp only [rm]; omega) | (simp [rm, vI, vR, Value.category]; omega), by first | exact Nat.le_of_ble_eq_true rfl | (simp only [rm]; omega) | (simp [rm, vI, vR, Value.category]; omega)⟩ wr0 rfl rfl rfl (Nat.le_of_ble_eq_true rfl) dL_law_412 rfl (fun r_412 M_412 h_412 => ?_)
              obtain ⟨P_412, c1, c2, hI⟩ := freeze_of hI hlx ⟨by omega, by omega⟩ h_412
              refine j_mix (N := P_412) ?_
              generalize mixM M_412 P_412 = B_412 at hI ⊢
              refine j_if_lt (q := 418) (tgt := 422) F dL_law_415 (by decide) rfl ⟨by omega, by omega⟩ (fun h => by exfalso; omega) (fun h415_64 => ?_)
              refine j_iconst (q := 419) F dL_law_418 rfl ?_
              refine j_goto (q := 423) F dL_law_419 (by decide) ?_
              refine j_istore_n (q := 424) (lv' := [(0, Value.ref b), (1, vR X 0), (2, vI 1), (3, vI k), (4, vI y), (5, vI (y / 6)), (6, vI (Mq 83 3)), (7, vI (Mq 83 0))]) F dL_law_423 rfl rfl (by decide) rfl rfl ?_
              refine j_goto (q := 505) F dL_law_424 (by decide) ?_
              exact CUT505 B_412 (by exact hI.rb)
          · skip
            refine j_tableOut (tgt := 427) F dL_law_121 ⟨by omega, by omega⟩ hs_38 (by decide) ?_
            refine j_iconst (q := 428) F dL_law_427 rfl ?_
            refine j_iload (q := 430) F dL_law_428 rfl 5 rfl ?_
            refine j_iconst (q := 431) F dL_law_430 rfl ?_
            refine j_irem (q := 432) F dL_law_431 rfl ⟨by omega, by omega⟩ ⟨by omega, by omega⟩ ?_
            refine j_iadd (q := 433) (z := 1 + ((y / 6) % 5)) F dL_law_432 rfl rfl ?_
            refine j_istore (q := 435) (lv' := [(0, Value.ref b), (1, vR X 0), (2, vI 1), (3, vI k), (4, vI y), (5, vI (y / 6)), (6, vI (Mq 83 3)), (7, vI (Mq 83 0)), (13, vI (1 + ((y / 6) % 5)))]) F dL_law_433 rfl (by decide) rfl rfl ?_
            have hsb := sol_bd hD (1 + y / 6 % 5)
            refine j_aload_n (q := 436) F dL_law_435 rfl rfl 1 rfl ?_
            refine j_iload (q := 438) F dL_law_436 rfl 8 rfl ?_
            refine j_iconst (q := 439) F dL_law_438 rfl ?_
            refine j_callVI (q := 442) F [vI (1 + ((y / 6) % 5)), vI 0] (ct_X6_plan l X hX M_101 hI.1 (1 + ((y / 6) % 5)) 0 ⟨by omega, by omega⟩ ⟨by omega, by omega⟩) gL_law_X6_plan rfl cd_X6_plan ⟨by first | exact Nat.le_of_ble_eq_true rfl | (simp only [rm]; omega) | (simp [rm, vI, vR, Value.category]; omega), by first | exact Nat.le_of_ble_eq_true rfl | (simp only [rm]; omega) | (simp [rm, vI, vR, Value.category]; omega), by first | exact Nat.le_of_ble_eq_true rfl | (simp only [rm]; omega) | (simp [rm, vI, vR, Value.category]; omega), by first | exact Nat.le_of_ble_eq_true rfl | (simp only [rm]; omega) | (simp [rm, vI, vR, Value.category]; omega)⟩ wr0 rfl rfl rfl (Nat.le_of_ble_eq_true rfl) dL_law_439 rfl (fun pl M_439 h_439 => ?_)
            obtain ⟨hI, hpl⟩ := q_p0 hI ⟨by omega, by omega⟩ h_439
            refine j_istore (q := 444) (lv' := [(0, Value.ref b), (1, vR X 0), (2, vI 1), (3, vI k), (4, vI y), (5, vI (y / 6)), (6, vI (Mq 83 3)), (7, vI (Mq 83 0)), (13, vI (1 + ((y / 6) % 5))), (14, vI pl)]) F dL_law_442 rfl (by decide) rfl rfl ?_
            refine j_aload_n (q := 445) F dL_law_444 rfl rfl 1 rfl ?_
            refine j_iload (q := 447) F dL_law_445 rfl 8 rfl ?_
            refine j_callVI (q := 450) F [vI (1 + ((y / 6) % 5))] (ct_X6_dam l X hX M_439 hI.1 (1 + ((y / 6) % 5)) ⟨by omega, by omega⟩) gL_law_X6_dam rfl cd_X6_dam ⟨by first | exact Nat.le_of_ble_eq_true rfl | (simp only [rm]; omega) | (simp [rm, vI, vR, Value.category]; omega), by first | exact Nat.le_of_ble_eq_true rfl | (simp only [rm]; omega) | (simp [rm, vI, vR, Value.category]; omega), by first | exact Nat.le_of_ble_eq_true rfl | (simp only [rm]; omega) | (simp [rm, vI, vR, Value.category]; omega), by first | exact Nat.le_of_ble_eq_true rfl | (simp only [rm]; omega) | (simp [rm, vI, vR, Value.category]; omega)⟩ wr0 rfl rfl rfl (Nat.le_of_ble_eq_true rfl) dL_law_447 rfl (fun r_447 M_447 h_447 => ?_)
            obtain ⟨P_447, hc⟩ := dam_of hI ⟨by omega, by omega⟩ h_447
            refine j_mix (N := P_447) ?_
            generalize mixM M_447 P_447 = B_447 at hc ⊢
            rcases hc with ⟨c1, rfl, hI⟩ | ⟨c1, rfl, hI, c4, c5⟩
            · skip
              refine j_istore (q := 452) (lv' := [(0, Value.ref b), (1, vR X 0), (2, vI 1), (3, vI k), (4, vI y), (5, vI (y / 6)), (6, vI (Mq 83 3)), (7, vI (Mq 83 0)), (13, vI (1 + ((y / 6) % 5))), (14, vI pl), (15, vI ((-2)))]) F dL_law_450 rfl (by decide) rfl rfl ?_
              refine j_iload (q := 454) F dL_law_452 rfl 9 rfl ?_
              refine j_if_ge (q := 457) (tgt := 472) F dL_law_454 (by decide) rfl ⟨by omega, by omega⟩ (fun h => by exfalso; omega) (fun h454_67 => ?_)
              refine j_iload (q := 459) F dL_law_457 rfl 10 rfl ?_
              refine j_bipush (q := 461) F dL_law_459 rfl (by decide) ?_
              refine j_icmp_ne (q := 464) (tgt := 468) F dL_law_461 (by decide) rfl ⟨by decide, by decide⟩ ⟨by decide, by decide⟩ (fun h => absurd h (by decide)) (fun _ => ?_)
              refine j_iconst (q := 465) F dL_law_464 rfl ?_
              refine j_goto (q := 504) F dL_law_465 (by decide) ?_
              refine j_istore_n (q := 505) (lv' := [(0, Value.ref b), (1, vR X 0), (2, vI 1), (3, vI k), (4, vI y), (5, vI (y / 6)), (6, vI (Mq 83 3)), (7, vI (Mq 83 0)), (13, vI (1 + ((y / 6) % 5))), (14, vI pl), (15, vI ((-2)))]) F dL_law_504 rfl rfl (by decide) rfl rfl ?_
              refine j_sub (lv' := [(0, Value.ref b), (1, vR X 0), (2, vI 1), (3, vI k), (4, vI y), (5, vI (y / 6)), (6, vI (Mq 83 3)), (7, vI (Mq 83 0))]) [0, 1, 2, 3, 4, 5, 6, 7] rfl ?_
              exact CUT505 B_447 (by exact hI.rb)
            · skip
              refine j_istore (q := 452) (lv' := [(0, Value.ref b), (1, vR X 0), (2, vI 1), (3, vI k), (4, vI y), (5, vI (y / 6)), (6, vI (Mq 83 3)), (7, vI (Mq 83 0)), (13, vI (1 + ((y / 6) % 5))), (14, vI pl), (15, vI ((SOL (Mq 83) (1 + y / 6 % 5)).1 / 100000))]) F dL_law_450 rfl (by decide) rfl rfl ?_
              refine j_iload (q := 454) F dL_law_452 rfl 9 rfl ?_
              refine j_if_ge (q := 457) (tgt := 472) F dL_law_454 (by decide) rfl ⟨by omega, by omega⟩ (fun h454_68 => ?_) (fun h => by exfalso; omega)
              refine j_iload (q := 474) F dL_law_472 rfl 10 rfl ?_
              refine j_iload (q := 476) F dL_law_474 rfl 9 rfl ?_
              refine j_icmp_ne (q := 479) (tgt := 503) F dL_law_476 (by decide) rfl ⟨by omega, by omega⟩ ⟨by omega, by omega⟩ (fun h => by exfalso; omega) (fun h476_69 => ?_)
              have hlb := LR_bd hI.hD
              refine j_aload_n (q := 480) F dL_law_479 rfl rfl 1 rfl ?_
              refine j_iconst (q := 481) F dL_law_480 rfl ?_
              refine j_callVI (q := 484) F [vI 5] (ct_X6_count l X hX B_447 hI.1 5 ⟨by omega, by omega⟩) gL_law_X6_count rfl cd_X6_count ⟨by first | exact Nat.le_of_ble_eq_true rfl | (simp only [rm]; omega) | (simp [rm, vI, vR, Value.category]; omega), by first | exact Nat.le_of_ble_eq_true rfl | (simp only [rm]; omega) | (simp [rm, vI, vR, Value.category]; omega), by first | exact Nat.le_of_ble_eq_true rfl | (simp only [rm]; omega) | (simp [rm, vI, vR, Value.category]; omega), by first | exact Nat.le_of_ble_eq_true rfl | (simp only [rm]; omega) | (simp [rm, vI, vR, Value.category]; omega)⟩ wr0 rfl rfl rfl (Nat.le_of_ble_eq_true rfl) dL_law_481 rfl (fun r_481 M_481 h_481 => ?_)
              obtain ⟨hI, er_481⟩ := q_c5 hI  h_481
              subst er_481
              refine j_iload (q := 486) F dL_law_484 rfl 8 rfl ?_
              refine j_icmp_gt (q := 489) (tgt := 503) F dL_law_486 (by decide) rfl ⟨by omega, by omega⟩ ⟨by omega, by omega⟩ (fun h => by exfalso; omega) (fun h486_71 => ?_)
              refine j_aload_n (q := 490) F dL_law_489 rfl rfl 1 rfl ?_
              refine j_iconst (q := 491) F dL_law_490 rfl ?_
              refine j_callVI (q := 494) F [vI 0] (ct_X6_count l X hX M_481 hI.1 0 ⟨by omega, by omega⟩) gL_law_X6_count rfl cd_X6_count ⟨by first | exact Nat.le_of_ble_eq_true rfl | (simp only [rm]; omega) | (simp [rm, vI, vR, Value.category]; omega), by first | exact Nat.le_of_ble_eq_true rfl | (simp only [rm]; omega) | (simp [rm, vI, vR, Value.category]; omega), by first | exact Nat.le_of_ble_eq_true rfl | (simp only [rm]; omega) | (simp [rm, vI, vR, Value.category]; omega), by first | exact Nat.le_of_ble_eq_true rfl | (simp only [rm]; omega) | (simp [rm, vI, vR, Value.category]; omega)⟩ wr0 rfl rfl rfl (Nat.le_of_ble_eq_true rfl) dL_law_491 rfl (fun r_491 M_491 h_491 => ?_)
              obtain ⟨hI, er_491⟩ := q_c0 hI  h_491
              subst er_491
              refine j_iload (q := 496) F dL_law_494 rfl 7 rfl ?_
              refine j_icmp_ne (q := 499) (tgt := 503) F dL_law_496 (by decide) rfl ⟨by omega, by omega⟩ ⟨by omega, by omega⟩ (fun h => by exfalso; omega) (fun h496_73 => ?_)
              refine j_iconst (q := 500) F dL_law_499 rfl ?_
              refine j_goto (q := 504) F dL_law_500 (by decide) ?_
              refine j_istore_n (q := 505) (lv' := [(0, Value.ref b), (1, vR X 0), (2, vI 1), (3, vI k), (4, vI y), (5, vI (y / 6)), (6, vI (Mq 83 3)), (7, vI (Mq 83 0)), (13, vI (1 + ((y / 6) % 5))), (14, vI pl), (15, vI ((SOL (Mq 83) (1 + y / 6 % 5)).1 / 100000))]) F dL_law_504 rfl rfl (by decide) rfl rfl ?_
              refine j_sub (lv' := [(0, Value.ref b), (1, vR X 0), (2, vI 1), (3, vI k), (4, vI y), (5, vI (y / 6)), (6, vI (Mq 83 3)), (7, vI (Mq 83 0))]) [0, 1, 2, 3, 4, 5, 6, 7] rfl ?_
              exact CUT505 M_491 (by exact hI.rb)
        · skip
          refine j_iconst (q := 113) F dL_law_112 rfl ?_
          refine j_goto (q := 121) F dL_law_113 (by decide) ?_
          refine j_tableIn (tgt := 156) F dL_law_121 ⟨by decide, by decide⟩ ⟨by decide, by decide⟩ rfl (by decide) ?_
          exact CUT156  
  exact LP66 _ 0 B_50 (by exact hI.rb) (by omega) (by omega) (by exact Nat.lt_succ_self _)
