theorem cd_X6_count : yX6_count.cls = RX6 ∧ yX6_count.cls ≠ "java/lang/invoke/MethodHandle" ∧ yX6_count.cls ≠ "java/lang/invoke/VarHandle" ∧ (parseMethodDescriptor yX6_count.desc).map (fun d => d.parameters.length) = some 1 := by decide +kernel
theorem cd_X6_gap : yX6_gap.cls = RX6 ∧ yX6_gap.cls ≠ "java/lang/invoke/MethodHandle" ∧ yX6_gap.cls ≠ "java/lang/invoke/VarHandle" ∧ (parseMethodDescriptor yX6_gap.desc).map (fun d => d.parameters.length) = some 3 := by decide +kernel
theorem cd_X6_line : yX6_line.cls = RX6 ∧ yX6_line.cls ≠ "java/lang/invoke/MethodHandle" ∧ yX6_line.cls ≠ "java/lang/invoke/VarHandle" ∧ (parseMethodDescriptor yX6_line.desc).map (fun d => d.parameters.length) = some 2 := by decide +kernel
theorem cd_X6_word : yX6_word.cls = RX6 ∧ yX6_word.cls ≠ "java/lang/invoke/MethodHandle" ∧ yX6_word.cls ≠ "java/lang/invoke/VarHandle" ∧ (parseMethodDescriptor yX6_word.desc).map (fun d => d.parameters.length) = some 2 := by decide +kernel
set_option maxRecDepth 100000 in
set_option maxHeartbeats 4000000 in
theorem ct_L_holds (l : Launch) (X : Cx) (hX : Inj X) (N M : Mem) (hI : QI N M) : CtI l X yL_holds wsL_holds 6 [vR X 0] M (fun x M' => x = 1 ∧ QI N M') := by
  refine CtI_ofZ (cc := cL_holds) (maxL := 11) hX (by decide +kernel) rfl (Nat.le_of_ble_eq_true rfl) ?_
  intro zp ze zs zm zargs zbelow zmeth zc zQ F hret
  show J zp l ze (rm 6) zs zm zargs zbelow zmeth zc 0 0 zQ zs.heap X 11 M 0 [(0, vR X 0)] []
  have hD := hI.hD
  have hn := hD.1
  have hW := hD.2.1
  have hL24 := hD.L24
  have hLR := LR_bd hD
  have hbad : 0 ≤ badD (N 83) ∧ badD (N 83) ≤ 50000 := bad_bd hD (k := N 83 3) (by omega) (Int.le_refl _)
  refine j_iconst (q := 1) F dL_holds_0 rfl ?_
  refine j_istore_n (q := 2) (lv' := [(0, vR X 0), (1, vI 0)]) F dL_holds_1 rfl rfl (by decide) rfl rfl ?_
  refine j_iconst (q := 3) F dL_holds_2 rfl ?_
  refine j_istore_n (q := 4) (lv' := [(0, vR X 0), (1, vI 0), (2, vI 0)]) F dL_holds_3 rfl rfl (by decide) rfl rfl ?_
  refine j_iconst (q := 5) F dL_holds_4 rfl ?_
  refine j_istore_n (q := 6) (lv' := [(0, vR X 0), (1, vI 0), (2, vI 0), (3, vI 0)]) F dL_holds_5 rfl rfl (by decide) rfl rfl ?_
  refine j_iconst (q := 7) F dL_holds_6 rfl ?_
  refine j_istore (q := 9) (lv' := [(0, vR X 0), (1, vI 0), (2, vI 0), (3, vI 0), (4, vI 1)]) F dL_holds_7 rfl (by decide) rfl rfl ?_
  refine j_iconst (q := 10) F dL_holds_9 rfl ?_
  refine j_istore (q := 12) (lv' := [(0, vR X 0), (1, vI 0), (2, vI 0), (3, vI 0), (4, vI 1), (5, vI 0)]) F dL_holds_10 rfl (by decide) rfl rfl ?_
  have LP12 : ∀ (nn : Nat) (wd bad most ln : Int) (Mq : Mem), (QI N Mq) → (0 ≤ ln) → (ln ≤ N 83 3) → (wd = sd (N 83) ln) → (bad = cnt (fun ln => bdD (N 83) (sd (N 83) ln) (sd (N 83) (ln + 1))) ln) → (most = mx (fun _ => true) (RD (N 83)) 0 (sd (N 83) ln)) → (N 83 3 - ln).toNat < nn → J zp l ze (rm 6) zs zm zargs zbelow zmeth zc 0 0 zQ zs.heap X 11 Mq 12 [(0, vR X 0), (1, vI wd), (2, vI bad), (3, vI most), (4, vI 1), (5, vI ln)] [] := by
    intro nn
    induction nn with
    | zero => intro wd bad most ln Mq hI ln0 ln1 hwd hbd hmo hm12; exact absurd hm12 (Nat.not_lt_zero _)
    | succ nn ih12 =>
      intro wd bad most ln Mq hI ln0 ln1 hwd hbd hmo hm12
      refine j_iload (q := 14) F dL_holds_12 rfl 5 rfl ?_
      refine j_aload_n (q := 15) F dL_holds_14 rfl rfl 0 rfl ?_
      refine j_iconst (q := 16) F dL_holds_15 rfl ?_
      refine j_callVI (q := 19) F [vI 1] (ct_X6_count l X hX Mq hI.1 1 ⟨by omega, by omega⟩) gL_holds_X6_count rfl cd_X6_count ⟨by first | exact Nat.le_of_ble_eq_true rfl | (simp only [rm]; omega) | (simp [rm, vI, vR, Value.category]; omega), by first | exact Nat.le_of_ble_eq_true rfl | (simp only [rm]; omega) | (simp [rm, vI, vR, Value.category]; omega), by first | exact Nat.le_of_ble_eq_true rfl | (simp only [rm]; omega) | (simp [rm, vI, vR, Value.category]; omega), by first | exact Nat.le_of_ble_eq_true rfl | (simp only [rm]; omega) | (simp [rm, vI, vR, Value.category]; omega)⟩ wr0 rfl rfl rfl (Nat.le_of_ble_eq_true rfl) dL_holds_16 rfl (fun r_16 M_16 h_16 => ?_)
      obtain ⟨hI, er_16⟩ := q_c1 hI  h_16
      subst er_16
      refine j_icmp_ge (q := 22) (tgt := 424) F dL_holds_19 (by decide) rfl ⟨by omega, by omega⟩ ⟨by omega, by omega⟩ (fun h19_2 => ?_) (fun h19_2 => ?_)
      · skip
        have hlL : ln = N 83 3 := by omega
        have hwz : wd = N 83 0 := by rw [hwd, hlL, sd_L (Int.le_refl _)]
        have hbz : bad = badD (N 83) := by rw [hbd, hlL]; rfl
        have hmz : most = LR (N 83) := by rw [hmo, hlL, sd_L (Int.le_refl _)]; rfl
        refine j_iload (q := 426) F dL_holds_424 rfl 4 rfl ?_
        refine j_if_eq (q := 429) (tgt := 460) F dL_holds_426 (by decide) rfl ⟨by decide, by decide⟩ (fun h => absurd h (by decide)) (fun _ => ?_)
        refine j_iload_n (q := 430) F dL_holds_429 rfl rfl 1 rfl ?_
        refine j_aload_n (q := 431) F dL_holds_430 rfl rfl 0 rfl ?_
        refine j_iconst (q := 432) F dL_holds_431 rfl ?_
        refine j_callVI (q := 435) F [vI 0] (ct_X6_count l X hX M_16 hI.1 0 ⟨by omega, by omega⟩) gL_holds_X6_count rfl cd_X6_count ⟨by first | exact Nat.le_of_ble_eq_true rfl | (simp only [rm]; omega) | (simp [rm, vI, vR, Value.category]; omega), by first | exact Nat.le_of_ble_eq_true rfl | (simp only [rm]; omega) | (simp [rm, vI, vR, Value.category]; omega), by first | exact Nat.le_of_ble_eq_true rfl | (simp only [rm]; omega) | (simp [rm, vI, vR, Value.category]; omega), by first | exact Nat.le_of_ble_eq_true rfl | (simp only [rm]; omega) | (simp [rm, vI, vR, Value.category]; omega)⟩ wr0 rfl rfl rfl (Nat.le_of_ble_eq_true rfl) dL_holds_432 rfl (fun r_432 M_432 h_432 => ?_)
        obtain ⟨hI, er_432⟩ := q_c0 hI  h_432
        subst er_432
        refine j_icmp_ne (q := 438) (tgt := 460) F dL_holds_435 (by decide) rfl ⟨by omega, by omega⟩ ⟨by omega, by omega⟩ (fun h => by exfalso; omega) (fun h435_4 => ?_)
        refine j_iload_n (q := 439) F dL_holds_438 rfl rfl 2 rfl ?_
        refine j_aload_n (q := 440) F dL_holds_439 rfl rfl 0 rfl ?_
        refine j_iconst (q := 441) F dL_holds_440 rfl ?_
        refine j_callVI (q := 444) F [vI 4] (ct_X6_count l X hX M_432 hI.1 4 ⟨by omega, by omega⟩) gL_holds_X6_count rfl cd_X6_count ⟨by first | exact Nat.le_of_ble_eq_true rfl | (simp only [rm]; omega) | (simp [rm, vI, vR, Value.category]; omega), by first | exact Nat.le_of_ble_eq_true rfl | (simp only [rm]; omega) | (simp [rm, vI, vR, Value.category]; omega), by first | exact Nat.le_of_ble_eq_true rfl | (simp only [rm]; omega) | (simp [rm, vI, vR, Value.category]; omega), by first | exact Nat.le_of_ble_eq_true rfl | (simp only [rm]; omega) | (simp [rm, vI, vR, Value.category]; omega)⟩ wr0 rfl rfl rfl (Nat.le_of_ble_eq_true rfl) dL_holds_441 rfl (fun r_441 M_441 h_441 => ?_)
        obtain ⟨hI, er_441⟩ := q_c4 hI  h_441
        subst er_441
        refine j_icmp_ne (q := 447) (tgt := 460) F dL_holds_444 (by decide) rfl ⟨by omega, by omega⟩ ⟨by omega, by omega⟩ (fun h => by exfalso; omega) (fun h444_6 => ?_)
        refine j_iload_n (q := 448) F dL_holds_447 rfl rfl 3 rfl ?_
        refine j_aload_n (q := 449) F dL_holds_448 rfl rfl 0 rfl ?_
        refine j_iconst (q := 450) F dL_holds_449 rfl ?_
        refine j_callVI (q := 453) F [vI 5] (ct_X6_count l X hX M_441 hI.1 5 ⟨by omega, by omega⟩) gL_holds_X6_count rfl cd_X6_count ⟨by first | exact Nat.le_of_ble_eq_true rfl | (simp only [rm]; omega) | (simp [rm, vI, vR, Value.category]; omega), by first | exact Nat.le_of_ble_eq_true rfl | (simp only [rm]; omega) | (simp [rm, vI, vR, Value.category]; omega), by first | exact Nat.le_of_ble_eq_true rfl | (simp only [rm]; omega) | (simp [rm, vI, vR, Value.category]; omega), by first | exact Nat.le_of_ble_eq_true rfl | (simp only [rm]; omega) | (simp [rm, vI, vR, Value.category]; omega)⟩ wr0 rfl rfl rfl (Nat.le_of_ble_eq_true rfl) dL_holds_450 rfl (fun r_450 M_450 h_450 => ?_)
        obtain ⟨hI, er_450⟩ := q_c5 hI  h_450
        subst er_450
        refine j_icmp_ne (q := 456) (tgt := 460) F dL_holds_453 (by decide) rfl ⟨by omega, by omega⟩ ⟨by omega, by omega⟩ (fun h => by exfalso; omega) (fun h453_8 => ?_)
        refine j_iconst (q := 457) F dL_holds_456 rfl ?_
        refine j_goto (q := 461) F dL_holds_457 (by decide) ?_
        exact hret _ _ _ _ dL_holds_461 (Or.inr rfl) (by exact ⟨rfl, hI⟩)
      · skip
        have hlt : ln < N 83 3 := by omega
        have hl : isL (N 83) ln := ⟨ln0, hlt⟩
        have hsg := hD.2.2.2.2.2.2 ln ln0 hlt
        have hb0 := hD.bdall (l := ln) (by omega)
        have hb1 := hD.bdall (l := ln + 1) (by omega)
        have hx := exD_bdD hD hb0.1 (show sd (N 83) ln ≤ sd (N 83) (ln + 1) by omega) hb1.2
        have hx0 : 0 ≤ exD (N 83) (sd (N 83) ln) (sd (N 83) (ln + 1)) := hsg.2.2
        have hbl := bdL_bd hD ln0 hlt
        have hbs := bad_bd hD ln0 (by omega)
        have hms := mxR_bd hD 0 (sd (N 83) ln)
        have hml := mxR_bd hD (sd (N 83) ln) (sd (N 83) (ln + 1))
        have hed := end_d hD ln0 hlt
        have hco := CO_bdD hD (w := sd (N 83) (ln + 1) - 1) (by omega) (by omega)
        have hle := hD.2.2.2.2.1 (sd (N 83) (ln + 1) - 1) (by omega) (by omega)
        refine j_iload (q := 24) F dL_holds_22 rfl 4 rfl ?_
        refine j_if_eq (q := 27) (tgt := 424) F dL_holds_24 (by decide) rfl ⟨by decide, by decide⟩ (fun h => absurd h (by decide)) (fun _ => ?_)
        refine j_aload_n (q := 28) F dL_holds_27 rfl rfl 0 rfl ?_
        refine j_iload (q := 30) F dL_holds_28 rfl 5 rfl ?_
        refine j_iconst (q := 31) F dL_holds_30 rfl ?_
        refine j_callVI (q := 34) F [vI ln, vI 0] (ct_X6_line l X hX M_16 hI.1 ln ⟨by omega, by omega⟩ 0 ⟨by omega, by omega⟩) gL_holds_X6_line rfl cd_X6_line ⟨by first | exact Nat.le_of_ble_eq_true rfl | (simp only [rm]; omega) | (simp [rm, vI, vR, Value.category]; omega), by first | exact Nat.le_of_ble_eq_true rfl | (simp only [rm]; omega) | (simp [rm, vI, vR, Value.category]; omega), by first | exact Nat.le_of_ble_eq_true rfl | (simp only [rm]; omega) | (simp [rm, vI, vR, Value.category]; omega), by first | exact Nat.le_of_ble_eq_true rfl | (simp only [rm]; omega) | (simp [rm, vI, vR, Value.category]; omega)⟩ wr0 rfl rfl rfl (Nat.le_of_ble_eq_true rfl) dL_holds_31 rfl (fun r_31 M_31 h_31 => ?_)
        obtain ⟨hI, er_31⟩ := q_l0 hI hl h_31
        subst er_31
        refine j_iload_n (q := 35) F dL_holds_34 rfl rfl 1 rfl ?_
        refine j_icmp_ne (q := 38) (tgt := 62) F dL_holds_35 (by decide) rfl ⟨by omega, by omega⟩ ⟨by omega, by omega⟩ (fun h => by exfalso; omega) (fun h35_10 => ?_)
        refine j_aload_n (q := 39) F dL_holds_38 rfl rfl 0 rfl ?_
        refine j_iload (q := 41) F dL_holds_39 rfl 5 rfl ?_
        refine j_iconst (q := 42) F dL_holds_41 rfl ?_
        refine j_callVI (q := 45) F [vI ln, vI 1] (ct_X6_line l X hX M_31 hI.1 ln ⟨by omega, by omega⟩ 1 ⟨by omega, by omega⟩) gL_holds_X6_line rfl cd_X6_line ⟨by first | exact Nat.le_of_ble_eq_true rfl | (simp only [rm]; omega) | (simp [rm, vI, vR, Value.category]; omega), by first | exact Nat.le_of_ble_eq_true rfl | (simp only [rm]; omega) | (simp [rm, vI, vR, Value.category]; omega), by first | exact Nat.le_of_ble_eq_true rfl | (simp only [rm]; omega) | (simp [rm, vI, vR, Value.category]; omega), by first | exact Nat.le_of_ble_eq_true rfl | (simp only [rm]; omega) | (simp [rm, vI, vR, Value.category]; omega)⟩ wr0 rfl rfl rfl (Nat.le_of_ble_eq_true rfl) dL_holds_42 rfl (fun r_42 M_42 h_42 => ?_)
        obtain ⟨hI, er_42⟩ := q_l1 hI hl h_42
        subst er_42
        refine j_if_le (q := 48) (tgt := 62) F dL_holds_45 (by decide) rfl ⟨by omega, by omega⟩ (fun h => by exfalso; omega) (fun h45_12 => ?_)
        refine j_aload_n (q := 49) F dL_holds_48 rfl rfl 0 rfl ?_
        refine j_iload (q := 51) F dL_holds_49 rfl 5 rfl ?_
        refine j_iconst (q := 52) F dL_holds_51 rfl ?_
        refine j_callVI (q := 55) F [vI ln, vI 2] (ct_X6_line l X hX M_42 hI.1 ln ⟨by omega, by omega⟩ 2 ⟨by omega, by omega⟩) gL_holds_X6_line rfl cd_X6_line ⟨by first | exact Nat.le_of_ble_eq_true rfl | (simp only [rm]; omega) | (simp [rm, vI, vR, Value.category]; omega), by first | exact Nat.le_of_ble_eq_true rfl | (simp only [rm]; omega) | (simp [rm, vI, vR, Value.category]; omega), by first | exact Nat.le_of_ble_eq_true rfl | (simp only [rm]; omega) | (simp [rm, vI, vR, Value.category]; omega), by first | exact Nat.le_of_ble_eq_true rfl | (simp only [rm]; omega) | (simp [rm, vI, vR, Value.category]; omega)⟩ wr0 rfl rfl rfl (Nat.le_of_ble_eq_true rfl) dL_holds_52 rfl (fun r_52 M_52 h_52 => ?_)
        obtain ⟨hI, er_52⟩ := q_l2 hI hl h_52
        subst er_52
        refine j_if_lt (q := 58) (tgt := 62) F dL_holds_55 (by decide) rfl ⟨by omega, by omega⟩ (fun h => by exfalso; omega) (fun h55_14 => ?_)
        refine j_iconst (q := 59) F dL_holds_58 rfl ?_
        refine j_goto (q := 63) F dL_holds_59 (by decide) ?_
        refine j_istore (q := 65) (lv' := [(0, vR X 0), (1, vI wd), (2, vI bad), (3, vI most), (4, vI 1), (5, vI ln)]) F dL_holds_63 rfl (by decide) rfl rfl ?_
        refine j_iload_n (q := 66) F dL_holds_65 rfl rfl 1 rfl ?_
        refine j_aload_n (q := 67) F dL_holds_66 rfl rfl 0 rfl ?_
        refine j_iload (q := 69) F dL_holds_67 rfl 5 rfl ?_
        refine j_iconst (q := 70) F dL_holds_69 rfl ?_
        refine j_callVI (q := 73) F [vI ln, vI 1] (ct_X6_line l X hX M_52 hI.1 ln ⟨by omega, by omega⟩ 1 ⟨by omega, by omega⟩) gL_holds_X6_line rfl cd_X6_line ⟨by first | exact Nat.le_of_ble_eq_true rfl | (simp only [rm]; omega) | (simp [rm, vI, vR, Value.category]; omega), by first | exact Nat.le_of_ble_eq_true rfl | (simp only [rm]; omega) | (simp [rm, vI, vR, Value.category]; omega), by first | exact Nat.le_of_ble_eq_true rfl | (simp only [rm]; omega) | (simp [rm, vI, vR, Value.category]; omega), by first | exact Nat.le_of_ble_eq_true rfl | (simp only [rm]; omega) | (simp [rm, vI, vR, Value.category]; omega)⟩ wr0 rfl rfl rfl (Nat.le_of_ble_eq_true rfl) dL_holds_70 rfl (fun r_70 M_70 h_70 => ?_)
        obtain ⟨hI, er_70⟩ := q_l1 hI hl h_70
        subst er_70
        refine j_iadd (q := 74) (z := wd + (sd (N 83) (ln + 1) - sd (N 83) ln)) F dL_holds_73 rfl rfl ?_
        refine j_istore_n (q := 75) (lv' := [(0, vR X 0), (1, vI (wd + (sd (N 83) (ln + 1) - sd (N 83) ln))), (2, vI bad), (3, vI most), (4, vI 1), (5, vI ln)]) F dL_holds_74 rfl rfl (by decide) rfl rfl ?_
        rw [show wd + (sd (N 83) (ln + 1) - sd (N 83) ln) = sd (N 83) (ln + 1) from by omega]
        refine j_iload_n (q := 76) F dL_holds_75 rfl rfl 2 rfl ?_
        refine j_aload_n (q := 77) F dL_holds_76 rfl rfl 0 rfl ?_
        refine j_iload (q := 79) F dL_holds_77 rfl 5 rfl ?_
        refine j_iconst (q := 80) F dL_holds_79 rfl ?_
        refine j_callVI (q := 83) F [vI ln, vI 3] (ct_X6_line l X hX M_70 hI.1 ln ⟨by omega, by omega⟩ 3 ⟨by omega, by omega⟩) gL_holds_X6_line rfl cd_X6_line ⟨by first | exact Nat.le_of_ble_eq_true rfl | (simp only [rm]; omega) | (simp [rm, vI, vR, Value.category]; omega), by first | exact Nat.le_of_ble_eq_true rfl | (simp only [rm]; omega) | (simp [rm, vI, vR, Value.category]; omega), by first | exact Nat.le_of_ble_eq_true rfl | (simp only [rm]; omega) | (simp [rm, vI, vR, Value.category]; omega), by first | exact Nat.le_of_ble_eq_true rfl | (simp only [rm]; omega) | (simp [rm, vI, vR, Value.category]; omega)⟩ wr0 rfl rfl rfl (Nat.le_of_ble_eq_true rfl) dL_holds_80 rfl (fun r_80 M_80 h_80 => ?_)
        obtain ⟨hI, er_80⟩ := q_l3 hI hl h_80
        subst er_80
        refine j_iadd (q := 84) (z := bad + (bdD (N 83) (sd (N 83) ln) (sd (N 83) (ln + 1)))) F dL_holds_83 rfl rfl ?_
        refine j_istore_n (q := 85) (lv' := [(0, vR X 0), (1, vI (sd (N 83) (ln + 1))), (2, vI (bad + (bdD (N 83) (sd (N 83) ln) (sd (N 83) (ln + 1))))), (3, vI most), (4, vI 1), (5, vI ln)]) F dL_holds_84 rfl rfl (by decide) rfl rfl ?_
        have CUT109 : ∀ (mo2 : Int) (Mc : Mem), (QI N Mc) → (mo2 = mx (fun _ => true) (RD (N 83)) 0 (sd (N 83) (ln + 1))) → J zp l ze (rm 6) zs zm zargs zbelow zmeth zc 0 0 zQ zs.heap X 11 Mc 109 [(0, vR X 0), (1, vI (sd (N 83) (ln + 1))), (2, vI (bad + (bdD (N 83) (sd (N 83) ln) (sd (N 83) (ln + 1))))), (3, vI most), (4, vI 1), (5, vI ln)] [vI mo2] := by
          intro mo2 Mc hI hmo2
          refine j_istore_n (q := 110) (lv' := [(0, vR X 0), (1, vI (sd (N 83) (ln + 1))), (2, vI (bad + (bdD (N 83) (sd (N 83) ln) (sd (N 83) (ln + 1))))), (3, vI mo2), (4, vI 1), (5, vI ln)]) F dL_holds_109 rfl rfl (by decide) rfl rfl ?_
          refine j_iload_n (q := 111) F dL_holds_110 rfl rfl 1 rfl ?_
          refine j_iconst (q := 112) F dL_holds_111 rfl ?_
          refine j_isub (q := 113) (z := (sd (N 83) (ln + 1)) - 1) F dL_holds_112 rfl rfl ?_
          refine j_istore (q := 115) (lv' := [(0, vR X 0), (1, vI (sd (N 83) (ln + 1))), (2, vI (bad + (bdD (N 83) (sd (N 83) ln) (sd (N 83) (ln + 1))))), (3, vI mo2), (4, vI 1), (5, vI ln), (6, vI ((sd (N 83) (ln + 1)) - 1))]) F dL_holds_113 rfl (by decide) rfl rfl ?_
          refine j_aload_n (q := 116) F dL_holds_115 rfl rfl 0 rfl ?_
          refine j_iload (q := 118) F dL_holds_116 rfl 6 rfl ?_
          refine j_iconst (q := 119) F dL_holds_118 rfl ?_
          refine j_callVI (q := 122) F [vI ((sd (N 83) (ln + 1)) - 1), vI 2] (ct_X6_word l X hX Mc hI.1 ((sd (N 83) (ln + 1)) - 1) 2 ⟨by omega, by omega⟩ ⟨by omega, by omega⟩) gL_holds_X6_word rfl cd_X6_word ⟨by first | exact Nat.le_of_ble_eq_true rfl | (simp only [rm]; omega) | (simp [rm, vI, vR, Value.category]; omega), by first | exact Nat.le_of_ble_eq_true rfl | (simp only [rm]; omega) | (simp [rm, vI, vR, Value.category]; omega), by first | exact Nat.le_of_ble_eq_true rfl | (simp only [rm]; omega) | (simp [rm, vI, vR, Value.category]; omega), by first | exact Nat.le_of_ble_eq_true rfl | (simp only [rm]; omega) | (simp [rm, vI, vR, Value.category]; omega)⟩ wr0 rfl rfl rfl (Nat.le_of_ble_eq_true rfl) dL_holds_119 rfl (fun r_119 M_119 h_119 => ?_)
          obtain ⟨hI, er_119⟩ := q_w2 hI ⟨by omega, by omega⟩ h_119
          subst er_119
          refine j_aload_n (q := 123) F dL_holds_122 rfl rfl 0 rfl ?_
          refine j_iload (q := 125) F dL_holds_123 rfl 6 rfl ?_
          refine j_iconst (q := 126) F dL_holds_125 rfl ?_
          refine j_callVI (q := 129) F [vI ((sd (N 83) (ln + 1)) - 1), vI 0] (ct_X6_word l X hX M_119 hI.1 ((sd (N 83) (ln + 1)) - 1) 0 ⟨by omega, by omega⟩ ⟨by omega, by omega⟩) gL_holds_X6_word rfl cd_X6_word ⟨by first | exact Nat.le_of_ble_eq_true rfl | (simp only [rm]; omega) | (simp [rm, vI, vR, Value.category]; omega), by first | exact Nat.le_of_ble_eq_true rfl | (simp only [rm]; omega) | (simp [rm, vI, vR, Value.category]; omega), by first | exact Nat.le_of_ble_eq_true rfl | (simp only [rm]; omega) | (simp [rm, vI, vR, Value.category]; omega), by first | exact Nat.le_of_ble_eq_true rfl | (simp only [rm]; omega) | (simp [rm, vI, vR, Value.category]; omega)⟩ wr0 rfl rfl rfl (Nat.le_of_ble_eq_true rfl) dL_holds_126 rfl (fun r_126 M_126 h_126 => ?_)
          obtain ⟨hI, er_126⟩ := q_w0 hI ⟨by omega, by omega⟩ h_126
          subst er_126
          refine j_iadd (q := 130) (z := (CO (N 83) ((sd (N 83) (ln + 1)) - 1)) + (N 83 (4 + ((sd (N 83) (ln + 1)) - 1)))) F dL_holds_129 rfl rfl ?_
          refine j_istore (q := 132) (lv' := [(0, vR X 0), (1, vI (sd (N 83) (ln + 1))), (2, vI (bad + (bdD (N 83) (sd (N 83) ln) (sd (N 83) (ln + 1))))), (3, vI mo2), (4, vI 1), (5, vI ln), (6, vI ((sd (N 83) (ln + 1)) - 1)), (7, vI ((CO (N 83) ((sd (N 83) (ln + 1)) - 1)) + (N 83 (4 + ((sd (N 83) (ln + 1)) - 1)))))]) F dL_holds_130 rfl (by decide) rfl rfl ?_
          have CUT180 : ∀ (Md : Mem), (QI N Md) → J zp l ze (rm 6) zs zm zargs zbelow zmeth zc 0 0 zQ zs.heap X 11 Md 180 [(0, vR X 0), (1, vI (sd (N 83) (ln + 1))), (2, vI (bad + (bdD (N 83) (sd (N 83) ln) (sd (N 83) (ln + 1))))), (3, vI mo2), (4, vI 1), (5, vI ln), (6, vI ((sd (N 83) (ln + 1)) - 1)), (7, vI ((CO (N 83) ((sd (N 83) (ln + 1)) - 1)) + (N 83 (4 + ((sd (N 83) (ln + 1)) - 1)))))] [] := by
            intro Md hI
            refine j_iconst (q := 181) F dL_holds_180 rfl ?_
            refine j_goto (q := 185) F dL_holds_181 (by decide) ?_
            refine j_istore (q := 187) (lv' := [(0, vR X 0), (1, vI (sd (N 83) (ln + 1))), (2, vI (bad + (bdD (N 83) (sd (N 83) ln) (sd (N 83) (ln + 1))))), (3, vI mo2), (4, vI 1), (5, vI ln), (6, vI ((sd (N 83) (ln + 1)) - 1)), (7, vI ((CO (N 83) ((sd (N 83) (ln + 1)) - 1)) + (N 83 (4 + ((sd (N 83) (ln + 1)) - 1)))))]) F dL_holds_185 rfl (by decide) rfl rfl ?_
            refine j_iconst (q := 188) F dL_holds_187 rfl ?_
            refine j_istore (q := 190) (lv' := [(0, vR X 0), (1, vI (sd (N 83) (ln + 1))), (2, vI (bad + (bdD (N 83) (sd (N 83) ln) (sd (N 83) (ln + 1))))), (3, vI mo2), (4, vI 1), (5, vI ln), (6, vI ((sd (N 83) (ln + 1)) - 1)), (7, vI ((CO (N 83) ((sd (N 83) (ln + 1)) - 1)) + (N 83 (4 + ((sd (N 83) (ln + 1)) - 1))))), (8, vI 0)]) F dL_holds_188 rfl (by decide) rfl rfl ?_
            refine j_iconst (q := 191) F dL_holds_190 rfl ?_
            refine j_istore (q := 193) (lv' := [(0, vR X 0), (1, vI (sd (N 83) (ln + 1))), (2, vI (bad + (bdD (N 83) (sd (N 83) ln) (sd (N 83) (ln + 1))))), (3, vI mo2), (4, vI 1), (5, vI ln), (6, vI ((sd (N 83) (ln + 1)) - 1)), (7, vI ((CO (N 83) ((sd (N 83) (ln + 1)) - 1)) + (N 83 (4 + ((sd (N 83) (ln + 1)) - 1))))), (8, vI 0), (9, vI 0)]) F dL_holds_191 rfl (by decide) rfl rfl ?_
            have LP193 : ∀ (nn : Nat) (be g1 : Int) (Mg : Mem), (QI N Mg) → (0 ≤ g1) → (g1 ≤ sd (N 83) (ln + 1) - sd (N 83) ln - 1) → (be = cnt (fun q => beD (N 83) ln (sd (N 83) ln + q)) g1) → (sd (N 83) (ln + 1) - sd (N 83) ln - g1).toNat < nn → J zp l ze (rm 6) zs zm zargs zbelow zmeth zc 0 0 zQ zs.heap X 11 Mg 193 [(0, vR X 0), (1, vI (sd (N 83) (ln + 1))), (2, vI (bad + (bdD (N 83) (sd (N 83) ln) (sd (N 83) (ln + 1))))), (3, vI mo2), (4, vI 1), (5, vI ln), (6, vI ((sd (N 83) (ln + 1)) - 1)), (7, vI ((CO (N 83) ((sd (N 83) (ln + 1)) - 1)) + (N 83 (4 + ((sd (N 83) (ln + 1)) - 1))))), (8, vI be), (9, vI g1)] [] := by
              intro nn
              induction nn with
              | zero => intro be g1 Mg hI g0 gh hbe hm193; exact absurd hm193 (Nat.not_lt_zero _)
              | succ nn ih193 =>
                intro be g1 Mg hI g0 gh hbe hm193
                refine j_iload (q := 195) F dL_holds_193 rfl 9 rfl ?_
                refine j_aload_n (q := 196) F dL_holds_195 rfl rfl 0 rfl ?_
                refine j_iload (q := 198) F dL_holds_196 rfl 5 rfl ?_
                refine j_iconst (q := 199) F dL_holds_198 rfl ?_
                refine j_callVI (q := 202) F [vI ln, vI 4] (ct_X6_line l X hX Mg hI.1 ln ⟨by omega, by omega⟩ 4 ⟨by omega, by omega⟩) gL_holds_X6_line rfl cd_X6_line ⟨by first | exact Nat.le_of_ble_eq_true rfl | (simp only [rm]; omega) | (simp [rm, vI, vR, Value.category]; omega), by first | exact Nat.le_of_ble_eq_true rfl | (simp only [rm]; omega) | (simp [rm, vI, vR, Value.category]; omega), by first | exact Nat.le_of_ble_eq_true rfl | (simp only [rm]; omega) | (simp [rm, vI, vR, Value.category]; omega), by first | exact Nat.le_of_ble_eq_true rfl | (simp only [rm]; omega) | (simp [rm, vI, vR, Value.category]; omega)⟩ wr0 rfl rfl rfl (Nat.le_of_ble_eq_true rfl) dL_holds_199 rfl (fun r_199 M_199 h_199 => ?_)
                obtain ⟨hI, er_199⟩ := q_l4 hI hl h_199
                subst er_199
                refine j_icmp_ge (q := 205) (tgt := 345) F dL_holds_202 (by decide) rfl ⟨by omega, by omega⟩ ⟨by omega, by omega⟩ (fun h202_20 => ?_) (fun h202_20 => ?_)
                · skip
                  refine j_iconst (q := 346) F dL_holds_345 rfl ?_
                  refine j_istore (q := 348) (lv' := [(0, vR X 0), (1, vI (sd (N 83) (ln + 1))), (2, vI (bad + (bdD (N 83) (sd (N 83) ln) (sd (N 83) (ln + 1))))), (3, vI mo2), (4, vI 1), (5, vI ln), (6, vI ((sd (N 83) (ln + 1)) - 1)), (7, vI ((CO (N 83) ((sd (N 83) (ln + 1)) - 1)) + (N 83 (4 + ((sd (N 83) (ln + 1)) - 1))))), (8, vI be), (9, vI 0)]) F dL_holds_346 rfl (by decide) rfl rfl ?_
                  refine j_iconst (q := 349) F dL_holds_348 rfl ?_
                  refine j_istore (q := 351) (lv' := [(0, vR X 0), (1, vI (sd (N 83) (ln + 1))), (2, vI (bad + (bdD (N 83) (sd (N 83) ln) (sd (N 83) (ln + 1))))), (3, vI mo2), (4, vI 1), (5, vI ln), (6, vI ((sd (N 83) (ln + 1)) - 1)), (7, vI ((CO (N 83) ((sd (N 83) (ln + 1)) - 1)) + (N 83 (4 + ((sd (N 83) (ln + 1)) - 1))))), (8, vI be), (9, vI 0), (10, vI 0)]) F dL_holds_349 rfl (by decide) rfl rfl ?_
                  have LP351 : ∀ (nn : Nat) (av g2 : Int) (Mh : Mem), (QI N Mh) → (0 ≤ g2) → (g2 = 0 ∨ ln + 1 < N 83 3 ∧ g2 ≤ sd (N 83) (ln + 1 + 1) - sd (N 83) (ln + 1) - 1) → (av = cnt (fun q => abD (N 83) (sd (N 83) (ln + 1) + q)) g2) → (sd (N 83) (ln + 1 + 1) - g2).toNat < nn → J zp l ze (rm 6) zs zm zargs zbelow zmeth zc 0 0 zQ zs.heap X 11 Mh 351 [(0, vR X 0), (1, vI (sd (N 83) (ln + 1))), (2, vI (bad + (bdD (N 83) (sd (N 83) ln) (sd (N 83) (ln + 1))))), (3, vI mo2), (4, vI 1), (5, vI ln), (6, vI ((sd (N 83) (ln + 1)) - 1)), (7, vI ((CO (N 83) ((sd (N 83) (ln + 1)) - 1)) + (N 83 (4 + ((sd (N 83) (ln + 1)) - 1))))), (8, vI be), (9, vI av), (10, vI g2)] [] := by
                    intro nn
                    induction nn with
                    | zero => intro av g2 Mh hI k0 kh hav hm351; exact absurd hm351 (Nat.not_lt_zero _)
                    | succ nn ih351 =>
                      intro av g2 Mh hI k0 kh hav hm351
                      refine j_iload (q := 353) F dL_holds_351 rfl 5 rfl ?_
                      refine j_iconst (q := 354) F dL_holds_353 rfl ?_
                      refine j_iadd (q := 355) (z := ln + 1) F dL_holds_354 rfl rfl ?_
                      refine j_aload_n (q := 356) F dL_holds_355 rfl rfl 0 rfl ?_
                      refine j_iconst (q := 357) F dL_holds_356 rfl ?_
                      refine j_callVI (q := 360) F [vI 1] (ct_X6_count l X hX Mh hI.1 1 ⟨by omega, by omega⟩) gL_holds_X6_count rfl cd_X6_count ⟨by first | exact Nat.le_of_ble_eq_true rfl | (simp only [rm]; omega) | (simp [rm, vI, vR, Value.category]; omega), by first | exact Nat.le_of_ble_eq_true rfl | (simp only [rm]; omega) | (simp [rm, vI, vR, Value.category]; omega), by first | exact Nat.le_of_ble_eq_true rfl | (simp only [rm]; omega) | (simp [rm, vI, vR, Value.category]; omega), by first | exact Nat.le_of_ble_eq_true rfl | (simp only [rm]; omega) | (simp [rm, vI, vR, Value.category]; omega)⟩ wr0 rfl rfl rfl (Nat.le_of_ble_eq_true rfl) dL_holds_357 rfl (fun r_357 M_357 h_357 => ?_)
                      obtain ⟨hI, er_357⟩ := q_c1 hI  h_357
                      subst er_357
                      refine j_icmp_ge (q := 363) (tgt := 399) F dL_holds_360 (by decide) rfl ⟨by omega, by omega⟩ ⟨by omega, by omega⟩ (fun h360_22 => ?_) (fun h360_22 => ?_)
                      · skip
                        have hbb2 := be_bd hD ln0 g0
                        have hae : av = be := by
                          by_cases hz : ln + 1 < N 83 3
                          · rw [hav, hbe, show g2 = sd (N 83) (ln + 1 + 1) - sd (N 83) (ln + 1) - 1 by omega, show g1 = sd (N 83) (ln + 1) - sd (N 83) ln - 1 by omega]
                            exact above_below2 hD ln0 hz
                          · rw [hav, hbe, show g2 = 0 by omega, cnt_0]
                            exact (below_last (by omega) _).symm
                        refine j_iload (q := 401) F dL_holds_399 rfl 4 rfl ?_
                        refine j_if_eq (q := 404) (tgt := 415) F dL_holds_401 (by decide) rfl ⟨by decide, by decide⟩ (fun h => absurd h (by decide)) (fun _ => ?_)
                        refine j_iload (q := 406) F dL_holds_404 rfl 9 rfl ?_
                        refine j_iload (q := 408) F dL_holds_406 rfl 8 rfl ?_
                        refine j_icmp_ne (q := 411) (tgt := 415) F dL_holds_408 (by decide) rfl ⟨by omega, by omega⟩ ⟨by omega, by omega⟩ (fun h => by exfalso; omega) (fun h408_23 => ?_)
                        refine j_iconst (q := 412) F dL_holds_411 rfl ?_
                        refine j_goto (q := 416) F dL_holds_412 (by decide) ?_
                        refine j_istore (q := 418) (lv' := [(0, vR X 0), (1, vI (sd (N 83) (ln + 1))), (2, vI (bad + (bdD (N 83) (sd (N 83) ln) (sd (N 83) (ln + 1))))), (3, vI mo2), (4, vI 1), (5, vI ln), (6, vI ((sd (N 83) (ln + 1)) - 1)), (7, vI ((CO (N 83) ((sd (N 83) (ln + 1)) - 1)) + (N 83 (4 + ((sd (N 83) (ln + 1)) - 1))))), (8, vI be), (9, vI av), (10, vI g2)]) F dL_holds_416 rfl (by decide) rfl rfl ?_
                        refine j_iinc (q := 421) (lv' := [(0, vR X 0), (1, vI (sd (N 83) (ln + 1))), (2, vI (bad + (bdD (N 83) (sd (N 83) ln) (sd (N 83) (ln + 1))))), (3, vI mo2), (4, vI 1), (5, vI (ln + 1)), (6, vI ((sd (N 83) (ln + 1)) - 1)), (7, vI ((CO (N 83) ((sd (N 83) (ln + 1)) - 1)) + (N 83 (4 + ((sd (N 83) (ln + 1)) - 1))))), (8, vI be), (9, vI av), (10, vI g2)]) F dL_holds_418 rfl 5 rfl (by decide) rfl rfl ?_
                        refine j_goto (q := 12) F dL_holds_421 (by decide) ?_
                        refine j_sub (lv' := [(0, vR X 0), (1, vI (sd (N 83) (ln + 1))), (2, vI (bad + (bdD (N 83) (sd (N 83) ln) (sd (N 83) (ln + 1))))), (3, vI mo2), (4, vI 1), (5, vI (ln + 1))]) [0, 1, 2, 3, 4, 5] rfl ?_
                        exact ih12 (sd (N 83) (ln + 1)) (bad + (bdD (N 83) (sd (N 83) ln) (sd (N 83) (ln + 1)))) mo2 (ln + 1) M_357 (by exact hI) (by omega) (by omega) (by rfl) (by rw [hbd, cnt_s _ ln0]) (by exact hmo2) (by omega)
                      · skip
                        have hb2 := hD.bdall (l := ln + 1 + 1) (by omega)
                        have hsg2 := (hD.2.2.2.2.2.2 (ln + 1) (by omega) (by omega)).1
                        refine j_iload (q := 365) F dL_holds_363 rfl 10 rfl ?_
                        refine j_aload_n (q := 366) F dL_holds_365 rfl rfl 0 rfl ?_
                        refine j_iload (q := 368) F dL_holds_366 rfl 5 rfl ?_
                        refine j_iconst (q := 369) F dL_holds_368 rfl ?_
                        refine j_iadd (q := 370) (z := ln + 1) F dL_holds_369 rfl rfl ?_
                        refine j_iconst (q := 371) F dL_holds_370 rfl ?_
                        refine j_callVI (q := 374) F [vI (ln + 1), vI 4] (ct_X6_line l X hX M_357 hI.1 (ln + 1) ⟨by omega, by omega⟩ 4 ⟨by omega, by omega⟩) gL_holds_X6_line rfl cd_X6_line ⟨by first | exact Nat.le_of_ble_eq_true rfl | (simp only [rm]; omega) | (simp [rm, vI, vR, Value.category]; omega), by first | exact Nat.le_of_ble_eq_true rfl | (simp only [rm]; omega) | (simp [rm, vI, vR, Value.category]; omega), by first | exact Nat.le_of_ble_eq_true rfl | (simp only [rm]; omega) | (simp [rm, vI, vR, Value.category]; omega), by first | exact Nat.le_of_ble_eq_true rfl | (simp only [rm]; omega) | (simp [rm, vI, vR, Value.category]; omega)⟩ wr0 rfl rfl rfl (Nat.le_of_ble_eq_true rfl) dL_holds_371 rfl (fun r_371 M_371 h_371 => ?_)
                        obtain ⟨hI, er_371⟩ := q_l4 hI ⟨by omega, by omega⟩ h_371
                        subst er_371
                        refine j_icmp_ge (q := 377) (tgt := 399) F dL_holds_374 (by decide) rfl ⟨by omega, by omega⟩ ⟨by omega, by omega⟩ (fun h374_25 => ?_) (fun h374_25 => ?_)
                        · skip
                          have hbb2 := be_bd hD ln0 g0
                          have hae : av = be := by
                            by_cases hz : ln + 1 < N 83 3
                            · rw [hav, hbe, show g2 = sd (N 83) (ln + 1 + 1) - sd (N 83) (ln + 1) - 1 by omega, show g1 = sd (N 83) (ln + 1) - sd (N 83) ln - 1 by omega]
                              exact above_below2 hD ln0 hz
                            · rw [hav, hbe, show g2 = 0 by omega, cnt_0]
                              exact (below_last (by omega) _).symm
                          refine j_iload (q := 401) F dL_holds_399 rfl 4 rfl ?_
                          refine j_if_eq (q := 404) (tgt := 415) F dL_holds_401 (by decide) rfl ⟨by decide, by decide⟩ (fun h => absurd h (by decide)) (fun _ => ?_)
                          refine j_iload (q := 406) F dL_holds_404 rfl 9 rfl ?_
                          refine j_iload (q := 408) F dL_holds_406 rfl 8 rfl ?_
                          refine j_icmp_ne (q := 411) (tgt := 415) F dL_holds_408 (by decide) rfl ⟨by omega, by omega⟩ ⟨by omega, by omega⟩ (fun h => by exfalso; omega) (fun h408_26 => ?_)
                          refine j_iconst (q := 412) F dL_holds_411 rfl ?_
                          refine j_goto (q := 416) F dL_holds_412 (by decide) ?_
                          refine j_istore (q := 418) (lv' := [(0, vR X 0), (1, vI (sd (N 83) (ln + 1))), (2, vI (bad + (bdD (N 83) (sd (N 83) ln) (sd (N 83) (ln + 1))))), (3, vI mo2), (4, vI 1), (5, vI ln), (6, vI ((sd (N 83) (ln + 1)) - 1)), (7, vI ((CO (N 83) ((sd (N 83) (ln + 1)) - 1)) + (N 83 (4 + ((sd (N 83) (ln + 1)) - 1))))), (8, vI be), (9, vI av), (10, vI g2)]) F dL_holds_416 rfl (by decide) rfl rfl ?_
                          refine j_iinc (q := 421) (lv' := [(0, vR X 0), (1, vI (sd (N 83) (ln + 1))), (2, vI (bad + (bdD (N 83) (sd (N 83) ln) (sd (N 83) (ln + 1))))), (3, vI mo2), (4, vI 1), (5, vI (ln + 1)), (6, vI ((sd (N 83) (ln + 1)) - 1)), (7, vI ((CO (N 83) ((sd (N 83) (ln + 1)) - 1)) + (N 83 (4 + ((sd (N 83) (ln + 1)) - 1))))), (8, vI be), (9, vI av), (10, vI g2)]) F dL_holds_418 rfl 5 rfl (by decide) rfl rfl ?_
                          refine j_goto (q := 12) F dL_holds_421 (by decide) ?_
                          refine j_sub (lv' := [(0, vR X 0), (1, vI (sd (N 83) (ln + 1))), (2, vI (bad + (bdD (N 83) (sd (N 83) ln) (sd (N 83) (ln + 1))))), (3, vI mo2), (4, vI 1), (5, vI (ln + 1))]) [0, 1, 2, 3, 4, 5] rfl ?_
                          exact ih12 (sd (N 83) (ln + 1)) (bad + (bdD (N 83) (sd (N 83) ln) (sd (N 83) (ln + 1)))) mo2 (ln + 1) M_371 (by exact hI) (by omega) (by omega) (by rfl) (by rw [hbd, cnt_s _ ln0]) (by exact hmo2) (by omega)
                        · skip
                          refine j_iload (q := 379) F dL_holds_377 rfl 9 rfl ?_
                          refine j_aload_n (q := 380) F dL_holds_379 rfl rfl 0 rfl ?_
                          refine j_iload (q := 382) F dL_holds_380 rfl 5 rfl ?_
                          refine j_iconst (q := 383) F dL_holds_382 rfl ?_
                          refine j_iadd (q := 384) (z := ln + 1) F dL_holds_383 rfl rfl ?_
                          refine j_iload (q := 386) F dL_holds_384 rfl 10 rfl ?_
                          refine j_iconst (q := 387) F dL_holds_386 rfl ?_
                          refine j_callVI (q := 390) F [vI (ln + 1), vI g2, vI 3] (ct_X6_gap l X hX M_371 hI.1 (ln + 1) ⟨by omega, by omega⟩ g2 3 ⟨by omega, by omega⟩ ⟨by omega, by omega⟩) gL_holds_X6_gap rfl cd_X6_gap ⟨by first | exact Nat.le_of_ble_eq_true rfl | (simp only [rm]; omega) | (simp [rm, vI, vR, Value.category]; omega), by first | exact Nat.le_of_ble_eq_true rfl | (simp only [rm]; omega) | (simp [rm, vI, vR, Value.category]; omega), by first | exact Nat.le_of_ble_eq_true rfl | (simp only [rm]; omega) | (simp [rm, vI, vR, Value.category]; omega), by first | exact Nat.le_of_ble_eq_true rfl | (simp only [rm]; omega) | (simp [rm, vI, vR, Value.category]; omega)⟩ wr0 rfl rfl rfl (Nat.le_of_ble_eq_true rfl) dL_holds_387 rfl (fun r_387 M_387 h_387 => ?_)
                          obtain ⟨hI, er_387⟩ := q_g3 hI ⟨⟨by omega, by omega⟩, by omega, by omega⟩ h_387
                          subst er_387
                          refine j_iadd (q := 391) (z := av + (abD (N 83) (sd (N 83) (ln + 1) + g2))) F dL_holds_390 rfl rfl ?_
                          refine j_istore (q := 393) (lv' := [(0, vR X 0), (1, vI (sd (N 83) (ln + 1))), (2, vI (bad + (bdD (N 83) (sd (N 83) ln) (sd (N 83) (ln + 1))))), (3, vI mo2), (4, vI 1), (5, vI ln), (6, vI ((sd (N 83) (ln + 1)) - 1)), (7, vI ((CO (N 83) ((sd (N 83) (ln + 1)) - 1)) + (N 83 (4 + ((sd (N 83) (ln + 1)) - 1))))), (8, vI be), (9, vI (av + (abD (N 83) (sd (N 83) (ln + 1) + g2)))), (10, vI g2)]) F dL_holds_391 rfl (by decide) rfl rfl ?_
                          refine j_iinc (q := 396) (lv' := [(0, vR X 0), (1, vI (sd (N 83) (ln + 1))), (2, vI (bad + (bdD (N 83) (sd (N 83) ln) (sd (N 83) (ln + 1))))), (3, vI mo2), (4, vI 1), (5, vI ln), (6, vI ((sd (N 83) (ln + 1)) - 1)), (7, vI ((CO (N 83) ((sd (N 83) (ln + 1)) - 1)) + (N 83 (4 + ((sd (N 83) (ln + 1)) - 1))))), (8, vI be), (9, vI (av + (abD (N 83) (sd (N 83) (ln + 1) + g2)))), (10, vI (g2 + 1))]) F dL_holds_393 rfl 10 rfl (by decide) rfl rfl ?_
                          refine j_goto (q := 351) F dL_holds_396 (by decide) ?_
                          exact ih351 (av + (abD (N 83) (sd (N 83) (ln + 1) + g2))) (g2 + 1) M_387 (by exact hI) (by omega) (by exact Or.inr ⟨by omega, by omega⟩) (by rw [hav, cnt_s _ k0]) (by omega)
                  exact LP351 _ 0 0 M_199 (by exact hI) (by omega) (by exact Or.inl rfl) (by rfl) (by exact Nat.lt_succ_self _)
                · skip
                  refine j_iload (q := 207) F dL_holds_205 rfl 4 rfl ?_
                  refine j_if_eq (q := 210) (tgt := 345) F dL_holds_207 (by decide) rfl ⟨by decide, by decide⟩ (fun h => absurd h (by decide)) (fun _ => ?_)
                  have hg : isG (N 83) ln g1 := ⟨hl, g0, by omega⟩
                  have hgd := gap_d hD ln0 hlt g0 (by omega)
                  have hrl := reach_lo hD ln0 hlt (w := sd (N 83) ln + g1) (by omega) (by omega)
                  have hra := reach_ab hD ln0 hlt (w := sd (N 83) ln + g1) (by omega) (by omega)
                  have hbb := be_bd hD ln0 g0
                  have hbd1 := below_bd hD (w := sd (N 83) ln + g1) ln0
                  have hab := ab_bd (N 83) hD (w := sd (N 83) ln + g1) (by omega) (by omega)
                  refine j_iload (q := 212) F dL_holds_210 rfl 8 rfl ?_
                  refine j_aload_n (q := 213) F dL_holds_212 rfl rfl 0 rfl ?_
                  refine j_iload (q := 215) F dL_holds_213 rfl 5 rfl ?_
                  refine j_iload (q := 217) F dL_holds_215 rfl 9 rfl ?_
                  refine j_iconst (q := 218) F dL_holds_217 rfl ?_
                  refine j_callVI (q := 221) F [vI ln, vI g1, vI 4] (ct_X6_gap l X hX M_199 hI.1 ln ⟨by omega, by omega⟩ g1 4 ⟨by omega, by omega⟩ ⟨by omega, by omega⟩) gL_holds_X6_gap rfl cd_X6_gap ⟨by first | exact Nat.le_of_ble_eq_true rfl | (simp only [rm]; omega) | (simp [rm, vI, vR, Value.category]; omega), by first | exact Nat.le_of_ble_eq_true rfl | (simp only [rm]; omega) | (simp [rm, vI, vR, Value.category]; omega), by first | exact Nat.le_of_ble_eq_true rfl | (simp only [rm]; omega) | (simp [rm, vI, vR, Value.category]; omega), by first | exact Nat.le_of_ble_eq_true rfl | (simp only [rm]; omega) | (simp [rm, vI, vR, Value.category]; omega)⟩ wr0 rfl rfl rfl (Nat.le_of_ble_eq_true rfl) dL_holds_218 rfl (fun r_218 M_218 h_218 => ?_)
                  obtain ⟨hI, er_218⟩ := q_g4 hI hg h_218
                  subst er_218
                  refine j_iadd (q := 222) (z := be + (beD (N 83) ln (sd (N 83) ln + g1))) F dL_holds_221 rfl rfl ?_
                  refine j_istore (q := 224) (lv' := [(0, vR X 0), (1, vI (sd (N 83) (ln + 1))), (2, vI (bad + (bdD (N 83) (sd (N 83) ln) (sd (N 83) (ln + 1))))), (3, vI mo2), (4, vI 1), (5, vI ln), (6, vI ((sd (N 83) (ln + 1)) - 1)), (7, vI ((CO (N 83) ((sd (N 83) (ln + 1)) - 1)) + (N 83 (4 + ((sd (N 83) (ln + 1)) - 1))))), (8, vI (be + (beD (N 83) ln (sd (N 83) ln + g1)))), (9, vI g1)]) F dL_holds_222 rfl (by decide) rfl rfl ?_
                  have CUT332 : ∀ (Me : Mem), (QI N Me) → J zp l ze (rm 6) zs zm zargs zbelow zmeth zc 0 0 zQ zs.heap X 11 Me 332 [(0, vR X 0), (1, vI (sd (N 83) (ln + 1))), (2, vI (bad + (bdD (N 83) (sd (N 83) ln) (sd (N 83) (ln + 1))))), (3, vI mo2), (4, vI 1), (5, vI ln), (6, vI ((sd (N 83) (ln + 1)) - 1)), (7, vI ((CO (N 83) ((sd (N 83) (ln + 1)) - 1)) + (N 83 (4 + ((sd (N 83) (ln + 1)) - 1))))), (8, vI (be + (beD (N 83) ln (sd (N 83) ln + g1)))), (9, vI g1)] [] := by
                    intro Me hI
                    refine j_iconst (q := 333) F dL_holds_332 rfl ?_
                    refine j_goto (q := 337) F dL_holds_333 (by decide) ?_
                    refine j_istore (q := 339) (lv' := [(0, vR X 0), (1, vI (sd (N 83) (ln + 1))), (2, vI (bad + (bdD (N 83) (sd (N 83) ln) (sd (N 83) (ln + 1))))), (3, vI mo2), (4, vI 1), (5, vI ln), (6, vI ((sd (N 83) (ln + 1)) - 1)), (7, vI ((CO (N 83) ((sd (N 83) (ln + 1)) - 1)) + (N 83 (4 + ((sd (N 83) (ln + 1)) - 1))))), (8, vI (be + (beD (N 83) ln (sd (N 83) ln + g1)))), (9, vI g1)]) F dL_holds_337 rfl (by decide) rfl rfl ?_
                    refine j_iinc (q := 342) (lv' := [(0, vR X 0), (1, vI (sd (N 83) (ln + 1))), (2, vI (bad + (bdD (N 83) (sd (N 83) ln) (sd (N 83) (ln + 1))))), (3, vI mo2), (4, vI 1), (5, vI ln), (6, vI ((sd (N 83) (ln + 1)) - 1)), (7, vI ((CO (N 83) ((sd (N 83) (ln + 1)) - 1)) + (N 83 (4 + ((sd (N 83) (ln + 1)) - 1))))), (8, vI (be + (beD (N 83) ln (sd (N 83) ln + g1)))), (9, vI (g1 + 1))]) F dL_holds_339 rfl 9 rfl (by decide) rfl rfl ?_
                    refine j_goto (q := 193) F dL_holds_342 (by decide) ?_
                    exact ih193 (be + (beD (N 83) ln (sd (N 83) ln + g1))) (g1 + 1) Me (by exact hI) (by omega) (by omega) (by rw [hbe, cnt_s _ g0]) (by omega)
                  refine j_aload_n (q := 225) F dL_holds_224 rfl rfl 0 rfl ?_
                  refine j_iload (q := 227) F dL_holds_225 rfl 5 rfl ?_
                  refine j_iload (q := 229) F dL_holds_227 rfl 9 rfl ?_
                  refine j_iconst (q := 230) F dL_holds_229 rfl ?_
                  refine j_callVI (q := 233) F [vI ln, vI g1, vI 1] (ct_X6_gap l X hX M_218 hI.1 ln ⟨by omega, by omega⟩ g1 1 ⟨by omega, by omega⟩ ⟨by omega, by omega⟩) gL_holds_X6_gap rfl cd_X6_gap ⟨by first | exact Nat.le_of_ble_eq_true rfl | (simp only [rm]; omega) | (simp [rm, vI, vR, Value.category]; omega), by first | exact Nat.le_of_ble_eq_true rfl | (simp only [rm]; omega) | (simp [rm, vI, vR, Value.category]; omega), by first | exact Nat.le_of_ble_eq_true rfl | (simp only [rm]; omega) | (simp [rm, vI, vR, Value.category]; omega), by first | exact Nat.le_of_ble_eq_true rfl | (simp only [rm]; omega) | (simp [rm, vI, vR, Value.category]; omega)⟩ wr0 rfl rfl rfl (Nat.le_of_ble_eq_true rfl) dL_holds_230 rfl (fun r_230 M_230 h_230 => ?_)
                  obtain ⟨hI, er_230⟩ := q_g1 hI hg h_230
                  subst er_230
                  refine j_iconst (q := 234) F dL_holds_233 rfl ?_
                  refine j_icmp_lt (q := 237) (tgt := 336) F dL_holds_234 (by decide) rfl ⟨by omega, by omega⟩ ⟨by decide, by decide⟩ (fun h => by exfalso; omega) (fun h234_30 => ?_)
                  refine j_aload_n (q := 238) F dL_holds_237 rfl rfl 0 rfl ?_
                  refine j_iload (q := 240) F dL_holds_238 rfl 5 rfl ?_
                  refine j_iload (q := 242) F dL_holds_240 rfl 9 rfl ?_
                  refine j_iconst (q := 243) F dL_holds_242 rfl ?_
                  refine j_callVI (q := 246) F [vI ln, vI g1, vI 2] (ct_X6_gap l X hX M_230 hI.1 ln ⟨by omega, by omega⟩ g1 2 ⟨by omega, by omega⟩ ⟨by omega, by omega⟩) gL_holds_X6_gap rfl cd_X6_gap ⟨by first | exact Nat.le_of_ble_eq_true rfl | (simp only [rm]; omega) | (simp [rm, vI, vR, Value.category]; omega), by first | exact Nat.le_of_ble_eq_true rfl | (simp only [rm]; omega) | (simp [rm, vI, vR, Value.category]; omega), by first | exact Nat.le_of_ble_eq_true rfl | (simp only [rm]; omega) | (simp [rm, vI, vR, Value.category]; omega), by first | exact Nat.le_of_ble_eq_true rfl | (simp only [rm]; omega) | (simp [rm, vI, vR, Value.category]; omega)⟩ wr0 rfl rfl rfl (Nat.le_of_ble_eq_true rfl) dL_holds_243 rfl (fun r_243 M_243 h_243 => ?_)
                  obtain ⟨hI, er_243⟩ := q_g2 hI hg h_243
                  subst er_243
                  refine j_iconst (q := 247) F dL_holds_246 rfl ?_
                  refine j_icmp_lt (q := 250) (tgt := 336) F dL_holds_247 (by decide) rfl ⟨by omega, by omega⟩ ⟨by decide, by decide⟩ (fun h => by exfalso; omega) (fun h247_32 => ?_)
                  refine j_aload_n (q := 251) F dL_holds_250 rfl rfl 0 rfl ?_
                  refine j_iload (q := 253) F dL_holds_251 rfl 5 rfl ?_
                  refine j_iload (q := 255) F dL_holds_253 rfl 9 rfl ?_
                  refine j_iconst (q := 256) F dL_holds_255 rfl ?_
                  refine j_callVI (q := 259) F [vI ln, vI g1, vI 2] (ct_X6_gap l X hX M_243 hI.1 ln ⟨by omega, by omega⟩ g1 2 ⟨by omega, by omega⟩ ⟨by omega, by omega⟩) gL_holds_X6_gap rfl cd_X6_gap ⟨by first | exact Nat.le_of_ble_eq_true rfl | (simp only [rm]; omega) | (simp [rm, vI, vR, Value.category]; omega), by first | exact Nat.le_of_ble_eq_true rfl | (simp only [rm]; omega) | (simp [rm, vI, vR, Value.category]; omega), by first | exact Nat.le_of_ble_eq_true rfl | (simp only [rm]; omega) | (simp [rm, vI, vR, Value.category]; omega), by first | exact Nat.le_of_ble_eq_true rfl | (simp only [rm]; omega) | (simp [rm, vI, vR, Value.category]; omega)⟩ wr0 rfl rfl rfl (Nat.le_of_ble_eq_true rfl) dL_holds_256 rfl (fun r_256 M_256 h_256 => ?_)
                  obtain ⟨hI, er_256⟩ := q_g2 hI hg h_256
                  subst er_256
                  refine j_iload (q := 261) F dL_holds_259 rfl 5 rfl ?_
                  refine j_iconst (q := 262) F dL_holds_261 rfl ?_
                  refine j_iadd (q := 263) (z := ln + 1) F dL_holds_262 rfl rfl ?_
                  refine j_icmp_gt (q := 266) (tgt := 336) F dL_holds_263 (by decide) rfl ⟨by omega, by omega⟩ ⟨by omega, by omega⟩ (fun h => by exfalso; omega) (fun h263_34 => ?_)
                  refine j_aload_n (q := 267) F dL_holds_266 rfl rfl 0 rfl ?_
                  refine j_iload (q := 269) F dL_holds_267 rfl 5 rfl ?_
                  refine j_iload (q := 271) F dL_holds_269 rfl 9 rfl ?_
                  refine j_iconst (q := 272) F dL_holds_271 rfl ?_
                  refine j_callVI (q := 275) F [vI ln, vI g1, vI 3] (ct_X6_gap l X hX M_256 hI.1 ln ⟨by omega, by omega⟩ g1 3 ⟨by omega, by omega⟩ ⟨by omega, by omega⟩) gL_holds_X6_gap rfl cd_X6_gap ⟨by first | exact Nat.le_of_ble_eq_true rfl | (simp only [rm]; omega) | (simp [rm, vI, vR, Value.category]; omega), by first | exact Nat.le_of_ble_eq_true rfl | (simp only [rm]; omega) | (simp [rm, vI, vR, Value.category]; omega), by first | exact Nat.le_of_ble_eq_true rfl | (simp only [rm]; omega) | (simp [rm, vI, vR, Value.category]; omega), by first | exact Nat.le_of_ble_eq_true rfl | (simp only [rm]; omega) | (simp [rm, vI, vR, Value.category]; omega)⟩ wr0 rfl rfl rfl (Nat.le_of_ble_eq_true rfl) dL_holds_272 rfl (fun r_272 M_272 h_272 => ?_)
                  obtain ⟨hI, er_272⟩ := q_g3 hI hg h_272
                  subst er_272
                  refine j_if_le (q := 278) (tgt := 282) F dL_holds_275 (by decide) rfl ⟨by omega, by omega⟩ (fun h275_36 => ?_) (fun h275_36 => ?_)
                  · skip
                    refine j_iconst (q := 283) F dL_holds_282 rfl ?_
                    refine j_aload_n (q := 284) F dL_holds_283 rfl rfl 0 rfl ?_
                    refine j_iload (q := 286) F dL_holds_284 rfl 5 rfl ?_
                    refine j_iload (q := 288) F dL_holds_286 rfl 9 rfl ?_
                    refine j_iconst (q := 289) F dL_holds_288 rfl ?_
                    refine j_callVI (q := 292) F [vI ln, vI g1, vI 2] (ct_X6_gap l X hX M_272 hI.1 ln ⟨by omega, by omega⟩ g1 2 ⟨by omega, by omega⟩ ⟨by omega, by omega⟩) gL_holds_X6_gap rfl cd_X6_gap ⟨by first | exact Nat.le_of_ble_eq_true rfl | (simp only [rm]; omega) | (simp [rm, vI, vR, Value.category]; omega), by first | exact Nat.le_of_ble_eq_true rfl | (simp only [rm]; omega) | (simp [rm, vI, vR, Value.category]; omega), by first | exact Nat.le_of_ble_eq_true rfl | (simp only [rm]; omega) | (simp [rm, vI, vR, Value.category]; omega), by first | exact Nat.le_of_ble_eq_true rfl | (simp only [rm]; omega) | (simp [rm, vI, vR, Value.category]; omega)⟩ wr0 rfl rfl rfl (Nat.le_of_ble_eq_true rfl) dL_holds_289 rfl (fun r_289 M_289 h_289 => ?_)
                    obtain ⟨hI, er_289⟩ := q_g2 hI hg h_289
                    subst er_289
                    refine j_iconst (q := 293) F dL_holds_292 rfl ?_
                    refine j_icmp_le (q := 296) (tgt := 300) F dL_holds_293 (by decide) rfl ⟨by omega, by omega⟩ ⟨by decide, by decide⟩ (fun h293_38 => ?_) (fun h => by exfalso; omega)
                    refine j_iconst (q := 301) F dL_holds_300 rfl ?_
                    refine j_icmp_ne (q := 304) (tgt := 336) F dL_holds_301 (by decide) rfl ⟨by decide, by decide⟩ ⟨by decide, by decide⟩ (fun h => absurd h (by decide)) (fun _ => ?_)
                    refine j_iload (q := 306) F dL_holds_304 rfl 9 rfl ?_
                    refine j_if_eq (q := 309) (tgt := 332) F dL_holds_306 (by decide) rfl ⟨by omega, by omega⟩ (fun h306_39 => ?_) (fun h306_39 => ?_)
                    · skip
                      exact CUT332 M_289 (by exact hI)
                    · skip
                      have hgd1 := gap_d hD ln0 hlt (g := g1 - 1) (by omega) (by omega)
                      refine j_aload_n (q := 310) F dL_holds_309 rfl rfl 0 rfl ?_
                      refine j_iload (q := 312) F dL_holds_310 rfl 5 rfl ?_
                      refine j_iload (q := 314) F dL_holds_312 rfl 9 rfl ?_
                      refine j_iconst (q := 315) F dL_holds_314 rfl ?_
                      refine j_callVI (q := 318) F [vI ln, vI g1, vI 1] (ct_X6_gap l X hX M_289 hI.1 ln ⟨by omega, by omega⟩ g1 1 ⟨by omega, by omega⟩ ⟨by omega, by omega⟩) gL_holds_X6_gap rfl cd_X6_gap ⟨by first | exact Nat.le_of_ble_eq_true rfl | (simp only [rm]; omega) | (simp [rm, vI, vR, Value.category]; omega), by first | exact Nat.le_of_ble_eq_true rfl | (simp only [rm]; omega) | (simp [rm, vI, vR, Value.category]; omega), by first | exact Nat.le_of_ble_eq_true rfl | (simp only [rm]; omega) | (simp [rm, vI, vR, Value.category]; omega), by first | exact Nat.le_of_ble_eq_true rfl | (simp only [rm]; omega) | (simp [rm, vI, vR, Value.category]; omega)⟩ wr0 rfl rfl rfl (Nat.le_of_ble_eq_true rfl) dL_holds_315 rfl (fun r_315 M_315 h_315 => ?_)
                      obtain ⟨hI, er_315⟩ := q_g1 hI hg h_315
                      subst er_315
                      refine j_aload_n (q := 319) F dL_holds_318 rfl rfl 0 rfl ?_
                      refine j_iload (q := 321) F dL_holds_319 rfl 5 rfl ?_
                      refine j_iload (q := 323) F dL_holds_321 rfl 9 rfl ?_
                      refine j_iconst (q := 324) F dL_holds_323 rfl ?_
                      refine j_isub (q := 325) (z := g1 - 1) F dL_holds_324 rfl rfl ?_
                      refine j_iconst (q := 326) F dL_holds_325 rfl ?_
                      refine j_callVI (q := 329) F [vI ln, vI (g1 - 1), vI 1] (ct_X6_gap l X hX M_315 hI.1 ln ⟨by omega, by omega⟩ (g1 - 1) 1 ⟨by omega, by omega⟩ ⟨by omega, by omega⟩) gL_holds_X6_gap rfl cd_X6_gap ⟨by first | exact Nat.le_of_ble_eq_true rfl | (simp only [rm]; omega) | (simp [rm, vI, vR, Value.category]; omega), by first | exact Nat.le_of_ble_eq_true rfl | (simp only [rm]; omega) | (simp [rm, vI, vR, Value.category]; omega), by first | exact Nat.le_of_ble_eq_true rfl | (simp only [rm]; omega) | (simp [rm, vI, vR, Value.category]; omega), by first | exact Nat.le_of_ble_eq_true rfl | (simp only [rm]; omega) | (simp [rm, vI, vR, Value.category]; omega)⟩ wr0 rfl rfl rfl (Nat.le_of_ble_eq_true rfl) dL_holds_326 rfl (fun r_326 M_326 h_326 => ?_)
                      obtain ⟨hI, er_326⟩ := q_g1 hI ⟨hl, by omega, by omega⟩ h_326
                      subst er_326
                      refine j_icmp_gt (q := 332) (tgt := 336) F dL_holds_329 (by decide) rfl ⟨by omega, by omega⟩ ⟨by omega, by omega⟩ (fun h => by exfalso; omega) (fun h329_42 => ?_)
                      exact CUT332 M_326 (by exact hI)
                  · skip
                    refine j_iconst (q := 279) F dL_holds_278 rfl ?_
                    refine j_goto (q := 283) F dL_holds_279 (by decide) ?_
                    refine j_aload_n (q := 284) F dL_holds_283 rfl rfl 0 rfl ?_
                    refine j_iload (q := 286) F dL_holds_284 rfl 5 rfl ?_
                    refine j_iload (q := 288) F dL_holds_286 rfl 9 rfl ?_
                    refine j_iconst (q := 289) F dL_holds_288 rfl ?_
                    refine j_callVI (q := 292) F [vI ln, vI g1, vI 2] (ct_X6_gap l X hX M_272 hI.1 ln ⟨by omega, by omega⟩ g1 2 ⟨by omega, by omega⟩ ⟨by omega, by omega⟩) gL_holds_X6_gap rfl cd_X6_gap ⟨by first | exact Nat.le_of_ble_eq_true rfl | (simp only [rm]; omega) | (simp [rm, vI, vR, Value.category]; omega), by first | exact Nat.le_of_ble_eq_true rfl | (simp only [rm]; omega) | (simp [rm, vI, vR, Value.category]; omega), by first | exact Nat.le_of_ble_eq_true rfl | (simp only [rm]; omega) | (simp [rm, vI, vR, Value.category]; omega), by first | exact Nat.le_of_ble_eq_true rfl | (simp only [rm]; omega) | (simp [rm, vI, vR, Value.category]; omega)⟩ wr0 rfl rfl rfl (Nat.le_of_ble_eq_true rfl) dL_holds_289 rfl (fun r_289 M_289 h_289 => ?_)
                    obtain ⟨hI, er_289⟩ := q_g2 hI hg h_289
                    subst er_289
                    refine j_iconst (q := 293) F dL_holds_292 rfl ?_
                    refine j_icmp_le (q := 296) (tgt := 300) F dL_holds_293 (by decide) rfl ⟨by omega, by omega⟩ ⟨by decide, by decide⟩ (fun h => by exfalso; omega) (fun h293_44 => ?_)
                    refine j_iconst (q := 297) F dL_holds_296 rfl ?_
                    refine j_goto (q := 301) F dL_holds_297 (by decide) ?_
                    refine j_icmp_ne (q := 304) (tgt := 336) F dL_holds_301 (by decide) rfl ⟨by decide, by decide⟩ ⟨by decide, by decide⟩ (fun h => absurd h (by decide)) (fun _ => ?_)
                    refine j_iload (q := 306) F dL_holds_304 rfl 9 rfl ?_
                    refine j_if_eq (q := 309) (tgt := 332) F dL_holds_306 (by decide) rfl ⟨by omega, by omega⟩ (fun h306_45 => ?_) (fun h306_45 => ?_)
                    · skip
                      exact CUT332 M_289 (by exact hI)
                    · skip
                      have hgd1 := gap_d hD ln0 hlt (g := g1 - 1) (by omega) (by omega)
                      refine j_aload_n (q := 310) F dL_holds_309 rfl rfl 0 rfl ?_
                      refine j_iload (q := 312) F dL_holds_310 rfl 5 rfl ?_
                      refine j_iload (q := 314) F dL_holds_312 rfl 9 rfl ?_
                      refine j_iconst (q := 315) F dL_holds_314 rfl ?_
                      refine j_callVI (q := 318) F [vI ln, vI g1, vI 1] (ct_X6_gap l X hX M_289 hI.1 ln ⟨by omega, by omega⟩ g1 1 ⟨by omega, by omega⟩ ⟨by omega, by omega⟩) gL_holds_X6_gap rfl cd_X6_gap ⟨by first | exact Nat.le_of_ble_eq_true rfl | (simp only [rm]; omega) | (simp [rm, vI, vR, Value.category]; omega), by first | exact Nat.le_of_ble_eq_true rfl | (simp only [rm]; omega) | (simp [rm, vI, vR, Value.category]; omega), by first | exact Nat.le_of_ble_eq_true rfl | (simp only [rm]; omega) | (simp [rm, vI, vR, Value.category]; omega), by first | exact Nat.le_of_ble_eq_true rfl | (simp only [rm]; omega) | (simp [rm, vI, vR, Value.category]; omega)⟩ wr0 rfl rfl rfl (Nat.le_of_ble_eq_true rfl) dL_holds_315 rfl (fun r_315 M_315 h_315 => ?_)
                      obtain ⟨hI, er_315⟩ := q_g1 hI hg h_315
                      subst er_315
                      refine j_aload_n (q := 319) F dL_holds_318 rfl rfl 0 rfl ?_
                      refine j_iload (q := 321) F dL_holds_319 rfl 5 rfl ?_
                      refine j_iload (q := 323) F dL_holds_321 rfl 9 rfl ?_
                      refine j_iconst (q := 324) F dL_holds_323 rfl ?_
                      refine j_isub (q := 325) (z := g1 - 1) F dL_holds_324 rfl rfl ?_
                      refine j_iconst (q := 326) F dL_holds_325 rfl ?_
                      refine j_callVI (q := 329) F [vI ln, vI (g1 - 1), vI 1] (ct_X6_gap l X hX M_315 hI.1 ln ⟨by omega, by omega⟩ (g1 - 1) 1 ⟨by omega, by omega⟩ ⟨by omega, by omega⟩) gL_holds_X6_gap rfl cd_X6_gap ⟨by first | exact Nat.le_of_ble_eq_true rfl | (simp only [rm]; omega) | (simp [rm, vI, vR, Value.category]; omega), by first | exact Nat.le_of_ble_eq_true rfl | (simp only [rm]; omega) | (simp [rm, vI, vR, Value.category]; omega), by first | exact Nat.le_of_ble_eq_true rfl | (simp only [rm]; omega) | (simp [rm, vI, vR, Value.category]; omega), by first | exact Nat.le_of_ble_eq_true rfl | (simp only [rm]; omega) | (simp [rm, vI, vR, Value.category]; omega)⟩ wr0 rfl rfl rfl (Nat.le_of_ble_eq_true rfl) dL_holds_326 rfl (fun r_326 M_326 h_326 => ?_)
                      obtain ⟨hI, er_326⟩ := q_g1 hI ⟨hl, by omega, by omega⟩ h_326
                      subst er_326
                      refine j_icmp_gt (q := 332) (tgt := 336) F dL_holds_329 (by decide) rfl ⟨by omega, by omega⟩ ⟨by omega, by omega⟩ (fun h => by exfalso; omega) (fun h329_48 => ?_)
                      exact CUT332 M_326 (by exact hI)
            exact LP193 _ 0 0 Md (by exact hI) (by omega) (by omega) (by rfl) (by exact Nat.lt_succ_self _)
          refine j_iload (q := 134) F dL_holds_132 rfl 4 rfl ?_
          refine j_if_eq (q := 137) (tgt := 184) F dL_holds_134 (by decide) rfl ⟨by decide, by decide⟩ (fun h => absurd h (by decide)) (fun _ => ?_)
          refine j_iload (q := 139) F dL_holds_137 rfl 7 rfl ?_
          refine j_aload_n (q := 140) F dL_holds_139 rfl rfl 0 rfl ?_
          refine j_iconst (q := 141) F dL_holds_140 rfl ?_
          refine j_callVI (q := 144) F [vI 2] (ct_X6_count l X hX M_126 hI.1 2 ⟨by omega, by omega⟩) gL_holds_X6_count rfl cd_X6_count ⟨by first | exact Nat.le_of_ble_eq_true rfl | (simp only [rm]; omega) | (simp [rm, vI, vR, Value.category]; omega), by first | exact Nat.le_of_ble_eq_true rfl | (simp only [rm]; omega) | (simp [rm, vI, vR, Value.category]; omega), by first | exact Nat.le_of_ble_eq_true rfl | (simp only [rm]; omega) | (simp [rm, vI, vR, Value.category]; omega), by first | exact Nat.le_of_ble_eq_true rfl | (simp only [rm]; omega) | (simp [rm, vI, vR, Value.category]; omega)⟩ wr0 rfl rfl rfl (Nat.le_of_ble_eq_true rfl) dL_holds_141 rfl (fun r_141 M_141 h_141 => ?_)
          obtain ⟨hI, er_141⟩ := q_c2 hI  h_141
          subst er_141
          refine j_icmp_gt (q := 147) (tgt := 184) F dL_holds_144 (by decide) rfl ⟨by omega, by omega⟩ ⟨by omega, by omega⟩ (fun h => by exfalso; omega) (fun h144_50 => ?_)
          refine j_iload (q := 149) F dL_holds_147 rfl 5 rfl ?_
          refine j_iconst (q := 150) F dL_holds_149 rfl ?_
          refine j_iadd (q := 151) (z := ln + 1) F dL_holds_150 rfl rfl ?_
          refine j_aload_n (q := 152) F dL_holds_151 rfl rfl 0 rfl ?_
          refine j_iconst (q := 153) F dL_holds_152 rfl ?_
          refine j_callVI (q := 156) F [vI 1] (ct_X6_count l X hX M_141 hI.1 1 ⟨by omega, by omega⟩) gL_holds_X6_count rfl cd_X6_count ⟨by first | exact Nat.le_of_ble_eq_true rfl | (simp only [rm]; omega) | (simp [rm, vI, vR, Value.category]; omega), by first | exact Nat.le_of_ble_eq_true rfl | (simp only [rm]; omega) | (simp [rm, vI, vR, Value.category]; omega), by first | exact Nat.le_of_ble_eq_true rfl | (simp only [rm]; omega) | (simp [rm, vI, vR, Value.category]; omega), by first | exact Nat.le_of_ble_eq_true rfl | (simp only [rm]; omega) | (simp [rm, vI, vR, Value.category]; omega)⟩ wr0 rfl rfl rfl (Nat.le_of_ble_eq_true rfl) dL_holds_153 rfl (fun r_153 M_153 h_153 => ?_)
          obtain ⟨hI, er_153⟩ := q_c1 hI  h_153
          subst er_153
          refine j_icmp_eq (q := 159) (tgt := 180) F dL_holds_156 (by decide) rfl ⟨by omega, by omega⟩ ⟨by omega, by omega⟩ (fun h156_52 => ?_) (fun h156_52 => ?_)
          · skip
            exact CUT180 M_153 (by exact hI)
          · skip
            refine j_aload_n (q := 160) F dL_holds_159 rfl rfl 0 rfl ?_
            refine j_iload (q := 162) F dL_holds_160 rfl 5 rfl ?_
            refine j_iconst (q := 163) F dL_holds_162 rfl ?_
            refine j_callVI (q := 166) F [vI ln, vI 1] (ct_X6_line l X hX M_153 hI.1 ln ⟨by omega, by omega⟩ 1 ⟨by omega, by omega⟩) gL_holds_X6_line rfl cd_X6_line ⟨by first | exact Nat.le_of_ble_eq_true rfl | (simp only [rm]; omega) | (simp [rm, vI, vR, Value.category]; omega), by first | exact Nat.le_of_ble_eq_true rfl | (simp only [rm]; omega) | (simp [rm, vI, vR, Value.category]; omega), by first | exact Nat.le_of_ble_eq_true rfl | (simp only [rm]; omega) | (simp [rm, vI, vR, Value.category]; omega), by first | exact Nat.le_of_ble_eq_true rfl | (simp only [rm]; omega) | (simp [rm, vI, vR, Value.category]; omega)⟩ wr0 rfl rfl rfl (Nat.le_of_ble_eq_true rfl) dL_holds_163 rfl (fun r_163 M_163 h_163 => ?_)
            obtain ⟨hI, er_163⟩ := q_l1 hI hl h_163
            subst er_163
            refine j_iconst (q := 167) F dL_holds_166 rfl ?_
            refine j_icmp_eq (q := 170) (tgt := 180) F dL_holds_167 (by decide) rfl ⟨by omega, by omega⟩ ⟨by decide, by decide⟩ (fun h167_54 => ?_) (fun h167_54 => ?_)
            · skip
              exact CUT180 M_163 (by exact hI)
            · skip
              refine j_iload (q := 172) F dL_holds_170 rfl 7 rfl ?_
              refine j_aload_n (q := 173) F dL_holds_172 rfl rfl 0 rfl ?_
              refine j_iconst (q := 174) F dL_holds_173 rfl ?_
              refine j_callVI (q := 177) F [vI 2] (ct_X6_count l X hX M_163 hI.1 2 ⟨by omega, by omega⟩) gL_holds_X6_count rfl cd_X6_count ⟨by first | exact Nat.le_of_ble_eq_true rfl | (simp only [rm]; omega) | (simp [rm, vI, vR, Value.category]; omega), by first | exact Nat.le_of_ble_eq_true rfl | (simp only [rm]; omega) | (simp [rm, vI, vR, Value.category]; omega), by first | exact Nat.le_of_ble_eq_true rfl | (simp only [rm]; omega) | (simp [rm, vI, vR, Value.category]; omega), by first | exact Nat.le_of_ble_eq_true rfl | (simp only [rm]; omega) | (simp [rm, vI, vR, Value.category]; omega)⟩ wr0 rfl rfl rfl (Nat.le_of_ble_eq_true rfl) dL_holds_174 rfl (fun r_174 M_174 h_174 => ?_)
              obtain ⟨hI, er_174⟩ := q_c2 hI  h_174
              subst er_174
              refine j_icmp_ne (q := 180) (tgt := 184) F dL_holds_177 (by decide) rfl ⟨by omega, by omega⟩ ⟨by omega, by omega⟩ (fun h => by exfalso; omega) (fun h177_56 => ?_)
              exact CUT180 M_174 (by exact hI)
        refine j_aload_n (q := 86) F dL_holds_85 rfl rfl 0 rfl ?_
        refine j_iload (q := 88) F dL_holds_86 rfl 5 rfl ?_
        refine j_bipush (q := 90) F dL_holds_88 rfl (by decide) ?_
        refine j_callVI (q := 93) F [vI ln, vI 6] (ct_X6_line l X hX M_80 hI.1 ln ⟨by omega, by omega⟩ 6 ⟨by omega, by omega⟩) gL_holds_X6_line rfl cd_X6_line ⟨by first | exact Nat.le_of_ble_eq_true rfl | (simp only [rm]; omega) | (simp [rm, vI, vR, Value.category]; omega), by first | exact Nat.le_of_ble_eq_true rfl | (simp only [rm]; omega) | (simp [rm, vI, vR, Value.category]; omega), by first | exact Nat.le_of_ble_eq_true rfl | (simp only [rm]; omega) | (simp [rm, vI, vR, Value.category]; omega), by first | exact Nat.le_of_ble_eq_true rfl | (simp only [rm]; omega) | (simp [rm, vI, vR, Value.category]; omega)⟩ wr0 rfl rfl rfl (Nat.le_of_ble_eq_true rfl) dL_holds_90 rfl (fun r_90 M_90 h_90 => ?_)
        obtain ⟨hI, er_90⟩ := q_l6 hI hl h_90
        subst er_90
        refine j_iload_n (q := 94) F dL_holds_93 rfl rfl 3 rfl ?_
        refine j_icmp_le (q := 97) (tgt := 108) F dL_holds_94 (by decide) rfl ⟨by omega, by omega⟩ ⟨by omega, by omega⟩ (fun h94_58 => ?_) (fun h94_58 => ?_)
        · skip
          refine j_iload_n (q := 109) F dL_holds_108 rfl rfl 3 rfl ?_
          exact CUT109 most M_90 (by exact hI) (by rw [mx_step hD ln0 hlt]; split <;> omega)
        · skip
          refine j_aload_n (q := 98) F dL_holds_97 rfl rfl 0 rfl ?_
          refine j_iload (q := 100) F dL_holds_98 rfl 5 rfl ?_
          refine j_bipush (q := 102) F dL_holds_100 rfl (by decide) ?_
          refine j_callVI (q := 105) F [vI ln, vI 6] (ct_X6_line l X hX M_90 hI.1 ln ⟨by omega, by omega⟩ 6 ⟨by omega, by omega⟩) gL_holds_X6_line rfl cd_X6_line ⟨by first | exact Nat.le_of_ble_eq_true rfl | (simp only [rm]; omega) | (simp [rm, vI, vR, Value.category]; omega), by first | exact Nat.le_of_ble_eq_true rfl | (simp only [rm]; omega) | (simp [rm, vI, vR, Value.category]; omega), by first | exact Nat.le_of_ble_eq_true rfl | (simp only [rm]; omega) | (simp [rm, vI, vR, Value.category]; omega), by first | exact Nat.le_of_ble_eq_true rfl | (simp only [rm]; omega) | (simp [rm, vI, vR, Value.category]; omega)⟩ wr0 rfl rfl rfl (Nat.le_of_ble_eq_true rfl) dL_holds_102 rfl (fun r_102 M_102 h_102 => ?_)
          obtain ⟨hI, er_102⟩ := q_l6 hI hl h_102
          subst er_102
          refine j_goto (q := 109) F dL_holds_105 (by decide) ?_
          exact CUT109 (mx (fun _ => true) (RD (N 83)) (sd (N 83) ln) (sd (N 83) (ln + 1))) M_102 (by exact hI) (by rw [mx_step hD ln0 hlt]; split <;> omega)
  exact LP12 _ 0 0 0 0 M (by exact hI) (by omega) (by omega) (by exact hD.2.2.2.2.2.1.symm) (by rfl) (by rw [hD.2.2.2.2.2.1, mx_0 _ _ (Int.le_refl _)]) (by exact Nat.lt_succ_self _)
