theorem wr0 : shs[0]? = some (9, 0, [some 1, some 8, some 45, some 54, some 79]) := rfl
set_option maxRecDepth 100000 in
set_option maxHeartbeats 400000 in
theorem ct_X6_isWithin (l : Launch) (X : Cx) (hX : Inj X) (M : Mem) (n lo hi : Int) (hn : inR n) (hlo : inR lo) (hhi : inR hi) : CtI l X yX6_isWithin wsX6_isWithin 0 [vI n, vI lo, vI hi] M (fun x M' => M' = M ∧ (x = 1 ∧ (lo ≤ n ∧ n ≤ hi) ∨ x = 0 ∧ (n < lo ∨ hi < n))) := by
  refine CtI_ofZ (cc := cX6_isWithin) (maxL := 3) hX (by decide +kernel) rfl (Nat.le_of_ble_eq_true rfl) ?_
  intro zp ze zs zm zargs zbelow zmeth zc zQ F hret
  show J zp l ze (rm 0) zs zm zargs zbelow zmeth zc 0 0 zQ zs.heap X 3 M 0 [(0, vI n), (1, vI lo), (2, vI hi)] []
  obtain ⟨hn1, hn2⟩ := hn
  obtain ⟨hlo1, hlo2⟩ := hlo
  obtain ⟨hhi1, hhi2⟩ := hhi
  refine j_iload_n (q := 1) F dX6_isWithin_0 rfl rfl 0 rfl ?_
  refine j_iload_n (q := 2) F dX6_isWithin_1 rfl rfl 1 rfl ?_
  refine j_icmp_lt (q := 5) (tgt := 14) F dX6_isWithin_2 (by decide) rfl ⟨by omega, by omega⟩ ⟨by omega, by omega⟩ (fun h2_1 => ?_) (fun h2_1 => ?_)
  · skip
    refine j_iconst (q := 15) F dX6_isWithin_14 rfl ?_
    exact hret _ _ _ _ dX6_isWithin_15 (Or.inl rfl) (by refine ⟨rfl, ?_⟩; omega)
  · skip
    refine j_iload_n (q := 6) F dX6_isWithin_5 rfl rfl 0 rfl ?_
    refine j_iload_n (q := 7) F dX6_isWithin_6 rfl rfl 2 rfl ?_
    refine j_icmp_gt (q := 10) (tgt := 14) F dX6_isWithin_7 (by decide) rfl ⟨by omega, by omega⟩ ⟨by omega, by omega⟩ (fun h7_2 => ?_) (fun h7_2 => ?_)
    · skip
      refine j_iconst (q := 15) F dX6_isWithin_14 rfl ?_
      exact hret _ _ _ _ dX6_isWithin_15 (Or.inl rfl) (by refine ⟨rfl, ?_⟩; omega)
    · skip
      refine j_iconst (q := 11) F dX6_isWithin_10 rfl ?_
      refine j_goto (q := 15) F dX6_isWithin_11 (by decide) ?_
      exact hret _ _ _ _ dX6_isWithin_15 (Or.inr rfl) (by refine ⟨rfl, ?_⟩; omega)
theorem cd_X0_keep : yX0_keep.cls = RX0 ∧ yX0_keep.cls ≠ "java/lang/invoke/MethodHandle" ∧ yX0_keep.cls ≠ "java/lang/invoke/VarHandle" ∧ (parseMethodDescriptor yX0_keep.desc).map (fun d => d.parameters.length) = some 1 := by decide +kernel
theorem cd_X3_forget : yX3_forget.cls = RX3 ∧ yX3_forget.cls ≠ "java/lang/invoke/MethodHandle" ∧ yX3_forget.cls ≠ "java/lang/invoke/VarHandle" ∧ (parseMethodDescriptor yX3_forget.desc).map (fun d => d.parameters.length) = some 0 := by decide +kernel
theorem fl_X6_beginChange_10 : Cond.fieldLink RX6 10 "WhiteRivers" "page" "LWhiteRivers$Page;" ∈ wsX6_beginChange := by decide +kernel
theorem fl_X6_beginChange_19 : Cond.fieldLink RX6 19 "WhiteRivers" "history" "LWhiteRivers$History;" ∈ wsX6_beginChange := by decide +kernel
theorem fl_X6_beginChange_33 : Cond.fieldLink RX6 33 "WhiteRivers" "search" "LWhiteRivers$Search;" ∈ wsX6_beginChange := by decide +kernel
theorem in_X6_beginChange_6 : ∀ w ∈ u_ws RX6 TX6 5, w ∈ wsX6_beginChange := by decide +kernel
set_option maxRecDepth 100000 in
set_option maxHeartbeats 400000 in
theorem ct_X6_beginChange (l : Launch) (X : Cx) (hX : Inj X) (M : Mem) (hC : CRel M M) : CtV l X yX6_beginChange wsX6_beginChange 4 [vR X 0] M (fun M' => BCP M M') := by
  refine CtV_of (cc := cX6_beginChange) (maxL := 1) hX (by decide +kernel) rfl (Nat.le_of_ble_eq_true rfl) ?_
  intro zp ze zs zm zargs zbelow zmeth zc zQ F hret
  show J zp l ze (rm 4) zs zm zargs zbelow zmeth zc 0 0 zQ zs.heap X 1 M 0 [(0, vR X 0)] []
  have hH := hC.2.2.1
  have hst : 0 ≤ M 8 0 ∧ M 8 0 ≤ 5 := by have h1 := hH.1; have h2 := hH.2.1; have h3 := hH.2.2.1; omega
  refine j_aload_n (q := 1) F dX6_beginChange_0 rfl rfl 0 rfl ?_
  refine j_getR (q := 4) (z := 8) (index := 19) F wr0 rfl in_X6_beginChange_6 1 (by decide) rfl fl_X6_beginChange_19 dX6_beginChange_1 rfl ?_
  refine j_aload_n (q := 5) F dX6_beginChange_4 rfl rfl 0 rfl ?_
  refine j_getR (q := 8) (z := 1) (index := 10) F wr0 rfl in_X6_beginChange_6 0 (by decide) rfl fl_X6_beginChange_10 dX6_beginChange_5 rfl ?_
  refine j_callVV (q := 11) F [vR X 1] (ct_X0_keep l X hX M hH.2.2.2.1 (by omega)) gX6_beginChange_X0_keep rfl cd_X0_keep ⟨by first | exact Nat.le_of_ble_eq_true rfl | (simp only [rm]; omega) | (simp [rm, vI, vR, Value.category]; omega), by first | exact Nat.le_of_ble_eq_true rfl | (simp only [rm]; omega) | (simp [rm, vI, vR, Value.category]; omega), by first | exact Nat.le_of_ble_eq_true rfl | (simp only [rm]; omega) | (simp [rm, vI, vR, Value.category]; omega), by first | exact Nat.le_of_ble_eq_true rfl | (simp only [rm]; omega) | (simp [rm, vI, vR, Value.category]; omega)⟩ hi8 rfl rfl rfl (Nat.le_of_ble_eq_true rfl) dX6_beginChange_8 rfl (fun Mk hk => ?_)
  refine j_aload_n (q := 12) F dX6_beginChange_11 rfl rfl 0 rfl ?_
  refine j_getR (q := 15) (z := 54) (index := 33) F wr0 rfl in_X6_beginChange_6 3 (by decide) rfl fl_X6_beginChange_33 dX6_beginChange_12 rfl ?_
  refine j_callVM (q := 18) F [] (ct_X3_forget l X hX Mk) gX6_beginChange_X3_forget rfl cd_X3_forget ⟨by first | exact Nat.le_of_ble_eq_true rfl | (simp only [rm]; omega) | (simp [rm, vI, vR, Value.category]; omega), by first | exact Nat.le_of_ble_eq_true rfl | (simp only [rm]; omega) | (simp [rm, vI, vR, Value.category]; omega), by first | exact Nat.le_of_ble_eq_true rfl | (simp only [rm]; omega) | (simp [rm, vI, vR, Value.category]; omega), by first | exact Nat.le_of_ble_eq_true rfl | (simp only [rm]; omega) | (simp [rm, vI, vR, Value.category]; omega)⟩ se54 rfl rfl rfl (Nat.le_of_ble_eq_true rfl) dX6_beginChange_15 rfl ?_
  exact hret _ _ _ dX6_beginChange_18 (by exact BCP_ok hk hH hC.1 hC.2.1)
theorem cd_X1_fill : yX1_fill.cls = RX1 ∧ yX1_fill.cls ≠ "java/lang/invoke/MethodHandle" ∧ yX1_fill.cls ≠ "java/lang/invoke/VarHandle" ∧ (parseMethodDescriptor yX1_fill.desc).map (fun d => d.parameters.length) = some 0 := by decide +kernel
theorem cd_X1_frozenLines : yX1_frozenLines.cls = RX1 ∧ yX1_frozenLines.cls ≠ "java/lang/invoke/MethodHandle" ∧ yX1_frozenLines.cls ≠ "java/lang/invoke/VarHandle" ∧ (parseMethodDescriptor yX1_frozenLines.desc).map (fun d => d.parameters.length) = some 0 := by decide +kernel
theorem cd_X6_beginChange : yX6_beginChange.cls = RX6 ∧ yX6_beginChange.cls ≠ "java/lang/invoke/MethodHandle" ∧ yX6_beginChange.cls ≠ "java/lang/invoke/VarHandle" ∧ (parseMethodDescriptor yX6_beginChange.desc).map (fun d => d.parameters.length) = some 0 := by decide +kernel
theorem cd_X6_isWithin : yX6_isWithin.cls ≠ "java/lang/invoke/MethodHandle" ∧ yX6_isWithin.cls ≠ "java/lang/invoke/VarHandle" ∧ (parseMethodDescriptor yX6_isWithin.desc).map (fun d => d.parameters.length) = some 3 := by decide +kernel
theorem fl_X6_setWidth_10 : Cond.fieldLink RX6 10 "WhiteRivers" "page" "LWhiteRivers$Page;" ∈ wsX6_setWidth := by decide +kernel
theorem fl_X6_setWidth_55 : Cond.fieldLink RX6 55 "WhiteRivers$Page" "width" "I" ∈ wsX6_setWidth := by decide +kernel
theorem in_X6_setWidth_1 : ∀ w ∈ u_ws RX1 TX1 6, w ∈ wsX6_setWidth := by decide +kernel
theorem in_X6_setWidth_6 : ∀ w ∈ u_ws RX6 TX6 5, w ∈ wsX6_setWidth := by decide +kernel
set_option maxRecDepth 100000 in
set_option maxHeartbeats 400000 in
theorem ct_X6_setWidth (l : Launch) (X : Cx) (hX : Inj X) (M : Mem) (hC : CRel M M) (w : Int) (hw : inR w) : CtI l X yX6_setWidth wsX6_setWidth 5 [vR X 0, vI w] M (fun r M' => CPO M (OsetWidth M w) r M') := by
  refine CtI_of (cc := cX6_setWidth) (maxL := 2) hX (by decide +kernel) rfl (Nat.le_of_ble_eq_true rfl) ?_
  intro zp ze zs zm zargs zbelow zmeth zc zQ F hret
  show J zp l ze (rm 5) zs zm zargs zbelow zmeth zc 0 0 zQ zs.heap X 2 M 0 [(0, vR X 0), (1, vI w)] []
  have hR := hC.1
  have hD := hC.2.1
  have hn : M 1 2 = M 83 0 := hR.2.2.1
  have hw0 : M 1 0 = M 83 1 := hR.1
  have hs0 : M 1 1 = M 83 2 := hR.2.1
  have hnn := hD.1
  have hww := hD.2.1
  have hss := hD.2.2.1
  have hL24 := hD.L24
  have hl8 : ∀ w, 0 ≤ w → w < 24 → 0 ≤ M 3 w ∧ M 3 w ≤ 8 := hR.2.2.2.2.1
  have htot : cnt (M 5) (M 83 0) = M 83 3 := hR.2.2.2.1.total
  obtain ⟨hw1, hw2⟩ := hw
  have hfb2 := frc_bd hD
  refine j_iload_n (q := 1) F dX6_setWidth_0 rfl rfl 1 rfl ?_
  refine j_bipush (q := 3) F dX6_setWidth_1 rfl (by decide) ?_
  refine j_bipush (q := 5) F dX6_setWidth_3 rfl (by decide) ?_
  refine j_callSZ (q := 8) F [vI w, vI 16, vI 40] (ct_X6_isWithin l X hX M w 16 40 ⟨by omega, by omega⟩ ⟨by omega, by omega⟩ ⟨by omega, by omega⟩) gX6_setWidth_X6_isWithin rfl cd_X6_isWithin ⟨by first | exact Nat.le_of_ble_eq_true rfl | (simp only [rm]; omega) | (simp [rm, vI, vR, Value.category]; omega), by first | exact Nat.le_of_ble_eq_true rfl | (simp only [rm]; omega) | (simp [rm, vI, vR, Value.category]; omega), by first | exact Nat.le_of_ble_eq_true rfl | (simp only [rm]; omega) | (simp [rm, vI, vR, Value.category]; omega), by first | exact Nat.le_of_ble_eq_true rfl | (simp only [rm]; omega) | (simp [rm, vI, vR, Value.category]; omega)⟩ rfl rfl (Nat.le_of_ble_eq_true rfl) dX6_setWidth_5 rfl (fun p_2 => ?_) (fun p_2 => ?_)
  · skip
    refine j_if_ne (q := 11) (tgt := 13) F dX6_setWidth_8 (by decide) rfl ⟨by decide, by decide⟩ (fun _ => ?_) (fun h => absurd h (by decide))
    refine j_aload_n (q := 14) F dX6_setWidth_13 rfl rfl 0 rfl ?_
    refine j_getR (q := 17) (z := 1) (index := 10) F wr0 rfl in_X6_setWidth_6 0 (by decide) rfl fl_X6_setWidth_10 dX6_setWidth_14 rfl ?_
    refine j_callVE (q := 20) F [] (ct_X1_frozenLines l X hX M 1 (pg1) (by omega)) gX6_setWidth_X1_frozenLines rfl cd_X1_frozenLines ⟨by first | exact Nat.le_of_ble_eq_true rfl | (simp only [rm]; omega) | (simp [rm, vI, vR, Value.category]; omega), by first | exact Nat.le_of_ble_eq_true rfl | (simp only [rm]; omega) | (simp [rm, vI, vR, Value.category]; omega), by first | exact Nat.le_of_ble_eq_true rfl | (simp only [rm]; omega) | (simp [rm, vI, vR, Value.category]; omega), by first | exact Nat.le_of_ble_eq_true rfl | (simp only [rm]; omega) | (simp [rm, vI, vR, Value.category]; omega)⟩ (pg1).1 rfl rfl rfl (Nat.le_of_ble_eq_true rfl) dX6_setWidth_17 rfl ?_
    rw [show cnt (M 7) (M 1 2) = frc (M 83) from by rw [hn]; exact frc_eq hR hD]
    refine j_if_le (q := 23) (tgt := 26) F dX6_setWidth_20 (by decide) rfl ⟨by omega, by omega⟩ (fun h20_4 => ?_) (fun h20_4 => ?_)
    · skip
      refine j_aload_n (q := 27) F dX6_setWidth_26 rfl rfl 0 rfl ?_
      refine j_callVV (q := 30) F [] (ct_X6_beginChange l X hX M hC) gX6_setWidth_X6_beginChange rfl cd_X6_beginChange ⟨by first | exact Nat.le_of_ble_eq_true rfl | (simp only [rm]; omega) | (simp [rm, vI, vR, Value.category]; omega), by first | exact Nat.le_of_ble_eq_true rfl | (simp only [rm]; omega) | (simp [rm, vI, vR, Value.category]; omega), by first | exact Nat.le_of_ble_eq_true rfl | (simp only [rm]; omega) | (simp [rm, vI, vR, Value.category]; omega), by first | exact Nat.le_of_ble_eq_true rfl | (simp only [rm]; omega) | (simp [rm, vI, vR, Value.category]; omega)⟩ wr0 rfl rfl rfl (Nat.le_of_ble_eq_true rfl) dX6_setWidth_27 rfl (fun Mb hb => ?_)
      have b1 : Mb 1 = M 1 := hb.1 1 (by decide) (by decide)
      have b3 : Mb 3 = M 3 := hb.1 3 (by decide) (by decide)
      have b5 : Mb 5 = M 5 := hb.1 5 (by decide) (by decide)
      have b7 : Mb 7 = M 7 := hb.1 7 (by decide) (by decide)
      have hRb := hb.rel hC
      have hfb := hb.fr
      have bn : Mb 1 2 = M 83 0 := hRb.2.2.1
      refine j_aload_n (q := 31) F dX6_setWidth_30 rfl rfl 0 rfl ?_
      refine j_getR (q := 34) (z := 1) (index := 10) F wr0 rfl in_X6_setWidth_6 0 (by decide) rfl fl_X6_setWidth_10 dX6_setWidth_31 rfl ?_
      refine j_iload_n (q := 35) F dX6_setWidth_34 rfl rfl 1 rfl ?_
      refine j_putI (q := 38) (i := 0) (index := 55) F (pg1).1 rfl in_X6_setWidth_1 0 (by decide) tyX1_ok nmX1 rfl rfl rfl rfl fl_X6_setWidth_55 dX6_setWidth_35 rfl ?_
      refine j_aload_n (q := 39) F dX6_setWidth_38 rfl rfl 0 rfl ?_
      refine j_getR (q := 42) (z := 1) (index := 10) F wr0 rfl in_X6_setWidth_6 0 (by decide) rfl fl_X6_setWidth_10 dX6_setWidth_39 rfl ?_
      refine j_callVV (q := 45) F [] (ct_X1_fill l X hX (mset Mb 1 0 w) 1 (pg1) (by rw [mset_ne2 (by decide), b1]; omega) (by rw [mset_at]; omega) (by rw [mset_nef (by decide), b3]; exact hl8)) gX6_setWidth_X1_fill rfl cd_X1_fill ⟨by first | exact Nat.le_of_ble_eq_true rfl | (simp only [rm]; omega) | (simp [rm, vI, vR, Value.category]; omega), by first | exact Nat.le_of_ble_eq_true rfl | (simp only [rm]; omega) | (simp [rm, vI, vR, Value.category]; omega), by first | exact Nat.le_of_ble_eq_true rfl | (simp only [rm]; omega) | (simp [rm, vI, vR, Value.category]; omega), by first | exact Nat.le_of_ble_eq_true rfl | (simp only [rm]; omega) | (simp [rm, vI, vR, Value.category]; omega)⟩ (pg1).1 rfl rfl rfl (Nat.le_of_ble_eq_true rfl) dX6_setWidth_42 rfl (fun Mf hfl => ?_)
      refine j_aload_n (q := 46) F dX6_setWidth_45 rfl rfl 0 rfl ?_
      refine j_getR (q := 49) (z := 1) (index := 10) F wr0 rfl in_X6_setWidth_6 0 (by decide) rfl fl_X6_setWidth_10 dX6_setWidth_46 rfl ?_
      refine j_callVE (q := 52) F [] (ct_X1_lines l X hX Mf 1 (pg1) (by rw [hfl.1 1 (by decide), mset_ne2 (by decide), b1]; omega)) gX6_setWidth_X1_lines rfl cd_X1_lines ⟨by first | exact Nat.le_of_ble_eq_true rfl | (simp only [rm]; omega) | (simp [rm, vI, vR, Value.category]; omega), by first | exact Nat.le_of_ble_eq_true rfl | (simp only [rm]; omega) | (simp [rm, vI, vR, Value.category]; omega), by first | exact Nat.le_of_ble_eq_true rfl | (simp only [rm]; omega) | (simp [rm, vI, vR, Value.category]; omega), by first | exact Nat.le_of_ble_eq_true rfl | (simp only [rm]; omega) | (simp [rm, vI, vR, Value.category]; omega)⟩ (pg1).1 rfl rfl rfl (Nat.le_of_ble_eq_true rfl) dX6_setWidth_49 rfl ?_
      refine hret _ _ _ _ dX6_setWidth_52 ?_
      · refine ⟨fun q hq => by rw [hfl.1 q (by omega), mset_nef (by omega)]; exact hfb q hq, fun r' N hO => ?_⟩
        rcases hO with ⟨q1, q2, q3⟩ | ⟨q1, q2, q3, q4⟩ | ⟨q1, q2, q3, q4, q5, q6⟩
        · exfalso; omega
        · exfalso; omega
        · have hk := fill_ok hC hb (M2 := mset Mb 1 0 w) (M3 := Mf) (d := dset (M 83) 1 w) (fun q g0 g1 => mset_nef (by omega)) (by rw [dset_ne (by decide)]; exact hnn) (by rw [dset_at]; exact q1) (by rw [dset_ne (by decide)]; exact hss) (fun v g0 g1 => by rw [dset_ne (by omega)]; rw [dset_ne (by decide)] at g1; exact hD.2.2.2.2.1 v g0 g1) (by rw [mset_at, dset_at]) (by rw [mset_ne2 (by decide), dset_ne (by decide), b1]; exact hs0) (by rw [mset_ne2 (by decide), dset_ne (by decide), b1]; exact hn) (by rw [mset_nef (by decide), b3]; exact hl8) (fun v g0 g1 => by rw [dset_ne (by decide)] at g1; rw [mset_nef (by decide), b3, dset_ne (by omega)]; exact hR.2.2.2.2.2.1 v g0 g1) (by rw [mset_nef (by decide), b7]; exact frc_zero hR hD q2) hfl.1 hfl.2 q3 q4 q5
          exact ⟨by rw [hk.2.1, q6], hk.1⟩
    · skip
      refine j_bipush (q := 25) F dX6_setWidth_23 rfl (by decide) ?_
      refine hret _ _ _ _ dX6_setWidth_25 ?_
      · refine ⟨fun _ _ => rfl, fun r' N hO => ?_⟩
        rcases hO with ⟨q1, q2, q3⟩ | ⟨q1, q2, q3, q4⟩ | ⟨q1, q2, q3, q4, q5, q6⟩
        · exfalso; omega
        · exact ⟨by omega, hC.same (fun _ _ => rfl) q4⟩
        · exfalso; omega
  · skip
    refine j_if_ne (q := 11) (tgt := 13) F dX6_setWidth_8 (by decide) rfl ⟨by decide, by decide⟩ (fun h => absurd h (by decide)) (fun _ => ?_)
    refine j_iconst (q := 12) F dX6_setWidth_11 rfl ?_
    refine hret _ _ _ _ dX6_setWidth_12 ?_
    · refine ⟨fun _ _ => rfl, fun r' N hO => ?_⟩
      rcases hO with ⟨q1, q2, q3⟩ | ⟨q1, q2, q3, q4⟩ | ⟨q1, q2, q3, q4, q5, q6⟩
      · exact ⟨by omega, hC.same (fun _ _ => rfl) q3⟩
      · exfalso; omega
      · exfalso; omega
theorem fl_X6_setSlack_10 : Cond.fieldLink RX6 10 "WhiteRivers" "page" "LWhiteRivers$Page;" ∈ wsX6_setSlack := by decide +kernel
theorem fl_X6_setSlack_65 : Cond.fieldLink RX6 65 "WhiteRivers$Page" "slack" "I" ∈ wsX6_setSlack := by decide +kernel
theorem in_X6_setSlack_1 : ∀ w ∈ u_ws RX1 TX1 6, w ∈ wsX6_setSlack := by decide +kernel
theorem in_X6_setSlack_6 : ∀ w ∈ u_ws RX6 TX6 5, w ∈ wsX6_setSlack := by decide +kernel
set_option maxRecDepth 100000 in
set_option maxHeartbeats 400000 in
theorem ct_X6_setSlack (l : Launch) (X : Cx) (hX : Inj X) (M : Mem) (hC : CRel M M) (v : Int) (hv : inR v) : CtI l X yX6_setSlack wsX6_setSlack 5 [vR X 0, vI v] M (fun r M' => CPO M (OsetSlack M v) r M') := by
  refine CtI_of (cc := cX6_setSlack) (maxL := 3) hX (by decide +kernel) rfl (Nat.le_of_ble_eq_true rfl) ?_
  intro zp ze zs zm zargs zbelow zmeth zc zQ F hret
  show J zp l ze (rm 5) zs zm zargs zbelow zmeth zc 0 0 zQ zs.heap X 3 M 0 [(0, vR X 0), (1, vI v)] []
  have hR := hC.1
  have hD := hC.2.1
  have hn : M 1 2 = M 83 0 := hR.2.2.1
  have hw0 : M 1 0 = M 83 1 := hR.1
  have hs0 : M 1 1 = M 83 2 := hR.2.1
  have hnn := hD.1
  have hww := hD.2.1
  have hss := hD.2.2.1
  have hL24 := hD.L24
  have hl8 : ∀ w, 0 ≤ w → w < 24 → 0 ≤ M 3 w ∧ M 3 w ≤ 8 := hR.2.2.2.2.1
  have htot : cnt (M 5) (M 83 0) = M 83 3 := hR.2.2.2.1.total
  obtain ⟨hv1, hv2⟩ := hv
  refine j_iload_n (q := 1) F dX6_setSlack_0 rfl rfl 1 rfl ?_
  refine j_iconst (q := 2) F dX6_setSlack_1 rfl ?_
  refine j_bipush (q := 4) F dX6_setSlack_2 rfl (by decide) ?_
  refine j_callSZ (q := 7) F [vI v, vI 0, vI 8] (ct_X6_isWithin l X hX M v 0 8 ⟨by omega, by omega⟩ ⟨by omega, by omega⟩ ⟨by omega, by omega⟩) gX6_setSlack_X6_isWithin rfl cd_X6_isWithin ⟨by first | exact Nat.le_of_ble_eq_true rfl | (simp only [rm]; omega) | (simp [rm, vI, vR, Value.category]; omega), by first | exact Nat.le_of_ble_eq_true rfl | (simp only [rm]; omega) | (simp [rm, vI, vR, Value.category]; omega), by first | exact Nat.le_of_ble_eq_true rfl | (simp only [rm]; omega) | (simp [rm, vI, vR, Value.category]; omega), by first | exact Nat.le_of_ble_eq_true rfl | (simp only [rm]; omega) | (simp [rm, vI, vR, Value.category]; omega)⟩ rfl rfl (Nat.le_of_ble_eq_true rfl) dX6_setSlack_4 rfl (fun p_2 => ?_) (fun p_2 => ?_)
  · skip
    refine j_if_ne (q := 10) (tgt := 12) F dX6_setSlack_7 (by decide) rfl ⟨by decide, by decide⟩ (fun _ => ?_) (fun h => absurd h (by decide))
    refine j_aload_n (q := 13) F dX6_setSlack_12 rfl rfl 0 rfl ?_
    refine j_callVV (q := 16) F [] (ct_X6_beginChange l X hX M hC) gX6_setSlack_X6_beginChange rfl cd_X6_beginChange ⟨by first | exact Nat.le_of_ble_eq_true rfl | (simp only [rm]; omega) | (simp [rm, vI, vR, Value.category]; omega), by first | exact Nat.le_of_ble_eq_true rfl | (simp only [rm]; omega) | (simp [rm, vI, vR, Value.category]; omega), by first | exact Nat.le_of_ble_eq_true rfl | (simp only [rm]; omega) | (simp [rm, vI, vR, Value.category]; omega), by first | exact Nat.le_of_ble_eq_true rfl | (simp only [rm]; omega) | (simp [rm, vI, vR, Value.category]; omega)⟩ wr0 rfl rfl rfl (Nat.le_of_ble_eq_true rfl) dX6_setSlack_13 rfl (fun Mb hb => ?_)
    have b1 : Mb 1 = M 1 := hb.1 1 (by decide) (by decide)
    have b3 : Mb 3 = M 3 := hb.1 3 (by decide) (by decide)
    have b5 : Mb 5 = M 5 := hb.1 5 (by decide) (by decide)
    have b7 : Mb 7 = M 7 := hb.1 7 (by decide) (by decide)
    have hRb := hb.rel hC
    have hfb := hb.fr
    have bn : Mb 1 2 = M 83 0 := hRb.2.2.1
    refine j_aload_n (q := 17) F dX6_setSlack_16 rfl rfl 0 rfl ?_
    refine j_getR (q := 20) (z := 1) (index := 10) F wr0 rfl in_X6_setSlack_6 0 (by decide) rfl fl_X6_setSlack_10 dX6_setSlack_17 rfl ?_
    refine j_getI (q := 23) (i := 1) (index := 65) F (pg1).1 rfl in_X6_setSlack_1 1 (by decide) rfl rfl fl_X6_setSlack_65 dX6_setSlack_20 rfl ?_
    refine j_istore_n (q := 24) (lv' := [(0, vR X 0), (1, vI v), (2, vI (Mb 1 1))]) F dX6_setSlack_23 rfl rfl (by decide) rfl rfl ?_
    refine j_aload_n (q := 25) F dX6_setSlack_24 rfl rfl 0 rfl ?_
    refine j_getR (q := 28) (z := 1) (index := 10) F wr0 rfl in_X6_setSlack_6 0 (by decide) rfl fl_X6_setSlack_10 dX6_setSlack_25 rfl ?_
    refine j_iload_n (q := 29) F dX6_setSlack_28 rfl rfl 1 rfl ?_
    refine j_putI (q := 32) (i := 1) (index := 65) F (pg1).1 rfl in_X6_setSlack_1 1 (by decide) tyX1_ok nmX1 rfl rfl rfl rfl fl_X6_setSlack_65 dX6_setSlack_29 rfl ?_
    refine j_iload_n (q := 33) F dX6_setSlack_32 rfl rfl 2 rfl ?_
    refine hret _ _ _ _ dX6_setSlack_33 ?_
    · refine ⟨fun q hq => by rw [mset_nef (by omega)]; exact hfb q hq, fun r' N hO => ?_⟩
      rcases hO with ⟨q1, q2, q3⟩ | ⟨q1, q2, q3, q4, q5⟩
      · exfalso; omega
      · have hk := slack_ok hRb hD q1 q4
        exact ⟨by rw [q5, b1]; exact hs0, hC.change hb (fun q g0 g1 => mset_nef (by omega)) q2 q3.1 q3.2 hk.1 hk.2⟩
  · skip
    refine j_if_ne (q := 10) (tgt := 12) F dX6_setSlack_7 (by decide) rfl ⟨by decide, by decide⟩ (fun h => absurd h (by decide)) (fun _ => ?_)
    refine j_iconst (q := 11) F dX6_setSlack_10 rfl ?_
    refine hret _ _ _ _ dX6_setSlack_11 ?_
    · refine ⟨fun _ _ => rfl, fun r' N hO => ?_⟩
      rcases hO with ⟨q1, q2, q3⟩ | ⟨q1, q2, q3, q4, q5⟩
      · exact ⟨by omega, hC.same (fun _ _ => rfl) q3⟩
      · exfalso; omega
