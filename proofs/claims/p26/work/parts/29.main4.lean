theorem cd_X3_setPrices : yX3_setPrices.cls = RX3 ∧ yX3_setPrices.cls ≠ "java/lang/invoke/MethodHandle" ∧ yX3_setPrices.cls ≠ "java/lang/invoke/VarHandle" ∧ (parseMethodDescriptor yX3_setPrices.desc).map (fun d => d.parameters.length) = some 0 := by decide +kernel
theorem cn_X3_solve_18 : Cond.constant RX3 18 (1000000000) ∈ wsX3_solve := by decide +kernel
theorem fl_X3_solve_15 : Cond.fieldLink RX3 15 "WhiteRivers$Search" "bestRiver" "I" ∈ wsX3_solve := by decide +kernel
theorem fl_X3_solve_19 : Cond.fieldLink RX3 19 "WhiteRivers$Search" "bestPrice" "I" ∈ wsX3_solve := by decide +kernel
theorem fl_X3_solve_22 : Cond.fieldLink RX3 22 "WhiteRivers$Search" "limit" "I" ∈ wsX3_solve := by decide +kernel
theorem fl_X3_solve_28 : Cond.fieldLink RX3 28 "WhiteRivers$Search" "page" "LWhiteRivers$Page;" ∈ wsX3_solve := by decide +kernel
theorem fl_X3_solve_9 : Cond.fieldLink RX3 9 "WhiteRivers$Search" "bestLines" "I" ∈ wsX3_solve := by decide +kernel
theorem in_X3_solve_3 : ∀ w ∈ u_ws RX3 TX3 10, w ∈ wsX3_solve := by decide +kernel
set_option maxRecDepth 100000 in
set_option maxHeartbeats 400000 in
theorem ct_X3_solve (l : Launch) (X : Cx) (hX : Inj X) (M : Mem) (d : Int → Int) (hR : PRel M 1 d) (hD : DOK d) (D : Int) (hDD : 1 ≤ D ∧ D ≤ 24) (hS : SRel M d) (hB : SBd M 62) : CtV l X yX3_solve wsX3_solve 31 [vR X 54, vR X 1, vI D] M (fun M' => SolP M M' d D) := by
  refine CtV_of (cc := cX3_solve) (maxL := 3) hX (by decide +kernel) rfl (Nat.le_of_ble_eq_true rfl) ?_
  intro zp ze zs zm zargs zbelow zmeth zc zQ F hret
  show J zp l ze (rm 31) zs zm zargs zbelow zmeth zc 0 0 zQ zs.heap X 3 M 0 [(0, vR X 54), (1, vR X 1), (2, vI D)] []
  have hnn := hD.1
  have h543 : 0 ≤ M 54 3 ∧ M 54 3 ≤ 24 := by rcases hS with z | ⟨z1, z2, -⟩ <;> omega
  refine j_aload_n (q := 1) F dX3_solve_0 rfl rfl 0 rfl ?_
  refine j_getI (q := 4) (i := 3) (index := 22) F se54 rfl in_X3_solve_3 3 (by decide) rfl rfl fl_X3_solve_22 dX3_solve_1 rfl ?_
  refine j_iload_n (q := 5) F dX3_solve_4 rfl rfl 2 rfl ?_
  refine j_icmp_ne (q := 8) (tgt := 9) F dX3_solve_5 (by decide) rfl ⟨by omega, by omega⟩ ⟨by omega, by omega⟩ (fun h5_1 => ?_) (fun h5_1 => ?_)
  · skip
    refine j_aload_n (q := 10) F dX3_solve_9 rfl rfl 0 rfl ?_
    refine j_iload_n (q := 11) F dX3_solve_10 rfl rfl 2 rfl ?_
    refine j_putI (q := 14) (i := 3) (index := 22) F se54 rfl in_X3_solve_3 3 (by decide) tyX3_ok nmX3 rfl rfl rfl rfl fl_X3_solve_22 dX3_solve_11 rfl ?_
    refine j_aload_n (q := 15) F dX3_solve_14 rfl rfl 0 rfl ?_
    refine j_getR (q := 18) (z := 55) (index := 28) F se54 rfl in_X3_solve_3 4 (by decide) rfl fl_X3_solve_28 dX3_solve_15 rfl ?_
    refine j_aload_n (q := 19) F dX3_solve_18 rfl rfl 1 rfl ?_
    refine j_callVV (q := 22) F [vR X 1] (ct_X1_copyFrom l X hX (mset M 54 3 D) 55 (pg55) 1 (pg1) (by omega)) gX3_solve_X1_copyFrom rfl cd_X1_copyFrom ⟨by first | exact Nat.le_of_ble_eq_true rfl | (simp only [rm]; omega) | (simp [rm, vI, vR, Value.category]; omega), by first | exact Nat.le_of_ble_eq_true rfl | (simp only [rm]; omega) | (simp [rm, vI, vR, Value.category]; omega), by first | exact Nat.le_of_ble_eq_true rfl | (simp only [rm]; omega) | (simp [rm, vI, vR, Value.category]; omega), by first | exact Nat.le_of_ble_eq_true rfl | (simp only [rm]; omega) | (simp [rm, vI, vR, Value.category]; omega)⟩ (pg55).1 rfl rfl rfl (Nat.le_of_ble_eq_true rfl) dX3_solve_19 rfl (fun Mc hcp => ?_)
    have hRc : PRel Mc 55 d := (hR.congr (N := mset M 54 3 D) (mset_nef (by decide)) (mset_nef (by decide)) (mset_nef (by decide)) (mset_nef (by decide))).copy hD hcp
    refine j_aload_n (q := 23) F dX3_solve_22 rfl rfl 0 rfl ?_
    refine j_callVV (q := 26) F [] (ct_X3_setPrices l X hX Mc d hRc hD) gX3_solve_X3_setPrices rfl cd_X3_setPrices ⟨by first | exact Nat.le_of_ble_eq_true rfl | (simp only [rm]; omega) | (simp [rm, vI, vR, Value.category]; omega), by first | exact Nat.le_of_ble_eq_true rfl | (simp only [rm]; omega) | (simp [rm, vI, vR, Value.category]; omega), by first | exact Nat.le_of_ble_eq_true rfl | (simp only [rm]; omega) | (simp [rm, vI, vR, Value.category]; omega), by first | exact Nat.le_of_ble_eq_true rfl | (simp only [rm]; omega) | (simp [rm, vI, vR, Value.category]; omega)⟩ se54 rfl rfl rfl (Nat.le_of_ble_eq_true rfl) dX3_solve_23 rfl (fun Ms hsp => ?_)
    refine j_aload_n (q := 27) F dX3_solve_26 rfl rfl 0 rfl ?_
    refine j_ldc (q := 29) (n := 1000000000) F dX3_solve_27 rfl cn_X3_solve_18 (by decide) ?_
    refine j_putI (q := 32) (i := 2) (index := 19) F se54 rfl in_X3_solve_3 2 (by decide) tyX3_ok nmX3 rfl rfl rfl rfl fl_X3_solve_19 dX3_solve_29 rfl ?_
    refine j_aload_n (q := 33) F dX3_solve_32 rfl rfl 0 rfl ?_
    refine j_iconst (q := 34) F dX3_solve_33 rfl ?_
    refine j_putI (q := 37) (i := 0) (index := 9) F se54 rfl in_X3_solve_3 0 (by decide) tyX3_ok nmX3 rfl rfl rfl rfl fl_X3_solve_9 dX3_solve_34 rfl ?_
    refine j_aload_n (q := 38) F dX3_solve_37 rfl rfl 0 rfl ?_
    refine j_iconst (q := 39) F dX3_solve_38 rfl ?_
    refine j_putI (q := 42) (i := 1) (index := 15) F se54 rfl in_X3_solve_3 1 (by decide) tyX3_ok nmX3 rfl rfl rfl rfl fl_X3_solve_15 dX3_solve_39 rfl ?_
    refine j_aload_n (q := 43) F dX3_solve_42 rfl rfl 0 rfl ?_
    refine j_iconst (q := 44) F dX3_solve_43 rfl ?_
    refine j_iconst (q := 45) F dX3_solve_44 rfl ?_
    refine j_iconst (q := 46) F dX3_solve_45 rfl ?_
    refine j_iconst (q := 47) F dX3_solve_46 rfl ?_
    refine j_iconst (q := 48) F dX3_solve_47 rfl ?_
    refine j_callSV (q := 51) F [vR X 54, vI 0, vI 0, vI 0, vI 0, vI 0] (ct_X3_tryLines l X hX d D hD hDD 25 (mset (mset (mset Ms 54 2 1000000000) 54 0 0) 54 1 0) 0 0 (fun _ => 0) 0 0 0 (fun _ => 0) (1000000000, 0, 0, fun _ => 0) (solve_start hR hD hB hcp hsp) (by omega) (by omega) (by omega) (by omega) (by omega) (RI_0 hD) (by omega) (by show (0 : Int) < 1000000000; omega) (by omega) (by omega) (by omega)) gX3_solve_X3_tryLines rfl cd_X3_tryLines ⟨by first | exact Nat.le_of_ble_eq_true rfl | (simp only [rm]; omega) | (simp [rm, vI, vR, Value.category]; omega), by first | exact Nat.le_of_ble_eq_true rfl | (simp only [rm]; omega) | (simp [rm, vI, vR, Value.category]; omega), by first | exact Nat.le_of_ble_eq_true rfl | (simp only [rm]; omega) | (simp [rm, vI, vR, Value.category]; omega), by first | exact Nat.le_of_ble_eq_true rfl | (simp only [rm]; omega) | (simp [rm, vI, vR, Value.category]; omega)⟩ rfl rfl (Nat.le_of_ble_eq_true rfl) dX3_solve_48 rfl (fun Mt ht => ?_)
    exact hret _ _ _ dX3_solve_51 (by exact solve_end hcp hsp ht)
  · skip
    exact hret _ _ _ dX3_solve_8 (by exact solve_same hS hB hDD.1 (by assumption))
theorem cd_X0_restoreLatest : yX0_restoreLatest.cls = RX0 ∧ yX0_restoreLatest.cls ≠ "java/lang/invoke/MethodHandle" ∧ yX0_restoreLatest.cls ≠ "java/lang/invoke/VarHandle" ∧ (parseMethodDescriptor yX0_restoreLatest.desc).map (fun d => d.parameters.length) = some 1 := by decide +kernel
theorem fl_X6_undo_10 : Cond.fieldLink RX6 10 "WhiteRivers" "page" "LWhiteRivers$Page;" ∈ wsX6_undo := by decide +kernel
theorem fl_X6_undo_121 : Cond.fieldLink RX6 121 "WhiteRivers$History" "states" "I" ∈ wsX6_undo := by decide +kernel
theorem fl_X6_undo_19 : Cond.fieldLink RX6 19 "WhiteRivers" "history" "LWhiteRivers$History;" ∈ wsX6_undo := by decide +kernel
theorem fl_X6_undo_33 : Cond.fieldLink RX6 33 "WhiteRivers" "search" "LWhiteRivers$Search;" ∈ wsX6_undo := by decide +kernel
theorem in_X6_undo_0 : ∀ w ∈ u_ws RX0 TX0 2, w ∈ wsX6_undo := by decide +kernel
theorem in_X6_undo_6 : ∀ w ∈ u_ws RX6 TX6 5, w ∈ wsX6_undo := by decide +kernel
set_option maxRecDepth 100000 in
set_option maxHeartbeats 400000 in
theorem ct_X6_undo (l : Launch) (X : Cx) (hX : Inj X) (M : Mem) (hC : CRel M M) : CtI l X yX6_undo wsX6_undo 4 [vR X 0] M (fun r M' => CPO M (Oundo M) r M') := by
  refine CtI_of (cc := cX6_undo) (maxL := 1) hX (by decide +kernel) rfl (Nat.le_of_ble_eq_true rfl) ?_
  intro zp ze zs zm zargs zbelow zmeth zc zQ F hret
  show J zp l ze (rm 4) zs zm zargs zbelow zmeth zc 0 0 zQ zs.heap X 1 M 0 [(0, vR X 0)] []
  have hH := hC.2.2.1
  have hst : M 8 0 = M 82 2 := hH.2.2.1
  have hs0 := hH.1
  have hs5 := hH.2.1
  refine j_aload_n (q := 1) F dX6_undo_0 rfl rfl 0 rfl ?_
  refine j_getR (q := 4) (z := 8) (index := 19) F wr0 rfl in_X6_undo_6 1 (by decide) rfl fl_X6_undo_19 dX6_undo_1 rfl ?_
  refine j_getI (q := 7) (i := 0) (index := 121) F hi8 rfl in_X6_undo_0 0 (by decide) rfl rfl fl_X6_undo_121 dX6_undo_4 rfl ?_
  refine j_if_ne (q := 10) (tgt := 13) F dX6_undo_7 (by decide) rfl ⟨by omega, by omega⟩ (fun h7_1 => ?_) (fun h7_1 => ?_)
  · skip
    refine j_aload_n (q := 14) F dX6_undo_13 rfl rfl 0 rfl ?_
    refine j_getR (q := 17) (z := 8) (index := 19) F wr0 rfl in_X6_undo_6 1 (by decide) rfl fl_X6_undo_19 dX6_undo_14 rfl ?_
    refine j_aload_n (q := 18) F dX6_undo_17 rfl rfl 0 rfl ?_
    refine j_getR (q := 21) (z := 1) (index := 10) F wr0 rfl in_X6_undo_6 0 (by decide) rfl fl_X6_undo_10 dX6_undo_18 rfl ?_
    refine j_callVV (q := 24) F [vR X 1] (ct_X0_restoreLatest l X hX M hH.2.2.2.1 (by omega)) gX6_undo_X0_restoreLatest rfl cd_X0_restoreLatest ⟨by first | exact Nat.le_of_ble_eq_true rfl | (simp only [rm]; omega) | (simp [rm, vI, vR, Value.category]; omega), by first | exact Nat.le_of_ble_eq_true rfl | (simp only [rm]; omega) | (simp [rm, vI, vR, Value.category]; omega), by first | exact Nat.le_of_ble_eq_true rfl | (simp only [rm]; omega) | (simp [rm, vI, vR, Value.category]; omega), by first | exact Nat.le_of_ble_eq_true rfl | (simp only [rm]; omega) | (simp [rm, vI, vR, Value.category]; omega)⟩ hi8 rfl rfl rfl (Nat.le_of_ble_eq_true rfl) dX6_undo_21 rfl (fun Mr hr => ?_)
    have e80 : Mr 8 0 = M 8 0 - 1 := by obtain ⟨N2, z, -, -, e⟩ := hr; rw [e, mset_at]
    have hfr : ∀ q, 82 ≤ q → Mr q = M q := by
      obtain ⟨N2, z, -, hcp, e⟩ := hr
      intro q hq
      rw [e, mset_nef (by omega), hcp.2.2 q (by omega) (by omega) (by omega) (by omega)]
    refine j_aload_n (q := 25) F dX6_undo_24 rfl rfl 0 rfl ?_
    refine j_getR (q := 28) (z := 54) (index := 33) F wr0 rfl in_X6_undo_6 3 (by decide) rfl fl_X6_undo_33 dX6_undo_25 rfl ?_
    refine j_callVM (q := 31) F [] (ct_X3_forget l X hX Mr) gX6_undo_X3_forget rfl cd_X3_forget ⟨by first | exact Nat.le_of_ble_eq_true rfl | (simp only [rm]; omega) | (simp [rm, vI, vR, Value.category]; omega), by first | exact Nat.le_of_ble_eq_true rfl | (simp only [rm]; omega) | (simp [rm, vI, vR, Value.category]; omega), by first | exact Nat.le_of_ble_eq_true rfl | (simp only [rm]; omega) | (simp [rm, vI, vR, Value.category]; omega), by first | exact Nat.le_of_ble_eq_true rfl | (simp only [rm]; omega) | (simp [rm, vI, vR, Value.category]; omega)⟩ se54 rfl rfl rfl (Nat.le_of_ble_eq_true rfl) dX6_undo_28 rfl ?_
    refine j_aload_n (q := 32) F dX6_undo_31 rfl rfl 0 rfl ?_
    refine j_getR (q := 35) (z := 8) (index := 19) F wr0 rfl in_X6_undo_6 1 (by decide) rfl fl_X6_undo_19 dX6_undo_32 rfl ?_
    refine j_getI (q := 38) (i := 0) (index := 121) F hi8 rfl in_X6_undo_0 0 (by decide) rfl rfl fl_X6_undo_121 dX6_undo_35 rfl ?_
    rw [show (mset Mr 54 3 0) 8 0 = Mr 8 0 from by simp [mset]]
    refine hret _ _ _ _ dX6_undo_38 ?_
    · refine ⟨fun q hq => by rw [mset_nef (by omega)]; exact hfr q hq, fun r' N hO => ?_⟩
      rcases hO with ⟨q1, q2, q3⟩ | ⟨q1, q2, q3, q4⟩
      · exfalso; omega
      · exact ⟨by rw [q4, e80]; omega, und_crel hC hr (by omega) rfl q2 q3⟩
  · skip
    refine j_bipush (q := 12) F dX6_undo_10 rfl (by decide) ?_
    refine hret _ _ _ _ dX6_undo_12 ?_
    · refine ⟨fun _ _ => rfl, fun r' N hO => ?_⟩
      rcases hO with ⟨q1, q2, q3⟩ | ⟨q1, q2, q3, q4⟩
      · exact ⟨by omega, hC.same (fun _ _ => rfl) q3⟩
      · exfalso; omega
theorem cd_X3_bestBadness : yX3_bestBadness.cls = RX3 ∧ yX3_bestBadness.cls ≠ "java/lang/invoke/MethodHandle" ∧ yX3_bestBadness.cls ≠ "java/lang/invoke/VarHandle" ∧ (parseMethodDescriptor yX3_bestBadness.desc).map (fun d => d.parameters.length) = some 0 := by decide +kernel
theorem cd_X3_bestChanged : yX3_bestChanged.cls = RX3 ∧ yX3_bestChanged.cls ≠ "java/lang/invoke/MethodHandle" ∧ yX3_bestChanged.cls ≠ "java/lang/invoke/VarHandle" ∧ (parseMethodDescriptor yX3_bestChanged.desc).map (fun d => d.parameters.length) = some 0 := by decide +kernel
theorem cd_X3_hasFound : yX3_hasFound.cls = RX3 ∧ yX3_hasFound.cls ≠ "java/lang/invoke/MethodHandle" ∧ yX3_hasFound.cls ≠ "java/lang/invoke/VarHandle" ∧ (parseMethodDescriptor yX3_hasFound.desc).map (fun d => d.parameters.length) = some 0 := by decide +kernel
theorem cd_X3_solve : yX3_solve.cls = RX3 ∧ yX3_solve.cls ≠ "java/lang/invoke/MethodHandle" ∧ yX3_solve.cls ≠ "java/lang/invoke/VarHandle" ∧ (parseMethodDescriptor yX3_solve.desc).map (fun d => d.parameters.length) = some 2 := by decide +kernel
theorem fl_X6_plan_10 : Cond.fieldLink RX6 10 "WhiteRivers" "page" "LWhiteRivers$Page;" ∈ wsX6_plan := by decide +kernel
theorem fl_X6_plan_181 : Cond.fieldLink RX6 181 "WhiteRivers$Search" "bestLines" "I" ∈ wsX6_plan := by decide +kernel
theorem fl_X6_plan_187 : Cond.fieldLink RX6 187 "WhiteRivers$Search" "bestRiver" "I" ∈ wsX6_plan := by decide +kernel
theorem fl_X6_plan_33 : Cond.fieldLink RX6 33 "WhiteRivers" "search" "LWhiteRivers$Search;" ∈ wsX6_plan := by decide +kernel
theorem in_X6_plan_3 : ∀ w ∈ u_ws RX3 TX3 10, w ∈ wsX6_plan := by decide +kernel
theorem in_X6_plan_6 : ∀ w ∈ u_ws RX6 TX6 5, w ∈ wsX6_plan := by decide +kernel
set_option maxRecDepth 100000 in
set_option maxHeartbeats 400000 in
theorem ct_X6_plan (l : Launch) (X : Cx) (hX : Inj X) (M : Mem) (hC : CRel M M) (D w : Int) (hD0 : inR D) (hw0 : inR w) : CtI l X yX6_plan wsX6_plan 32 [vR X 0, vI D, vI w] M (fun r M' => CPO M (Oplan M D w) r M') := by
  refine CtI_of (cc := cX6_plan) (maxL := 3) hX (by decide +kernel) rfl (Nat.le_of_ble_eq_true rfl) ?_
  intro zp ze zs zm zargs zbelow zmeth zc zQ F hret
  show J zp l ze (rm 32) zs zm zargs zbelow zmeth zc 0 0 zQ zs.heap X 3 M 0 [(0, vR X 0), (1, vI D), (2, vI w)] []
  obtain ⟨hD1, hD2⟩ := hD0
  obtain ⟨hw1, hw2⟩ := hw0
  refine j_iload_n (q := 1) F dX6_plan_0 rfl rfl 1 rfl ?_
  refine j_iconst (q := 2) F dX6_plan_1 rfl ?_
  refine j_bipush (q := 4) F dX6_plan_2 rfl (by decide) ?_
  refine j_callSZ (q := 7) F [vI D, vI 1, vI 24] (ct_X6_isWithin l X hX M D 1 24 ⟨by omega, by omega⟩ ⟨by omega, by omega⟩ ⟨by omega, by omega⟩) gX6_plan_X6_isWithin rfl cd_X6_isWithin ⟨by first | exact Nat.le_of_ble_eq_true rfl | (simp only [rm]; omega) | (simp [rm, vI, vR, Value.category]; omega), by first | exact Nat.le_of_ble_eq_true rfl | (simp only [rm]; omega) | (simp [rm, vI, vR, Value.category]; omega), by first | exact Nat.le_of_ble_eq_true rfl | (simp only [rm]; omega) | (simp [rm, vI, vR, Value.category]; omega), by first | exact Nat.le_of_ble_eq_true rfl | (simp only [rm]; omega) | (simp [rm, vI, vR, Value.category]; omega)⟩ rfl rfl (Nat.le_of_ble_eq_true rfl) dX6_plan_4 rfl (fun h1 => ?_) (fun h1 => ?_)
  · skip
    refine j_if_eq (q := 10) (tgt := 19) F dX6_plan_7 (by decide) rfl ⟨by decide, by decide⟩ (fun h => absurd h (by decide)) (fun _ => ?_)
    refine j_iload_n (q := 11) F dX6_plan_10 rfl rfl 2 rfl ?_
    refine j_iconst (q := 12) F dX6_plan_11 rfl ?_
    refine j_iconst (q := 13) F dX6_plan_12 rfl ?_
    refine j_callSZ (q := 16) F [vI w, vI 0, vI 3] (ct_X6_isWithin l X hX M w 0 3 ⟨by omega, by omega⟩ ⟨by omega, by omega⟩ ⟨by omega, by omega⟩) gX6_plan_X6_isWithin rfl cd_X6_isWithin ⟨by first | exact Nat.le_of_ble_eq_true rfl | (simp only [rm]; omega) | (simp [rm, vI, vR, Value.category]; omega), by first | exact Nat.le_of_ble_eq_true rfl | (simp only [rm]; omega) | (simp [rm, vI, vR, Value.category]; omega), by first | exact Nat.le_of_ble_eq_true rfl | (simp only [rm]; omega) | (simp [rm, vI, vR, Value.category]; omega), by first | exact Nat.le_of_ble_eq_true rfl | (simp only [rm]; omega) | (simp [rm, vI, vR, Value.category]; omega)⟩ rfl rfl (Nat.le_of_ble_eq_true rfl) dX6_plan_13 rfl (fun h2 => ?_) (fun h2 => ?_)
    · skip
      refine j_if_ne (q := 19) (tgt := 21) F dX6_plan_16 (by decide) rfl ⟨by decide, by decide⟩ (fun _ => ?_) (fun h => absurd h (by decide))
      refine j_aload_n (q := 22) F dX6_plan_21 rfl rfl 0 rfl ?_
      refine j_getR (q := 25) (z := 54) (index := 33) F wr0 rfl in_X6_plan_6 3 (by decide) rfl fl_X6_plan_33 dX6_plan_22 rfl ?_
      refine j_aload_n (q := 26) F dX6_plan_25 rfl rfl 0 rfl ?_
      refine j_getR (q := 29) (z := 1) (index := 10) F wr0 rfl in_X6_plan_6 0 (by decide) rfl fl_X6_plan_10 dX6_plan_26 rfl ?_
      refine j_iload_n (q := 30) F dX6_plan_29 rfl rfl 1 rfl ?_
      refine j_callVV (q := 33) F [vR X 1, vI D] (ct_X3_solve l X hX M (M 83) hC.1 hC.2.1 D (by omega) hC.2.2.2.2.1 hC.2.2.2.2.2.2) gX6_plan_X3_solve rfl cd_X3_solve ⟨by first | exact Nat.le_of_ble_eq_true rfl | (simp only [rm]; omega) | (simp [rm, vI, vR, Value.category]; omega), by first | exact Nat.le_of_ble_eq_true rfl | (simp only [rm]; omega) | (simp [rm, vI, vR, Value.category]; omega), by first | exact Nat.le_of_ble_eq_true rfl | (simp only [rm]; omega) | (simp [rm, vI, vR, Value.category]; omega), by first | exact Nat.le_of_ble_eq_true rfl | (simp only [rm]; omega) | (simp [rm, vI, vR, Value.category]; omega)⟩ se54 rfl rfl rfl (Nat.le_of_ble_eq_true rfl) dX6_plan_30 rfl (fun Ms hs => ?_)
      have hbs := sol_bd hC.2.1 D
      have hbl := sol_len hC.2.1 D
      have e2 : Ms 54 2 = (SOL (M 83) D).1 := hs.2.2.1.1
      have e0 : Ms 54 0 = (SOL (M 83) D).2.1 := hs.2.2.1.2.1
      have e1 : Ms 54 1 = (SOL (M 83) D).2.2.1 := hs.2.2.1.2.2.1
      refine j_aload_n (q := 34) F dX6_plan_33 rfl rfl 0 rfl ?_
      refine j_getR (q := 37) (z := 54) (index := 33) F wr0 rfl in_X6_plan_6 3 (by decide) rfl fl_X6_plan_33 dX6_plan_34 rfl ?_
      refine j_callVZ (q := 40) F [] (ct_X3_hasFound l X hX Ms ⟨by omega, by omega⟩) gX6_plan_X3_hasFound rfl cd_X3_hasFound ⟨by first | exact Nat.le_of_ble_eq_true rfl | (simp only [rm]; omega) | (simp [rm, vI, vR, Value.category]; omega), by first | exact Nat.le_of_ble_eq_true rfl | (simp only [rm]; omega) | (simp [rm, vI, vR, Value.category]; omega), by first | exact Nat.le_of_ble_eq_true rfl | (simp only [rm]; omega) | (simp [rm, vI, vR, Value.category]; omega), by first | exact Nat.le_of_ble_eq_true rfl | (simp only [rm]; omega) | (simp [rm, vI, vR, Value.category]; omega)⟩ se54 rfl rfl rfl (Nat.le_of_ble_eq_true rfl) dX6_plan_37 rfl (fun hf => ?_) (fun hf => ?_)
      · skip
        refine j_if_ne (q := 43) (tgt := 46) F dX6_plan_40 (by decide) rfl ⟨by decide, by decide⟩ (fun _ => ?_) (fun h => absurd h (by decide))
        refine j_iload_n (q := 47) F dX6_plan_46 rfl rfl 2 rfl ?_
        rcases (show w = 0 ∨ w = 1 ∨ w = 2 ∨ (w < 0 ∨ 2 < w) by omega) with hs_5 | hs_5 | hs_5 | hs_5
        · subst hs_5
          refine j_tableIn (tgt := 72) F dX6_plan_47 ⟨by decide, by decide⟩ ⟨by decide, by decide⟩ rfl (by decide) ?_
          refine j_aload_n (q := 73) F dX6_plan_72 rfl rfl 0 rfl ?_
          refine j_getR (q := 76) (z := 54) (index := 33) F wr0 rfl in_X6_plan_6 3 (by decide) rfl fl_X6_plan_33 dX6_plan_73 rfl ?_
          refine j_callVE (q := 79) F [] (ct_X3_bestChanged l X hX Ms (by omega)) gX6_plan_X3_bestChanged rfl cd_X3_bestChanged ⟨by first | exact Nat.le_of_ble_eq_true rfl | (simp only [rm]; omega) | (simp [rm, vI, vR, Value.category]; omega), by first | exact Nat.le_of_ble_eq_true rfl | (simp only [rm]; omega) | (simp [rm, vI, vR, Value.category]; omega), by first | exact Nat.le_of_ble_eq_true rfl | (simp only [rm]; omega) | (simp [rm, vI, vR, Value.category]; omega), by first | exact Nat.le_of_ble_eq_true rfl | (simp only [rm]; omega) | (simp [rm, vI, vR, Value.category]; omega)⟩ se54 rfl rfl rfl (Nat.le_of_ble_eq_true rfl) dX6_plan_76 rfl ?_
          refine hret _ _ _ _ dX6_plan_79 ?_
          · refine ⟨fun q hq => hs.1 q (by omega), fun r' N hO => ?_⟩
            rcases hO with ⟨qs, ⟨q1, q2⟩ | ⟨q1, q2, q3⟩ | ⟨q1, q2, q3, q4, q5, q6⟩⟩
            · exact absurd ⟨h1, h2⟩ q1
            · exact ⟨by omega, hs.crel hC rfl h1 qs⟩
            · refine ⟨?_, hs.crel hC rfl h1 qs⟩
              first | omega | (rw [q3 (by omega)]; omega) | (rw [q4 (by omega)]; omega) | (rw [q5 (by omega)]; omega) | (rw [q6 (by omega)]; omega)
        · subst hs_5
          refine j_tableIn (tgt := 80) F dX6_plan_47 ⟨by decide, by decide⟩ ⟨by decide, by decide⟩ rfl (by decide) ?_
          refine j_aload_n (q := 81) F dX6_plan_80 rfl rfl 0 rfl ?_
          refine j_getR (q := 84) (z := 54) (index := 33) F wr0 rfl in_X6_plan_6 3 (by decide) rfl fl_X6_plan_33 dX6_plan_81 rfl ?_
          refine j_getI (q := 87) (i := 0) (index := 181) F se54 rfl in_X6_plan_3 0 (by decide) rfl rfl fl_X6_plan_181 dX6_plan_84 rfl ?_
          refine hret _ _ _ _ dX6_plan_87 ?_
          · refine ⟨fun q hq => hs.1 q (by omega), fun r' N hO => ?_⟩
            rcases hO with ⟨qs, ⟨q1, q2⟩ | ⟨q1, q2, q3⟩ | ⟨q1, q2, q3, q4, q5, q6⟩⟩
            · exact absurd ⟨h1, h2⟩ q1
            · exact ⟨by omega, hs.crel hC rfl h1 qs⟩
            · refine ⟨?_, hs.crel hC rfl h1 qs⟩
              first | omega | (rw [q3 (by omega)]; omega) | (rw [q4 (by omega)]; omega) | (rw [q5 (by omega)]; omega) | (rw [q6 (by omega)]; omega)
        · subst hs_5
          refine j_tableIn (tgt := 88) F dX6_plan_47 ⟨by decide, by decide⟩ ⟨by decide, by decide⟩ rfl (by decide) ?_
          refine j_aload_n (q := 89) F dX6_plan_88 rfl rfl 0 rfl ?_
          refine j_getR (q := 92) (z := 54) (index := 33) F wr0 rfl in_X6_plan_6 3 (by decide) rfl fl_X6_plan_33 dX6_plan_89 rfl ?_
          refine j_callVE (q := 95) F [] (ct_X3_bestBadness l X hX Ms (by omega)) gX6_plan_X3_bestBadness rfl cd_X3_bestBadness ⟨by first | exact Nat.le_of_ble_eq_true rfl | (simp only [rm]; omega) | (simp [rm, vI, vR, Value.category]; omega), by first | exact Nat.le_of_ble_eq_true rfl | (simp only [rm]; omega) | (simp [rm, vI, vR, Value.category]; omega), by first | exact Nat.le_of_ble_eq_true rfl | (simp only [rm]; omega) | (simp [rm, vI, vR, Value.category]; omega), by first | exact Nat.le_of_ble_eq_true rfl | (simp only [rm]; omega) | (simp [rm, vI, vR, Value.category]; omega)⟩ se54 rfl rfl rfl (Nat.le_of_ble_eq_true rfl) dX6_plan_92 rfl ?_
          refine hret _ _ _ _ dX6_plan_95 ?_
          · refine ⟨fun q hq => hs.1 q (by omega), fun r' N hO => ?_⟩
            rcases hO with ⟨qs, ⟨q1, q2⟩ | ⟨q1, q2, q3⟩ | ⟨q1, q2, q3, q4, q5, q6⟩⟩
            · exact absurd ⟨h1, h2⟩ q1
            · exact ⟨by omega, hs.crel hC rfl h1 qs⟩
            · refine ⟨?_, hs.crel hC rfl h1 qs⟩
              first | omega | (rw [q3 (by omega)]; omega) | (rw [q4 (by omega)]; omega) | (rw [q5 (by omega)]; omega) | (rw [q6 (by omega)]; omega)
        · skip
          refine j_tableOut (tgt := 96) F dX6_plan_47 ⟨by omega, by omega⟩ hs_5 (by decide) ?_
          refine j_aload_n (q := 97) F dX6_plan_96 rfl rfl 0 rfl ?_
          refine j_getR (q := 100) (z := 54) (index := 33) F wr0 rfl in_X6_plan_6 3 (by decide) rfl fl_X6_plan_33 dX6_plan_97 rfl ?_
          refine j_getI (q := 103) (i := 1) (index := 187) F se54 rfl in_X6_plan_3 1 (by decide) rfl rfl fl_X6_plan_187 dX6_plan_100 rfl ?_
          refine hret _ _ _ _ dX6_plan_103 ?_
          · refine ⟨fun q hq => hs.1 q (by omega), fun r' N hO => ?_⟩
            rcases hO with ⟨qs, ⟨q1, q2⟩ | ⟨q1, q2, q3⟩ | ⟨q1, q2, q3, q4, q5, q6⟩⟩
            · exact absurd ⟨h1, h2⟩ q1
            · exact ⟨by omega, hs.crel hC rfl h1 qs⟩
            · refine ⟨?_, hs.crel hC rfl h1 qs⟩
              first | omega | (rw [q3 (by omega)]; omega) | (rw [q4 (by omega)]; omega) | (rw [q5 (by omega)]; omega) | (rw [q6 (by omega)]; omega)
      · skip
        refine j_if_ne (q := 43) (tgt := 46) F dX6_plan_40 (by decide) rfl ⟨by decide, by decide⟩ (fun h => absurd h (by decide)) (fun _ => ?_)
        refine j_bipush (q := 45) F dX6_plan_43 rfl (by decide) ?_
        refine hret _ _ _ _ dX6_plan_45 ?_
        · refine ⟨fun q hq => hs.1 q (by omega), fun r' N hO => ?_⟩
          rcases hO with ⟨qs, ⟨q1, q2⟩ | ⟨q1, q2, q3⟩ | ⟨q1, q2, q3, q4, q5, q6⟩⟩
          · exact absurd ⟨h1, h2⟩ q1
          · exact ⟨by omega, hs.crel hC rfl h1 qs⟩
          · refine ⟨?_, hs.crel hC rfl h1 qs⟩
            first | omega | (rw [q3 (by omega)]; omega) | (rw [q4 (by omega)]; omega) | (rw [q5 (by omega)]; omega) | (rw [q6 (by omega)]; omega)
    · skip
      refine j_if_ne (q := 19) (tgt := 21) F dX6_plan_16 (by decide) rfl ⟨by decide, by decide⟩ (fun h => absurd h (by decide)) (fun _ => ?_)
      refine j_iconst (q := 20) F dX6_plan_19 rfl ?_
      refine hret _ _ _ _ dX6_plan_20 ?_
      · refine ⟨fun _ _ => rfl, fun r' N hO => ?_⟩
        rcases hO with ⟨qs, ⟨q1, q2⟩ | ⟨q1, q2, q3⟩ | ⟨q1, q2, q3⟩⟩
        · exact ⟨by omega, hC.same (fun _ _ => rfl) qs⟩
        · exfalso; have z1 := q1.1.1; have z2 := q1.1.2; have z3 := q1.2; omega
        · exfalso; have z1 := q1.1.1; have z2 := q1.1.2; have z3 := q1.2; omega
  · skip
    refine j_if_eq (q := 10) (tgt := 19) F dX6_plan_7 (by decide) rfl ⟨by decide, by decide⟩ (fun _ => ?_) (fun h => absurd h (by decide))
    refine j_iconst (q := 20) F dX6_plan_19 rfl ?_
    refine hret _ _ _ _ dX6_plan_20 ?_
    · refine ⟨fun _ _ => rfl, fun r' N hO => ?_⟩
      rcases hO with ⟨qs, ⟨q1, q2⟩ | ⟨q1, q2, q3⟩ | ⟨q1, q2, q3⟩⟩
      · exact ⟨by omega, hC.same (fun _ _ => rfl) qs⟩
      · exfalso; have z1 := q1.1.1; have z2 := q1.1.2; have z3 := q1.2; omega
      · exfalso; have z1 := q1.1.1; have z2 := q1.1.2; have z3 := q1.2; omega
theorem cd_X3_bestWords : yX3_bestWords.cls = RX3 ∧ yX3_bestWords.cls ≠ "java/lang/invoke/MethodHandle" ∧ yX3_bestWords.cls ≠ "java/lang/invoke/VarHandle" ∧ (parseMethodDescriptor yX3_bestWords.desc).map (fun d => d.parameters.length) = some 1 := by decide +kernel
theorem fl_X6_planned_10 : Cond.fieldLink RX6 10 "WhiteRivers" "page" "LWhiteRivers$Page;" ∈ wsX6_planned := by decide +kernel
theorem fl_X6_planned_181 : Cond.fieldLink RX6 181 "WhiteRivers$Search" "bestLines" "I" ∈ wsX6_planned := by decide +kernel
theorem fl_X6_planned_33 : Cond.fieldLink RX6 33 "WhiteRivers" "search" "LWhiteRivers$Search;" ∈ wsX6_planned := by decide +kernel
theorem in_X6_planned_3 : ∀ w ∈ u_ws RX3 TX3 10, w ∈ wsX6_planned := by decide +kernel
theorem in_X6_planned_6 : ∀ w ∈ u_ws RX6 TX6 5, w ∈ wsX6_planned := by decide +kernel
set_option maxRecDepth 100000 in
set_option maxHeartbeats 400000 in
theorem ct_X6_planned (l : Launch) (X : Cx) (hX : Inj X) (M : Mem) (hC : CRel M M) (D k : Int) (hD0 : inR D) (hk0 : inR k) : CtI l X yX6_planned wsX6_planned 32 [vR X 0, vI D, vI k] M (fun r M' => CPO M (Oplanned M D k) r M') := by
  refine CtI_of (cc := cX6_planned) (maxL := 3) hX (by decide +kernel) rfl (Nat.le_of_ble_eq_true rfl) ?_
  intro zp ze zs zm zargs zbelow zmeth zc zQ F hret
  show J zp l ze (rm 32) zs zm zargs zbelow zmeth zc 0 0 zQ zs.heap X 3 M 0 [(0, vR X 0), (1, vI D), (2, vI k)] []
  obtain ⟨hD1, hD2⟩ := hD0
  obtain ⟨hk1, hk2⟩ := hk0
  refine j_iload_n (q := 1) F dX6_planned_0 rfl rfl 1 rfl ?_
  refine j_iconst (q := 2) F dX6_planned_1 rfl ?_
  refine j_bipush (q := 4) F dX6_planned_2 rfl (by decide) ?_
  refine j_callSZ (q := 7) F [vI D, vI 1, vI 24] (ct_X6_isWithin l X hX M D 1 24 ⟨by omega, by omega⟩ ⟨by omega, by omega⟩ ⟨by omega, by omega⟩) gX6_planned_X6_isWithin rfl cd_X6_isWithin ⟨by first | exact Nat.le_of_ble_eq_true rfl | (simp only [rm]; omega) | (simp [rm, vI, vR, Value.category]; omega), by first | exact Nat.le_of_ble_eq_true rfl | (simp only [rm]; omega) | (simp [rm, vI, vR, Value.category]; omega), by first | exact Nat.le_of_ble_eq_true rfl | (simp only [rm]; omega) | (simp [rm, vI, vR, Value.category]; omega), by first | exact Nat.le_of_ble_eq_true rfl | (simp only [rm]; omega) | (simp [rm, vI, vR, Value.category]; omega)⟩ rfl rfl (Nat.le_of_ble_eq_true rfl) dX6_planned_4 rfl (fun h1 => ?_) (fun h1 => ?_)
  · skip
    refine j_if_eq (q := 10) (tgt := 14) F dX6_planned_7 (by decide) rfl ⟨by decide, by decide⟩ (fun h => absurd h (by decide)) (fun _ => ?_)
    refine j_iload_n (q := 11) F dX6_planned_10 rfl rfl 2 rfl ?_
    refine j_if_ge (q := 14) (tgt := 16) F dX6_planned_11 (by decide) rfl ⟨by omega, by omega⟩ (fun h11_2 => ?_) (fun h11_2 => ?_)
    · skip
      refine j_aload_n (q := 17) F dX6_planned_16 rfl rfl 0 rfl ?_
      refine j_getR (q := 20) (z := 54) (index := 33) F wr0 rfl in_X6_planned_6 3 (by decide) rfl fl_X6_planned_33 dX6_planned_17 rfl ?_
      refine j_aload_n (q := 21) F dX6_planned_20 rfl rfl 0 rfl ?_
      refine j_getR (q := 24) (z := 1) (index := 10) F wr0 rfl in_X6_planned_6 0 (by decide) rfl fl_X6_planned_10 dX6_planned_21 rfl ?_
      refine j_iload_n (q := 25) F dX6_planned_24 rfl rfl 1 rfl ?_
      refine j_callVV (q := 28) F [vR X 1, vI D] (ct_X3_solve l X hX M (M 83) hC.1 hC.2.1 D (by omega) hC.2.2.2.2.1 hC.2.2.2.2.2.2) gX6_planned_X3_solve rfl cd_X3_solve ⟨by first | exact Nat.le_of_ble_eq_true rfl | (simp only [rm]; omega) | (simp [rm, vI, vR, Value.category]; omega), by first | exact Nat.le_of_ble_eq_true rfl | (simp only [rm]; omega) | (simp [rm, vI, vR, Value.category]; omega), by first | exact Nat.le_of_ble_eq_true rfl | (simp only [rm]; omega) | (simp [rm, vI, vR, Value.category]; omega), by first | exact Nat.le_of_ble_eq_true rfl | (simp only [rm]; omega) | (simp [rm, vI, vR, Value.category]; omega)⟩ se54 rfl rfl rfl (Nat.le_of_ble_eq_true rfl) dX6_planned_25 rfl (fun Ms hs => ?_)
      have hbs := sol_bd hC.2.1 D
      have hbl := sol_len hC.2.1 D
      have e2 : Ms 54 2 = (SOL (M 83) D).1 := hs.2.2.1.1
      have e0 : Ms 54 0 = (SOL (M 83) D).2.1 := hs.2.2.1.2.1
      have e1 : Ms 54 1 = (SOL (M 83) D).2.2.1 := hs.2.2.1.2.2.1
      refine j_aload_n (q := 29) F dX6_planned_28 rfl rfl 0 rfl ?_
      refine j_getR (q := 32) (z := 54) (index := 33) F wr0 rfl in_X6_planned_6 3 (by decide) rfl fl_X6_planned_33 dX6_planned_29 rfl ?_
      refine j_callVZ (q := 35) F [] (ct_X3_hasFound l X hX Ms ⟨by omega, by omega⟩) gX6_planned_X3_hasFound rfl cd_X3_hasFound ⟨by first | exact Nat.le_of_ble_eq_true rfl | (simp only [rm]; omega) | (simp [rm, vI, vR, Value.category]; omega), by first | exact Nat.le_of_ble_eq_true rfl | (simp only [rm]; omega) | (simp [rm, vI, vR, Value.category]; omega), by first | exact Nat.le_of_ble_eq_true rfl | (simp only [rm]; omega) | (simp [rm, vI, vR, Value.category]; omega), by first | exact Nat.le_of_ble_eq_true rfl | (simp only [rm]; omega) | (simp [rm, vI, vR, Value.category]; omega)⟩ se54 rfl rfl rfl (Nat.le_of_ble_eq_true rfl) dX6_planned_32 rfl (fun hf => ?_) (fun hf => ?_)
      · skip
        refine j_if_eq (q := 38) (tgt := 49) F dX6_planned_35 (by decide) rfl ⟨by decide, by decide⟩ (fun h => absurd h (by decide)) (fun _ => ?_)
        refine j_iload_n (q := 39) F dX6_planned_38 rfl rfl 2 rfl ?_
        refine j_aload_n (q := 40) F dX6_planned_39 rfl rfl 0 rfl ?_
        refine j_getR (q := 43) (z := 54) (index := 33) F wr0 rfl in_X6_planned_6 3 (by decide) rfl fl_X6_planned_33 dX6_planned_40 rfl ?_
        refine j_getI (q := 46) (i := 0) (index := 181) F se54 rfl in_X6_planned_3 0 (by decide) rfl rfl fl_X6_planned_181 dX6_planned_43 rfl ?_
        refine j_icmp_lt (q := 49) (tgt := 52) F dX6_planned_46 (by decide) rfl ⟨by omega, by omega⟩ ⟨by omega, by omega⟩ (fun h46_5 => ?_) (fun h46_5 => ?_)
        · skip
          refine j_aload_n (q := 53) F dX6_planned_52 rfl rfl 0 rfl ?_
          refine j_getR (q := 56) (z := 54) (index := 33) F wr0 rfl in_X6_planned_6 3 (by decide) rfl fl_X6_planned_33 dX6_planned_53 rfl ?_
          refine j_iload_n (q := 57) F dX6_planned_56 rfl rfl 2 rfl ?_
          refine j_callVE (q := 60) F [vI k] (ct_X3_bestWords l X hX Ms k (by omega) (by omega)) gX6_planned_X3_bestWords rfl cd_X3_bestWords ⟨by first | exact Nat.le_of_ble_eq_true rfl | (simp only [rm]; omega) | (simp [rm, vI, vR, Value.category]; omega), by first | exact Nat.le_of_ble_eq_true rfl | (simp only [rm]; omega) | (simp [rm, vI, vR, Value.category]; omega), by first | exact Nat.le_of_ble_eq_true rfl | (simp only [rm]; omega) | (simp [rm, vI, vR, Value.category]; omega), by first | exact Nat.le_of_ble_eq_true rfl | (simp only [rm]; omega) | (simp [rm, vI, vR, Value.category]; omega)⟩ se54 rfl rfl rfl (Nat.le_of_ble_eq_true rfl) dX6_planned_57 rfl ?_
          refine hret _ _ _ _ dX6_planned_60 ?_
          · refine ⟨fun q hq => hs.1 q (by omega), fun r' N hO => ?_⟩
            rcases hO with ⟨qs, ⟨q1, q2⟩ | ⟨q1, q2, q3⟩ | ⟨q1, q2, q3, q4⟩⟩
            · exact absurd ⟨h1, by omega⟩ q1
            · refine ⟨?_, hs.crel hC rfl h1 qs⟩
              omega
            · refine ⟨?_, hs.crel hC rfl h1 qs⟩
              first | (exfalso; omega) | (rw [q4]; exact hs.2.2.1.2.2.2 k (by omega) q3)
        · skip
          refine j_bipush (q := 51) F dX6_planned_49 rfl (by decide) ?_
          refine hret _ _ _ _ dX6_planned_51 ?_
          · refine ⟨fun q hq => hs.1 q (by omega), fun r' N hO => ?_⟩
            rcases hO with ⟨qs, ⟨q1, q2⟩ | ⟨q1, q2, q3⟩ | ⟨q1, q2, q3, q4⟩⟩
            · exact absurd ⟨h1, by omega⟩ q1
            · refine ⟨?_, hs.crel hC rfl h1 qs⟩
              omega
            · refine ⟨?_, hs.crel hC rfl h1 qs⟩
              first | (exfalso; omega) | (rw [q4]; exact hs.2.2.1.2.2.2 k (by omega) q3)
      · skip
        refine j_if_eq (q := 38) (tgt := 49) F dX6_planned_35 (by decide) rfl ⟨by decide, by decide⟩ (fun _ => ?_) (fun h => absurd h (by decide))
        refine j_bipush (q := 51) F dX6_planned_49 rfl (by decide) ?_
        refine hret _ _ _ _ dX6_planned_51 ?_
        · refine ⟨fun q hq => hs.1 q (by omega), fun r' N hO => ?_⟩
          rcases hO with ⟨qs, ⟨q1, q2⟩ | ⟨q1, q2, q3⟩ | ⟨q1, q2, q3, q4⟩⟩
          · exact absurd ⟨h1, by omega⟩ q1
          · refine ⟨?_, hs.crel hC rfl h1 qs⟩
            omega
          · refine ⟨?_, hs.crel hC rfl h1 qs⟩
            first | (exfalso; omega) | (rw [q4]; exact hs.2.2.1.2.2.2 k (by omega) q3)
    · skip
      refine j_iconst (q := 15) F dX6_planned_14 rfl ?_
      refine hret _ _ _ _ dX6_planned_15 ?_
      · refine ⟨fun _ _ => rfl, fun r' N hO => ?_⟩
        rcases hO with ⟨qs, ⟨q1, q2⟩ | ⟨q1, q2, q3⟩ | ⟨q1, q2, q3⟩⟩
        · exact ⟨by omega, hC.same (fun _ _ => rfl) qs⟩
        · exfalso; have z1 := q1.1.1; have z2 := q1.1.2; have z3 := q1.2; omega
        · exfalso; have z1 := q1.1.1; have z2 := q1.1.2; have z3 := q1.2; omega
  · skip
    refine j_if_eq (q := 10) (tgt := 14) F dX6_planned_7 (by decide) rfl ⟨by decide, by decide⟩ (fun _ => ?_) (fun h => absurd h (by decide))
    refine j_iconst (q := 15) F dX6_planned_14 rfl ?_
    refine hret _ _ _ _ dX6_planned_15 ?_
    · refine ⟨fun _ _ => rfl, fun r' N hO => ?_⟩
      rcases hO with ⟨qs, ⟨q1, q2⟩ | ⟨q1, q2, q3⟩ | ⟨q1, q2, q3⟩⟩
      · exact ⟨by omega, hC.same (fun _ _ => rfl) qs⟩
      · exfalso; have z1 := q1.1.1; have z2 := q1.1.2; have z3 := q1.2; omega
      · exfalso; have z1 := q1.1.1; have z2 := q1.1.2; have z3 := q1.2; omega
