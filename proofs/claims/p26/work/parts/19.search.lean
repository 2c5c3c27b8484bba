theorem se54 : shs[54]? = some (6, 0, [none, none, none, none, some 55, some 62, some 71, some 73, some 75, some 77]) := rfl
theorem pg55 : isPage 55 := ⟨rfl, ⟨rfl, rfl⟩, ⟨rfl, rfl⟩, ⟨rfl, rfl⟩⟩
theorem sh62 : isSheet 62 := ⟨rfl, ⟨rfl, rfl⟩, ⟨rfl, rfl⟩, ⟨rfl, rfl⟩, ⟨rfl, rfl⟩⟩
theorem sh45 : isSheet 45 := ⟨rfl, ⟨rfl, rfl⟩, ⟨rfl, rfl⟩, ⟨rfl, rfl⟩, ⟨rfl, rfl⟩⟩
theorem rw71 : isRow 71 576 := ⟨rfl, rfl⟩
theorem rw73 : isRow 73 25 := ⟨rfl, rfl⟩
theorem rw75 : isRow 75 24 := ⟨rfl, rfl⟩
theorem rw77 : isRow 77 24 := ⟨rfl, rfl⟩
theorem fl_X3_forget_22 : Cond.fieldLink RX3 22 "WhiteRivers$Search" "limit" "I" ∈ wsX3_forget := by decide +kernel
theorem in_X3_forget_3 : ∀ w ∈ u_ws RX3 TX3 10, w ∈ wsX3_forget := by decide +kernel
set_option maxRecDepth 100000 in
set_option maxHeartbeats 400000 in
theorem ct_X3_forget (l : Launch) (X : Cx) (hX : Inj X) (M : Mem) : CtV l X yX3_forget wsX3_forget 0 [vR X 54] M (fun M' => M' = mset M 54 3 0) := by
  refine CtV_of (cc := cX3_forget) (maxL := 1) hX (by decide +kernel) rfl (Nat.le_of_ble_eq_true rfl) ?_
  intro zp ze zs zm zargs zbelow zmeth zc zQ F hret
  show J zp l ze (rm 0) zs zm zargs zbelow zmeth zc 0 0 zQ zs.heap X 1 M 0 [(0, vR X 54)] []
  refine j_aload_n (q := 1) F dX3_forget_0 rfl rfl 0 rfl ?_
  refine j_iconst (q := 2) F dX3_forget_1 rfl ?_
  refine j_putI (q := 5) (i := 3) (index := 22) F se54 rfl in_X3_forget_3 3 (by decide) tyX3_ok nmX3 rfl rfl rfl rfl fl_X3_forget_22 dX3_forget_2 rfl ?_
  exact hret _ _ _ dX3_forget_5 (by rfl)
theorem cn_X3_hasFound_18 : Cond.constant RX3 18 (1000000000) ∈ wsX3_hasFound := by decide +kernel
theorem fl_X3_hasFound_19 : Cond.fieldLink RX3 19 "WhiteRivers$Search" "bestPrice" "I" ∈ wsX3_hasFound := by decide +kernel
theorem in_X3_hasFound_3 : ∀ w ∈ u_ws RX3 TX3 10, w ∈ wsX3_hasFound := by decide +kernel
set_option maxRecDepth 100000 in
set_option maxHeartbeats 400000 in
theorem ct_X3_hasFound (l : Launch) (X : Cx) (hX : Inj X) (M : Mem) (hb : inR (M 54 2)) : CtI l X yX3_hasFound wsX3_hasFound 0 [vR X 54] M (fun x M' => M' = M ∧ (x = 1 ∧ M 54 2 < 1000000000 ∨ x = 0 ∧ 1000000000 ≤ M 54 2)) := by
  refine CtI_ofZ (cc := cX3_hasFound) (maxL := 1) hX (by decide +kernel) rfl (Nat.le_of_ble_eq_true rfl) ?_
  intro zp ze zs zm zargs zbelow zmeth zc zQ F hret
  show J zp l ze (rm 0) zs zm zargs zbelow zmeth zc 0 0 zQ zs.heap X 1 M 0 [(0, vR X 54)] []
  obtain ⟨hb1, hb2⟩ := hb
  refine j_aload_n (q := 1) F dX3_hasFound_0 rfl rfl 0 rfl ?_
  refine j_getI (q := 4) (i := 2) (index := 19) F se54 rfl in_X3_hasFound_3 2 (by decide) rfl rfl fl_X3_hasFound_19 dX3_hasFound_1 rfl ?_
  refine j_ldc (q := 6) (n := 1000000000) F dX3_hasFound_4 rfl cn_X3_hasFound_18 (by decide) ?_
  refine j_icmp_ge (q := 9) (tgt := 13) F dX3_hasFound_6 (by decide) rfl ⟨by omega, by omega⟩ ⟨by decide, by decide⟩ (fun h6_1 => ?_) (fun h6_1 => ?_)
  · skip
    refine j_iconst (q := 14) F dX3_hasFound_13 rfl ?_
    exact hret _ _ _ _ dX3_hasFound_14 (Or.inl rfl) (by refine ⟨rfl, ?_⟩; omega)
  · skip
    refine j_iconst (q := 10) F dX3_hasFound_9 rfl ?_
    refine j_goto (q := 14) F dX3_hasFound_10 (by decide) ?_
    exact hret _ _ _ _ dX3_hasFound_14 (Or.inr rfl) (by refine ⟨rfl, ?_⟩; omega)
theorem cn_X3_bestChanged_68 : Cond.constant RX3 68 (100000) ∈ wsX3_bestChanged := by decide +kernel
theorem fl_X3_bestChanged_19 : Cond.fieldLink RX3 19 "WhiteRivers$Search" "bestPrice" "I" ∈ wsX3_bestChanged := by decide +kernel
theorem in_X3_bestChanged_3 : ∀ w ∈ u_ws RX3 TX3 10, w ∈ wsX3_bestChanged := by decide +kernel
set_option maxRecDepth 100000 in
set_option maxHeartbeats 400000 in
theorem ct_X3_bestChanged (l : Launch) (X : Cx) (hX : Inj X) (M : Mem) (hb : 0 ≤ M 54 2 ∧ M 54 2 ≤ 1000000000) : CtI l X yX3_bestChanged wsX3_bestChanged 0 [vR X 54] M (fun x M' => M' = M ∧ x = M 54 2 / 100000) := by
  refine CtI_of (cc := cX3_bestChanged) (maxL := 1) hX (by decide +kernel) rfl (Nat.le_of_ble_eq_true rfl) ?_
  intro zp ze zs zm zargs zbelow zmeth zc zQ F hret
  show J zp l ze (rm 0) zs zm zargs zbelow zmeth zc 0 0 zQ zs.heap X 1 M 0 [(0, vR X 54)] []
  refine j_aload_n (q := 1) F dX3_bestChanged_0 rfl rfl 0 rfl ?_
  refine j_getI (q := 4) (i := 2) (index := 19) F se54 rfl in_X3_bestChanged_3 2 (by decide) rfl rfl fl_X3_bestChanged_19 dX3_bestChanged_1 rfl ?_
  refine j_ldc (q := 6) (n := 100000) F dX3_bestChanged_4 rfl cn_X3_bestChanged_68 (by decide) ?_
  refine j_idiv (q := 7) F dX3_bestChanged_6 rfl ⟨by omega, by omega⟩ ⟨by omega, by omega⟩ ?_
  exact hret _ _ _ _ dX3_bestChanged_7 (by exact ⟨rfl, rfl⟩)
theorem cn_X3_bestBadness_68 : Cond.constant RX3 68 (100000) ∈ wsX3_bestBadness := by decide +kernel
theorem fl_X3_bestBadness_19 : Cond.fieldLink RX3 19 "WhiteRivers$Search" "bestPrice" "I" ∈ wsX3_bestBadness := by decide +kernel
theorem in_X3_bestBadness_3 : ∀ w ∈ u_ws RX3 TX3 10, w ∈ wsX3_bestBadness := by decide +kernel
set_option maxRecDepth 100000 in
set_option maxHeartbeats 400000 in
theorem ct_X3_bestBadness (l : Launch) (X : Cx) (hX : Inj X) (M : Mem) (hb : 0 ≤ M 54 2 ∧ M 54 2 ≤ 1000000000) : CtI l X yX3_bestBadness wsX3_bestBadness 0 [vR X 54] M (fun x M' => M' = M ∧ x = M 54 2 % 100000) := by
  refine CtI_of (cc := cX3_bestBadness) (maxL := 1) hX (by decide +kernel) rfl (Nat.le_of_ble_eq_true rfl) ?_
  intro zp ze zs zm zargs zbelow zmeth zc zQ F hret
  show J zp l ze (rm 0) zs zm zargs zbelow zmeth zc 0 0 zQ zs.heap X 1 M 0 [(0, vR X 54)] []
  refine j_aload_n (q := 1) F dX3_bestBadness_0 rfl rfl 0 rfl ?_
  refine j_getI (q := 4) (i := 2) (index := 19) F se54 rfl in_X3_bestBadness_3 2 (by decide) rfl rfl fl_X3_bestBadness_19 dX3_bestBadness_1 rfl ?_
  refine j_ldc (q := 6) (n := 100000) F dX3_bestBadness_4 rfl cn_X3_bestBadness_68 (by decide) ?_
  refine j_irem (q := 7) F dX3_bestBadness_6 rfl ⟨by omega, by omega⟩ ⟨by omega, by omega⟩ ?_
  exact hret _ _ _ _ dX3_bestBadness_7 (by exact ⟨rfl, rfl⟩)
theorem fl_X3_bestWords_54 : Cond.fieldLink RX3 54 "WhiteRivers$Search" "best" "LWhiteRivers$Row;" ∈ wsX3_bestWords := by decide +kernel
theorem in_X3_bestWords_3 : ∀ w ∈ u_ws RX3 TX3 10, w ∈ wsX3_bestWords := by decide +kernel
set_option maxRecDepth 100000 in
set_option maxHeartbeats 400000 in
theorem ct_X3_bestWords (l : Launch) (X : Cx) (hX : Inj X) (M : Mem) (k : Int) (h0 : 0 ≤ k) (h1 : k < 24) : CtI l X yX3_bestWords wsX3_bestWords 1 [vR X 54, vI k] M (fun x M' => M' = M ∧ x = M 78 k) := by
  refine CtI_of (cc := cX3_bestWords) (maxL := 2) hX (by decide +kernel) rfl (Nat.le_of_ble_eq_true rfl) ?_
  intro zp ze zs zm zargs zbelow zmeth zc zQ F hret
  show J zp l ze (rm 1) zs zm zargs zbelow zmeth zc 0 0 zQ zs.heap X 2 M 0 [(0, vR X 54), (1, vI k)] []
  refine j_aload_n (q := 1) F dX3_bestWords_0 rfl rfl 0 rfl ?_
  refine j_getR (q := 4) (z := 77) (index := 54) F se54 rfl in_X3_bestWords_3 9 (by decide) rfl fl_X3_bestWords_54 dX3_bestWords_1 rfl ?_
  refine j_iload_n (q := 5) F dX3_bestWords_4 rfl rfl 1 rfl ?_
  refine j_callVE (q := 8) F [vI k] (ct_X2_get_in l X hX M 77 24 78 (rw77) (by decide) rfl k (by omega) (by omega)) gX3_bestWords_X2_get rfl cd_X2_get ⟨by first | exact Nat.le_of_ble_eq_true rfl | (simp only [rm]; omega) | (simp [rm, vI, vR, Value.category]; omega), by first | exact Nat.le_of_ble_eq_true rfl | (simp only [rm]; omega) | (simp [rm, vI, vR, Value.category]; omega), by first | exact Nat.le_of_ble_eq_true rfl | (simp only [rm]; omega) | (simp [rm, vI, vR, Value.category]; omega), by first | exact Nat.le_of_ble_eq_true rfl | (simp only [rm]; omega) | (simp [rm, vI, vR, Value.category]; omega)⟩ (rw77).1 rfl rfl rfl (Nat.le_of_ble_eq_true rfl) dX3_bestWords_5 rfl ?_
  exact hret _ _ _ _ dX3_bestWords_8 (by exact ⟨rfl, rfl⟩)
set_option maxRecDepth 100000 in
set_option maxHeartbeats 400000 in
theorem ct_X3_cellOf (l : Launch) (X : Cx) (hX : Inj X) (M : Mem) (i j : Int) : CtI l X yX3_cellOf wsX3_cellOf 0 [vI i, vI j] M (fun x M' => M' = M ∧ x = i * 24 + j - i - 1) := by
  refine CtI_of (cc := cX3_cellOf) (maxL := 2) hX (by decide +kernel) rfl (Nat.le_of_ble_eq_true rfl) ?_
  intro zp ze zs zm zargs zbelow zmeth zc zQ F hret
  show J zp l ze (rm 0) zs zm zargs zbelow zmeth zc 0 0 zQ zs.heap X 2 M 0 [(0, vI i), (1, vI j)] []
  refine j_iload_n (q := 1) F dX3_cellOf_0 rfl rfl 0 rfl ?_
  refine j_bipush (q := 3) F dX3_cellOf_1 rfl (by decide) ?_
  refine j_imul (q := 4) (z := i * 24) F dX3_cellOf_3 rfl rfl ?_
  refine j_iload_n (q := 5) F dX3_cellOf_4 rfl rfl 1 rfl ?_
  refine j_iadd (q := 6) (z := (i * 24) + j) F dX3_cellOf_5 rfl rfl ?_
  refine j_iload_n (q := 7) F dX3_cellOf_6 rfl rfl 0 rfl ?_
  refine j_isub (q := 8) (z := ((i * 24) + j) - i) F dX3_cellOf_7 rfl rfl ?_
  refine j_iconst (q := 9) F dX3_cellOf_8 rfl ?_
  refine j_isub (q := 10) (z := (((i * 24) + j) - i) - 1) F dX3_cellOf_9 rfl rfl ?_
  exact hret _ _ _ _ dX3_cellOf_10 (by exact ⟨rfl, rfl⟩)
theorem fl_X3_keepTried_15 : Cond.fieldLink RX3 15 "WhiteRivers$Search" "bestRiver" "I" ∈ wsX3_keepTried := by decide +kernel
theorem fl_X3_keepTried_19 : Cond.fieldLink RX3 19 "WhiteRivers$Search" "bestPrice" "I" ∈ wsX3_keepTried := by decide +kernel
theorem fl_X3_keepTried_51 : Cond.fieldLink RX3 51 "WhiteRivers$Search" "tried" "LWhiteRivers$Row;" ∈ wsX3_keepTried := by decide +kernel
theorem fl_X3_keepTried_54 : Cond.fieldLink RX3 54 "WhiteRivers$Search" "best" "LWhiteRivers$Row;" ∈ wsX3_keepTried := by decide +kernel
theorem fl_X3_keepTried_9 : Cond.fieldLink RX3 9 "WhiteRivers$Search" "bestLines" "I" ∈ wsX3_keepTried := by decide +kernel
theorem in_X3_keepTried_3 : ∀ w ∈ u_ws RX3 TX3 10, w ∈ wsX3_keepTried := by decide +kernel
set_option maxRecDepth 100000 in
set_option maxHeartbeats 400000 in
theorem ct_X3_keepTried (l : Launch) (X : Cx) (hX : Inj X) (M : Mem) (a b c : Int) : CtV l X yX3_keepTried wsX3_keepTried 2 [vR X 54, vI a, vI b, vI c] M (fun M' => M' = mcpy (mset (mset (mset M 54 2 b) 54 0 a) 54 1 c) 78 76 24) := by
  refine CtV_of (cc := cX3_keepTried) (maxL := 4) hX (by decide +kernel) rfl (Nat.le_of_ble_eq_true rfl) ?_
  intro zp ze zs zm zargs zbelow zmeth zc zQ F hret
  show J zp l ze (rm 2) zs zm zargs zbelow zmeth zc 0 0 zQ zs.heap X 4 M 0 [(0, vR X 54), (1, vI a), (2, vI b), (3, vI c)] []
  refine j_aload_n (q := 1) F dX3_keepTried_0 rfl rfl 0 rfl ?_
  refine j_iload_n (q := 2) F dX3_keepTried_1 rfl rfl 2 rfl ?_
  refine j_putI (q := 5) (i := 2) (index := 19) F se54 rfl in_X3_keepTried_3 2 (by decide) tyX3_ok nmX3 rfl rfl rfl rfl fl_X3_keepTried_19 dX3_keepTried_2 rfl ?_
  refine j_aload_n (q := 6) F dX3_keepTried_5 rfl rfl 0 rfl ?_
  refine j_iload_n (q := 7) F dX3_keepTried_6 rfl rfl 1 rfl ?_
  refine j_putI (q := 10) (i := 0) (index := 9) F se54 rfl in_X3_keepTried_3 0 (by decide) tyX3_ok nmX3 rfl rfl rfl rfl fl_X3_keepTried_9 dX3_keepTried_7 rfl ?_
  refine j_aload_n (q := 11) F dX3_keepTried_10 rfl rfl 0 rfl ?_
  refine j_iload_n (q := 12) F dX3_keepTried_11 rfl rfl 3 rfl ?_
  refine j_putI (q := 15) (i := 1) (index := 15) F se54 rfl in_X3_keepTried_3 1 (by decide) tyX3_ok nmX3 rfl rfl rfl rfl fl_X3_keepTried_15 dX3_keepTried_12 rfl ?_
  refine j_aload_n (q := 16) F dX3_keepTried_15 rfl rfl 0 rfl ?_
  refine j_getR (q := 19) (z := 77) (index := 54) F se54 rfl in_X3_keepTried_3 9 (by decide) rfl fl_X3_keepTried_54 dX3_keepTried_16 rfl ?_
  refine j_aload_n (q := 20) F dX3_keepTried_19 rfl rfl 0 rfl ?_
  refine j_getR (q := 23) (z := 75) (index := 51) F se54 rfl in_X3_keepTried_3 8 (by decide) rfl fl_X3_keepTried_51 dX3_keepTried_20 rfl ?_
  refine j_callVM (q := 26) F [vR X 75] (ct_X2_copyFrom l X hX (mset (mset (mset M 54 2 b) 54 0 a) 54 1 c) 77 24 (rw77) (by decide) 75 (rw75) (by omega)) gX3_keepTried_X2_copyFrom rfl cd_X2_copyFrom ⟨by first | exact Nat.le_of_ble_eq_true rfl | (simp only [rm]; omega) | (simp [rm, vI, vR, Value.category]; omega), by first | exact Nat.le_of_ble_eq_true rfl | (simp only [rm]; omega) | (simp [rm, vI, vR, Value.category]; omega), by first | exact Nat.le_of_ble_eq_true rfl | (simp only [rm]; omega) | (simp [rm, vI, vR, Value.category]; omega), by first | exact Nat.le_of_ble_eq_true rfl | (simp only [rm]; omega) | (simp [rm, vI, vR, Value.category]; omega)⟩ (rw77).1 rfl rfl rfl (Nat.le_of_ble_eq_true rfl) dX3_keepTried_23 rfl ?_
  exact hret _ _ _ dX3_keepTried_26 (by rfl)
theorem cd_X1_hasFrozen : yX1_hasFrozen.cls = RX1 ∧ yX1_hasFrozen.cls ≠ "java/lang/invoke/MethodHandle" ∧ yX1_hasFrozen.cls ≠ "java/lang/invoke/VarHandle" ∧ (parseMethodDescriptor yX1_hasFrozen.desc).map (fun d => d.parameters.length) = some 2 := by decide +kernel
theorem cd_X1_isLine : yX1_isLine.cls = RX1 ∧ yX1_isLine.cls ≠ "java/lang/invoke/MethodHandle" ∧ yX1_isLine.cls ≠ "java/lang/invoke/VarHandle" ∧ (parseMethodDescriptor yX1_isLine.desc).map (fun d => d.parameters.length) = some 2 := by decide +kernel
theorem cn_X3_priceOf_18 : Cond.constant RX3 18 (1000000000) ∈ wsX3_priceOf := by decide +kernel
theorem cn_X3_priceOf_68 : Cond.constant RX3 68 (100000) ∈ wsX3_priceOf := by decide +kernel
theorem fl_X3_priceOf_112 : Cond.fieldLink RX3 112 "WhiteRivers$Page" "slack" "I" ∈ wsX3_priceOf := by decide +kernel
theorem fl_X3_priceOf_28 : Cond.fieldLink RX3 28 "WhiteRivers$Search" "page" "LWhiteRivers$Page;" ∈ wsX3_priceOf := by decide +kernel
theorem fl_X3_priceOf_79 : Cond.fieldLink RX3 79 "WhiteRivers$Page" "words" "I" ∈ wsX3_priceOf := by decide +kernel
theorem in_X3_priceOf_1 : ∀ w ∈ u_ws RX1 TX1 6, w ∈ wsX3_priceOf := by decide +kernel
theorem in_X3_priceOf_3 : ∀ w ∈ u_ws RX3 TX3 10, w ∈ wsX3_priceOf := by decide +kernel
set_option maxRecDepth 100000 in
set_option maxHeartbeats 400000 in
theorem ct_X3_priceOf (l : Launch) (X : Cx) (hX : Inj X) (M : Mem) (d : Int → Int) (hR : PRel M 55 d) (hD : DOK d) (i j : Int) (hij : 0 ≤ i ∧ i < j ∧ j ≤ d 0) : CtI l X yX3_priceOf wsX3_priceOf 3 [vR X 54, vI i, vI j] M (fun x M' => M' = M ∧ x = prC d i j) := by
  refine CtI_of (cc := cX3_priceOf) (maxL := 5) hX (by decide +kernel) rfl (Nat.le_of_ble_eq_true rfl) ?_
  intro zp ze zs zm zargs zbelow zmeth zc zQ F hret
  show J zp l ze (rm 3) zs zm zargs zbelow zmeth zc 0 0 zQ zs.heap X 5 M 0 [(0, vR X 54), (1, vI i), (2, vI j)] []
  have hn : M 55 2 = d 0 := hR.2.2.1
  have hs : M 55 1 = d 2 := hR.2.1
  have hnn := hD.1
  have hww := hD.2.1
  have hss := hD.2.2.1
  have hex : exF (M 57) (M 55 0) i j = exD d i j := exD_eq hR (by omega) (by omega)
  have hxb : -300 ≤ exF (M 57) (M 55 0) i j ∧ exF (M 57) (M 55 0) i j ≤ 41 := exF_bd hR.2.2.2.2.1 (by have : M 55 0 = d 1 := hR.1; omega) (by omega) (by omega) (by omega)
  have hzb : ∀ w, 0 ≤ w → w < 24 → 0 ≤ M 61 w ∧ M 61 w ≤ 1 := fun w q0 q1 => hR.fz hD q0 q1
  have hzi := hzb i (by omega) (by omega)
  refine j_aload_n (q := 1) F dX3_priceOf_0 rfl rfl 0 rfl ?_
  refine j_getR (q := 4) (z := 55) (index := 28) F se54 rfl in_X3_priceOf_3 4 (by decide) rfl fl_X3_priceOf_28 dX3_priceOf_1 rfl ?_
  refine j_iload_n (q := 5) F dX3_priceOf_4 rfl rfl 1 rfl ?_
  refine j_iload_n (q := 6) F dX3_priceOf_5 rfl rfl 2 rfl ?_
  refine j_callVZ (q := 9) F [vI i, vI j] (ct_X1_isLine l X hX M 55 (pg55) (by omega) i j (by omega) (by omega) ⟨by omega, by omega⟩ (fun w' q0 q1 => by have := hR.2.2.2.1.bin q0 (show w' < d 0 by omega); exact ⟨by omega, by omega⟩)) gX3_priceOf_X1_isLine rfl cd_X1_isLine ⟨by first | exact Nat.le_of_ble_eq_true rfl | (simp only [rm]; omega) | (simp [rm, vI, vR, Value.category]; omega), by first | exact Nat.le_of_ble_eq_true rfl | (simp only [rm]; omega) | (simp [rm, vI, vR, Value.category]; omega), by first | exact Nat.le_of_ble_eq_true rfl | (simp only [rm]; omega) | (simp [rm, vI, vR, Value.category]; omega), by first | exact Nat.le_of_ble_eq_true rfl | (simp only [rm]; omega) | (simp [rm, vI, vR, Value.category]; omega)⟩ (pg55).1 rfl rfl rfl (Nat.le_of_ble_eq_true rfl) dX3_priceOf_6 rfl (fun hln => ?_) (fun hln => ?_)
  · skip
    rw [hn] at hln
    have hln := (isln_iff hR hD (by omega) (by omega)).mp hln
    refine j_istore_n (q := 10) (lv' := [(0, vR X 54), (1, vI i), (2, vI j), (3, vI 1)]) F dX3_priceOf_9 rfl rfl (by decide) rfl rfl ?_
    refine j_aload_n (q := 11) F dX3_priceOf_10 rfl rfl 0 rfl ?_
    refine j_getR (q := 14) (z := 55) (index := 28) F se54 rfl in_X3_priceOf_3 4 (by decide) rfl fl_X3_priceOf_28 dX3_priceOf_11 rfl ?_
    refine j_iload_n (q := 15) F dX3_priceOf_14 rfl rfl 1 rfl ?_
    refine j_iload_n (q := 16) F dX3_priceOf_15 rfl rfl 2 rfl ?_
    refine j_callVE (q := 19) F [vI i, vI j] (ct_X1_extra l X hX M 55 (pg55) i j (by omega) (by omega) (by omega)) gX3_priceOf_X1_extra rfl cd_X1_extra ⟨by first | exact Nat.le_of_ble_eq_true rfl | (simp only [rm]; omega) | (simp [rm, vI, vR, Value.category]; omega), by first | exact Nat.le_of_ble_eq_true rfl | (simp only [rm]; omega) | (simp [rm, vI, vR, Value.category]; omega), by first | exact Nat.le_of_ble_eq_true rfl | (simp only [rm]; omega) | (simp [rm, vI, vR, Value.category]; omega), by first | exact Nat.le_of_ble_eq_true rfl | (simp only [rm]; omega) | (simp [rm, vI, vR, Value.category]; omega)⟩ (pg55).1 rfl rfl rfl (Nat.le_of_ble_eq_true rfl) dX3_priceOf_16 rfl ?_
    refine j_istore (q := 21) (lv' := [(0, vR X 54), (1, vI i), (2, vI j), (3, vI 1), (4, vI (exF (M 57) (M 55 0) i j))]) F dX3_priceOf_19 rfl (by decide) rfl rfl ?_
    refine j_iload (q := 23) F dX3_priceOf_21 rfl 4 rfl ?_
    refine j_if_lt (q := 26) (tgt := 40) F dX3_priceOf_23 (by decide) rfl ⟨by omega, by omega⟩ (fun h23_3 => ?_) (fun h23_3 => ?_)
    · skip
      refine j_ldc (q := 42) (n := 1000000000) F dX3_priceOf_40 rfl cn_X3_priceOf_18 (by decide) ?_
      exact hret _ _ _ _ dX3_priceOf_42 (by refine ⟨rfl, (prC_no (fun z => ?_)).symm⟩; first | exact absurd z.1 (by omega) | exact z.2.1 hfz)
    · skip
      refine j_aload_n (q := 27) F dX3_priceOf_26 rfl rfl 0 rfl ?_
      refine j_getR (q := 30) (z := 55) (index := 28) F se54 rfl in_X3_priceOf_3 4 (by decide) rfl fl_X3_priceOf_28 dX3_priceOf_27 rfl ?_
      refine j_iload_n (q := 31) F dX3_priceOf_30 rfl rfl 1 rfl ?_
      refine j_iconst (q := 32) F dX3_priceOf_31 rfl ?_
      refine j_iadd (q := 33) (z := i + 1) F dX3_priceOf_32 rfl rfl ?_
      refine j_iload_n (q := 34) F dX3_priceOf_33 rfl rfl 2 rfl ?_
      refine j_callVZ (q := 37) F [vI (i + 1), vI j] (ct_X1_hasFrozen l X hX M 55 (pg55) (i + 1) j (by omega) (by omega) (by omega) (by omega) hzb) gX3_priceOf_X1_hasFrozen rfl cd_X1_hasFrozen ⟨by first | exact Nat.le_of_ble_eq_true rfl | (simp only [rm]; omega) | (simp [rm, vI, vR, Value.category]; omega), by first | exact Nat.le_of_ble_eq_true rfl | (simp only [rm]; omega) | (simp [rm, vI, vR, Value.category]; omega), by first | exact Nat.le_of_ble_eq_true rfl | (simp only [rm]; omega) | (simp [rm, vI, vR, Value.category]; omega), by first | exact Nat.le_of_ble_eq_true rfl | (simp only [rm]; omega) | (simp [rm, vI, vR, Value.category]; omega)⟩ (pg55).1 rfl rfl rfl (Nat.le_of_ble_eq_true rfl) dX3_priceOf_34 rfl (fun hfz => ?_) (fun hfz => ?_)
      · skip
        have hfz := (fzin_iff hR hD (by omega) (by omega)).mp hfz
        refine j_if_eq (q := 40) (tgt := 43) F dX3_priceOf_37 (by decide) rfl ⟨by decide, by decide⟩ (fun h => absurd h (by decide)) (fun _ => ?_)
        refine j_ldc (q := 42) (n := 1000000000) F dX3_priceOf_40 rfl cn_X3_priceOf_18 (by decide) ?_
        exact hret _ _ _ _ dX3_priceOf_42 (by refine ⟨rfl, (prC_no (fun z => ?_)).symm⟩; first | exact absurd z.1 (by omega) | exact z.2.1 hfz)
      · skip
        have hfz : ¬ ∃ l, 0 ≤ l ∧ l < d 3 ∧ d (53 + l) = 1 ∧ i < sd d l ∧ sd d l < j := fun z => by obtain ⟨w, q0, q1, q2⟩ := (fzin_iff (i := i) (j := j) hR hD (by omega) (by omega)).mpr z; have := hfz w q0 q1; have q3 : M 61 w = 1 := q2; omega
        refine j_if_eq (q := 40) (tgt := 43) F dX3_priceOf_37 (by decide) rfl ⟨by decide, by decide⟩ (fun _ => ?_) (fun h => absurd h (by decide))
        refine j_aload_n (q := 44) F dX3_priceOf_43 rfl rfl 0 rfl ?_
        refine j_getR (q := 47) (z := 55) (index := 28) F se54 rfl in_X3_priceOf_3 4 (by decide) rfl fl_X3_priceOf_28 dX3_priceOf_44 rfl ?_
        refine j_iload_n (q := 48) F dX3_priceOf_47 rfl rfl 1 rfl ?_
        refine j_callVZ (q := 51) F [vI i] (ct_X1_isFrozen_in l X hX M 55 (pg55) i (by omega) (by omega) (by omega)) gX3_priceOf_X1_isFrozen rfl cd_X1_isFrozen ⟨by first | exact Nat.le_of_ble_eq_true rfl | (simp only [rm]; omega) | (simp [rm, vI, vR, Value.category]; omega), by first | exact Nat.le_of_ble_eq_true rfl | (simp only [rm]; omega) | (simp [rm, vI, vR, Value.category]; omega), by first | exact Nat.le_of_ble_eq_true rfl | (simp only [rm]; omega) | (simp [rm, vI, vR, Value.category]; omega), by first | exact Nat.le_of_ble_eq_true rfl | (simp only [rm]; omega) | (simp [rm, vI, vR, Value.category]; omega)⟩ (pg55).1 rfl rfl rfl (Nat.le_of_ble_eq_true rfl) dX3_priceOf_48 rfl (fun hfa => ?_) (fun hfa => ?_)
        · skip
          have hfa := (fzat_iff hR hD (by omega) (by omega)).mp hfa
          refine j_if_eq (q := 54) (tgt := 61) F dX3_priceOf_51 (by decide) rfl ⟨by decide, by decide⟩ (fun h => absurd h (by decide)) (fun _ => ?_)
          refine j_iload_n (q := 55) F dX3_priceOf_54 rfl rfl 3 rfl ?_
          refine j_if_ne (q := 58) (tgt := 61) F dX3_priceOf_55 (by decide) rfl ⟨by decide, by decide⟩ (fun _ => ?_) (fun h => absurd h (by decide))
          refine j_aload_n (q := 62) F dX3_priceOf_61 rfl rfl 0 rfl ?_
          refine j_getR (q := 65) (z := 55) (index := 28) F se54 rfl in_X3_priceOf_3 4 (by decide) rfl fl_X3_priceOf_28 dX3_priceOf_62 rfl ?_
          refine j_iload_n (q := 66) F dX3_priceOf_65 rfl rfl 1 rfl ?_
          refine j_callVZ (q := 69) F [vI i] (ct_X1_isFrozen_in l X hX M 55 (pg55) i (by omega) (by omega) (by omega)) gX3_priceOf_X1_isFrozen rfl cd_X1_isFrozen ⟨by first | exact Nat.le_of_ble_eq_true rfl | (simp only [rm]; omega) | (simp [rm, vI, vR, Value.category]; omega), by first | exact Nat.le_of_ble_eq_true rfl | (simp only [rm]; omega) | (simp [rm, vI, vR, Value.category]; omega), by first | exact Nat.le_of_ble_eq_true rfl | (simp only [rm]; omega) | (simp [rm, vI, vR, Value.category]; omega), by first | exact Nat.le_of_ble_eq_true rfl | (simp only [rm]; omega) | (simp [rm, vI, vR, Value.category]; omega)⟩ (pg55).1 rfl rfl rfl (Nat.le_of_ble_eq_true rfl) dX3_priceOf_66 rfl (fun hfc => ?_) (fun hfc => ?_)
          · skip
            refine j_if_ne (q := 72) (tgt := 98) F dX3_priceOf_69 (by decide) rfl ⟨by decide, by decide⟩ (fun _ => ?_) (fun h => absurd h (by decide))
            refine j_aload_n (q := 99) F dX3_priceOf_98 rfl rfl 0 rfl ?_
            refine j_getR (q := 102) (z := 55) (index := 28) F se54 rfl in_X3_priceOf_3 4 (by decide) rfl fl_X3_priceOf_28 dX3_priceOf_99 rfl ?_
            refine j_iload_n (q := 103) F dX3_priceOf_102 rfl rfl 1 rfl ?_
            refine j_iload_n (q := 104) F dX3_priceOf_103 rfl rfl 2 rfl ?_
            refine j_callVE (q := 107) F [vI i, vI j] (ct_X1_badness l X hX M 55 (pg55) i j (by omega) (by omega) (by omega) (by omega)) gX3_priceOf_X1_badness rfl cd_X1_badness ⟨by first | exact Nat.le_of_ble_eq_true rfl | (simp only [rm]; omega) | (simp [rm, vI, vR, Value.category]; omega), by first | exact Nat.le_of_ble_eq_true rfl | (simp only [rm]; omega) | (simp [rm, vI, vR, Value.category]; omega), by first | exact Nat.le_of_ble_eq_true rfl | (simp only [rm]; omega) | (simp [rm, vI, vR, Value.category]; omega), by first | exact Nat.le_of_ble_eq_true rfl | (simp only [rm]; omega) | (simp [rm, vI, vR, Value.category]; omega)⟩ (pg55).1 rfl rfl rfl (Nat.le_of_ble_eq_true rfl) dX3_priceOf_104 rfl ?_
            refine j_iload_n (q := 108) F dX3_priceOf_107 rfl rfl 3 rfl ?_
            refine j_if_eq (q := 111) (tgt := 115) F dX3_priceOf_108 (by decide) rfl ⟨by decide, by decide⟩ (fun h => absurd h (by decide)) (fun _ => ?_)
            refine j_iconst (q := 112) F dX3_priceOf_111 rfl ?_
            refine j_goto (q := 117) F dX3_priceOf_112 (by decide) ?_
            refine j_iadd (q := 118) (z := (if M 55 2 ≤ j then 0 else exF (M 57) (M 55 0) i j * exF (M 57) (M 55 0) i j) + 0) F dX3_priceOf_117 rfl rfl ?_
            refine hret _ _ _ _ dX3_priceOf_118 ?_
            · have hok : okC d i j := ⟨by omega, hfz, fun _ => hln, by first | exact Or.inl (by assumption) | exact Or.inr (Or.inl (by omega)) | exact Or.inr (Or.inr (by omega))⟩
              refine ⟨rfl, ?_⟩
              rw [prC_yes hok]; unfold prD; rw [bd_eq hn hex (by omega), if_pos (lnB_iff.mpr hln)]
          · skip
            refine j_if_ne (q := 72) (tgt := 98) F dX3_priceOf_69 (by decide) rfl ⟨by decide, by decide⟩ (fun h => absurd h (by decide)) (fun _ => ?_)
            refine j_iload_n (q := 73) F dX3_priceOf_72 rfl rfl 2 rfl ?_
            refine j_aload_n (q := 74) F dX3_priceOf_73 rfl rfl 0 rfl ?_
            refine j_getR (q := 77) (z := 55) (index := 28) F se54 rfl in_X3_priceOf_3 4 (by decide) rfl fl_X3_priceOf_28 dX3_priceOf_74 rfl ?_
            refine j_getI (q := 80) (i := 2) (index := 79) F (pg55).1 rfl in_X3_priceOf_1 2 (by decide) rfl rfl fl_X3_priceOf_79 dX3_priceOf_77 rfl ?_
            refine j_icmp_ge (q := 83) (tgt := 98) F dX3_priceOf_80 (by decide) rfl ⟨by omega, by omega⟩ ⟨by omega, by omega⟩ (fun h80_8 => ?_) (fun h80_8 => ?_)
            · skip
              refine j_aload_n (q := 99) F dX3_priceOf_98 rfl rfl 0 rfl ?_
              refine j_getR (q := 102) (z := 55) (index := 28) F se54 rfl in_X3_priceOf_3 4 (by decide) rfl fl_X3_priceOf_28 dX3_priceOf_99 rfl ?_
              refine j_iload_n (q := 103) F dX3_priceOf_102 rfl rfl 1 rfl ?_
              refine j_iload_n (q := 104) F dX3_priceOf_103 rfl rfl 2 rfl ?_
              refine j_callVE (q := 107) F [vI i, vI j] (ct_X1_badness l X hX M 55 (pg55) i j (by omega) (by omega) (by omega) (by omega)) gX3_priceOf_X1_badness rfl cd_X1_badness ⟨by first | exact Nat.le_of_ble_eq_true rfl | (simp only [rm]; omega) | (simp [rm, vI, vR, Value.category]; omega), by first | exact Nat.le_of_ble_eq_true rfl | (simp only [rm]; omega) | (simp [rm, vI, vR, Value.category]; omega), by first | exact Nat.le_of_ble_eq_true rfl | (simp only [rm]; omega) | (simp [rm, vI, vR, Value.category]; omega), by first | exact Nat.le_of_ble_eq_true rfl | (simp only [rm]; omega) | (simp [rm, vI, vR, Value.category]; omega)⟩ (pg55).1 rfl rfl rfl (Nat.le_of_ble_eq_true rfl) dX3_priceOf_104 rfl ?_
              refine j_iload_n (q := 108) F dX3_priceOf_107 rfl rfl 3 rfl ?_
              refine j_if_eq (q := 111) (tgt := 115) F dX3_priceOf_108 (by decide) rfl ⟨by decide, by decide⟩ (fun h => absurd h (by decide)) (fun _ => ?_)
              refine j_iconst (q := 112) F dX3_priceOf_111 rfl ?_
              refine j_goto (q := 117) F dX3_priceOf_112 (by decide) ?_
              refine j_iadd (q := 118) (z := (if M 55 2 ≤ j then 0 else exF (M 57) (M 55 0) i j * exF (M 57) (M 55 0) i j) + 0) F dX3_priceOf_117 rfl rfl ?_
              refine hret _ _ _ _ dX3_priceOf_118 ?_
              · have hok : okC d i j := ⟨by omega, hfz, fun _ => hln, by first | exact Or.inl (by assumption) | exact Or.inr (Or.inl (by omega)) | exact Or.inr (Or.inr (by omega))⟩
                refine ⟨rfl, ?_⟩
                rw [prC_yes hok]; unfold prD; rw [bd_eq hn hex (by omega), if_pos (lnB_iff.mpr hln)]
            · skip
              refine j_iload (q := 85) F dX3_priceOf_83 rfl 4 rfl ?_
              refine j_aload_n (q := 86) F dX3_priceOf_85 rfl rfl 0 rfl ?_
              refine j_getR (q := 89) (z := 55) (index := 28) F se54 rfl in_X3_priceOf_3 4 (by decide) rfl fl_X3_priceOf_28 dX3_priceOf_86 rfl ?_
              refine j_getI (q := 92) (i := 1) (index := 112) F (pg55).1 rfl in_X3_priceOf_1 1 (by decide) rfl rfl fl_X3_priceOf_112 dX3_priceOf_89 rfl ?_
              refine j_icmp_le (q := 95) (tgt := 98) F dX3_priceOf_92 (by decide) rfl ⟨by omega, by omega⟩ ⟨by omega, by omega⟩ (fun h92_10 => ?_) (fun h92_10 => ?_)
              · skip
                refine j_aload_n (q := 99) F dX3_priceOf_98 rfl rfl 0 rfl ?_
                refine j_getR (q := 102) (z := 55) (index := 28) F se54 rfl in_X3_priceOf_3 4 (by decide) rfl fl_X3_priceOf_28 dX3_priceOf_99 rfl ?_
                refine j_iload_n (q := 103) F dX3_priceOf_102 rfl rfl 1 rfl ?_
                refine j_iload_n (q := 104) F dX3_priceOf_103 rfl rfl 2 rfl ?_
                refine j_callVE (q := 107) F [vI i, vI j] (ct_X1_badness l X hX M 55 (pg55) i j (by omega) (by omega) (by omega) (by omega)) gX3_priceOf_X1_badness rfl cd_X1_badness ⟨by first | exact Nat.le_of_ble_eq_true rfl | (simp only [rm]; omega) | (simp [rm, vI, vR, Value.category]; omega), by first | exact Nat.le_of_ble_eq_true rfl | (simp only [rm]; omega) | (simp [rm, vI, vR, Value.category]; omega), by first | exact Nat.le_of_ble_eq_true rfl | (simp only [rm]; omega) | (simp [rm, vI, vR, Value.category]; omega), by first | exact Nat.le_of_ble_eq_true rfl | (simp only [rm]; omega) | (simp [rm, vI, vR, Value.category]; omega)⟩ (pg55).1 rfl rfl rfl (Nat.le_of_ble_eq_true rfl) dX3_priceOf_104 rfl ?_
                refine j_iload_n (q := 108) F dX3_priceOf_107 rfl rfl 3 rfl ?_
                refine j_if_eq (q := 111) (tgt := 115) F dX3_priceOf_108 (by decide) rfl ⟨by decide, by decide⟩ (fun h => absurd h (by decide)) (fun _ => ?_)
                refine j_iconst (q := 112) F dX3_priceOf_111 rfl ?_
                refine j_goto (q := 117) F dX3_priceOf_112 (by decide) ?_
                refine j_iadd (q := 118) (z := (if M 55 2 ≤ j then 0 else exF (M 57) (M 55 0) i j * exF (M 57) (M 55 0) i j) + 0) F dX3_priceOf_117 rfl rfl ?_
                refine hret _ _ _ _ dX3_priceOf_118 ?_
                · have hok : okC d i j := ⟨by omega, hfz, fun _ => hln, by first | exact Or.inl (by assumption) | exact Or.inr (Or.inl (by omega)) | exact Or.inr (Or.inr (by omega))⟩
                  refine ⟨rfl, ?_⟩
                  rw [prC_yes hok]; unfold prD; rw [bd_eq hn hex (by omega), if_pos (lnB_iff.mpr hln)]
              · skip
                refine j_ldc (q := 97) (n := 1000000000) F dX3_priceOf_95 rfl cn_X3_priceOf_18 (by decide) ?_
                refine hret _ _ _ _ dX3_priceOf_97 ?_
                · refine ⟨rfl, (prC_no (fun z => ?_)).symm⟩
                  rcases z.2.2.2 with q | q | q
                  · first | exact hfa q | (have q9 : M 61 i = 1 := (fzat_iff hR hD (by omega) (by omega)).mpr q; omega)
                  · omega
                  · omega
        · skip
          have hfb : M 61 i = 0 := hfa
          have hfa : ¬ ∃ l, 0 ≤ l ∧ l < d 3 ∧ d (53 + l) = 1 ∧ sd d l = i := fun z => by have q3 : M 61 i = 1 := (fzat_iff hR hD (by omega) (by omega)).mpr z; omega
          refine j_if_eq (q := 54) (tgt := 61) F dX3_priceOf_51 (by decide) rfl ⟨by decide, by decide⟩ (fun _ => ?_) (fun h => absurd h (by decide))
          refine j_aload_n (q := 62) F dX3_priceOf_61 rfl rfl 0 rfl ?_
          refine j_getR (q := 65) (z := 55) (index := 28) F se54 rfl in_X3_priceOf_3 4 (by decide) rfl fl_X3_priceOf_28 dX3_priceOf_62 rfl ?_
          refine j_iload_n (q := 66) F dX3_priceOf_65 rfl rfl 1 rfl ?_
          refine j_callVZ (q := 69) F [vI i] (ct_X1_isFrozen_in l X hX M 55 (pg55) i (by omega) (by omega) (by omega)) gX3_priceOf_X1_isFrozen rfl cd_X1_isFrozen ⟨by first | exact Nat.le_of_ble_eq_true rfl | (simp only [rm]; omega) | (simp [rm, vI, vR, Value.category]; omega), by first | exact Nat.le_of_ble_eq_true rfl | (simp only [rm]; omega) | (simp [rm, vI, vR, Value.category]; omega), by first | exact Nat.le_of_ble_eq_true rfl | (simp only [rm]; omega) | (simp [rm, vI, vR, Value.category]; omega), by first | exact Nat.le_of_ble_eq_true rfl | (simp only [rm]; omega) | (simp [rm, vI, vR, Value.category]; omega)⟩ (pg55).1 rfl rfl rfl (Nat.le_of_ble_eq_true rfl) dX3_priceOf_66 rfl (fun hfc => ?_) (fun hfc => ?_)
          · skip
            refine j_if_ne (q := 72) (tgt := 98) F dX3_priceOf_69 (by decide) rfl ⟨by decide, by decide⟩ (fun _ => ?_) (fun h => absurd h (by decide))
            refine j_aload_n (q := 99) F dX3_priceOf_98 rfl rfl 0 rfl ?_
            refine j_getR (q := 102) (z := 55) (index := 28) F se54 rfl in_X3_priceOf_3 4 (by decide) rfl fl_X3_priceOf_28 dX3_priceOf_99 rfl ?_
            refine j_iload_n (q := 103) F dX3_priceOf_102 rfl rfl 1 rfl ?_
            refine j_iload_n (q := 104) F dX3_priceOf_103 rfl rfl 2 rfl ?_
            refine j_callVE (q := 107) F [vI i, vI j] (ct_X1_badness l X hX M 55 (pg55) i j (by omega) (by omega) (by omega) (by omega)) gX3_priceOf_X1_badness rfl cd_X1_badness ⟨by first | exact Nat.le_of_ble_eq_true rfl | (simp only [rm]; omega) | (simp [rm, vI, vR, Value.category]; omega), by first | exact Nat.le_of_ble_eq_true rfl | (simp only [rm]; omega) | (simp [rm, vI, vR, Value.category]; omega), by first | exact Nat.le_of_ble_eq_true rfl | (simp only [rm]; omega) | (simp [rm, vI, vR, Value.category]; omega), by first | exact Nat.le_of_ble_eq_true rfl | (simp only [rm]; omega) | (simp [rm, vI, vR, Value.category]; omega)⟩ (pg55).1 rfl rfl rfl (Nat.le_of_ble_eq_true rfl) dX3_priceOf_104 rfl ?_
            refine j_iload_n (q := 108) F dX3_priceOf_107 rfl rfl 3 rfl ?_
            refine j_if_eq (q := 111) (tgt := 115) F dX3_priceOf_108 (by decide) rfl ⟨by decide, by decide⟩ (fun h => absurd h (by decide)) (fun _ => ?_)
            refine j_iconst (q := 112) F dX3_priceOf_111 rfl ?_
            refine j_goto (q := 117) F dX3_priceOf_112 (by decide) ?_
            refine j_iadd (q := 118) (z := (if M 55 2 ≤ j then 0 else exF (M 57) (M 55 0) i j * exF (M 57) (M 55 0) i j) + 0) F dX3_priceOf_117 rfl rfl ?_
            refine hret _ _ _ _ dX3_priceOf_118 ?_
            · have hok : okC d i j := ⟨by omega, hfz, fun _ => hln, by first | exact Or.inl (by assumption) | exact Or.inr (Or.inl (by omega)) | exact Or.inr (Or.inr (by omega))⟩
              refine ⟨rfl, ?_⟩
              rw [prC_yes hok]; unfold prD; rw [bd_eq hn hex (by omega), if_pos (lnB_iff.mpr hln)]
          · skip
            refine j_if_ne (q := 72) (tgt := 98) F dX3_priceOf_69 (by decide) rfl ⟨by decide, by decide⟩ (fun h => absurd h (by decide)) (fun _ => ?_)
            refine j_iload_n (q := 73) F dX3_priceOf_72 rfl rfl 2 rfl ?_
            refine j_aload_n (q := 74) F dX3_priceOf_73 rfl rfl 0 rfl ?_
            refine j_getR (q := 77) (z := 55) (index := 28) F se54 rfl in_X3_priceOf_3 4 (by decide) rfl fl_X3_priceOf_28 dX3_priceOf_74 rfl ?_
            refine j_getI (q := 80) (i := 2) (index := 79) F (pg55).1 rfl in_X3_priceOf_1 2 (by decide) rfl rfl fl_X3_priceOf_79 dX3_priceOf_77 rfl ?_
            refine j_icmp_ge (q := 83) (tgt := 98) F dX3_priceOf_80 (by decide) rfl ⟨by omega, by omega⟩ ⟨by omega, by omega⟩ (fun h80_14 => ?_) (fun h80_14 => ?_)
            · skip
              refine j_aload_n (q := 99) F dX3_priceOf_98 rfl rfl 0 rfl ?_
              refine j_getR (q := 102) (z := 55) (index := 28) F se54 rfl in_X3_priceOf_3 4 (by decide) rfl fl_X3_priceOf_28 dX3_priceOf_99 rfl ?_
              refine j_iload_n (q := 103) F dX3_priceOf_102 rfl rfl 1 rfl ?_
              refine j_iload_n (q := 104) F dX3_priceOf_103 rfl rfl 2 rfl ?_
              refine j_callVE (q := 107) F [vI i, vI j] (ct_X1_badness l X hX M 55 (pg55) i j (by omega) (by omega) (by omega) (by omega)) gX3_priceOf_X1_badness rfl cd_X1_badness ⟨by first | exact Nat.le_of_ble_eq_true rfl | (simp only [rm]; omega) | (simp [rm, vI, vR, Value.category]; omega), by first | exact Nat.le_of_ble_eq_true rfl | (simp only [rm]; omega) | (simp [rm, vI, vR, Value.category]; omega), by first | exact Nat.le_of_ble_eq_true rfl | (simp only [rm]; omega) | (simp [rm, vI, vR, Value.category]; omega), by first | exact Nat.le_of_ble_eq_true rfl | (simp only [rm]; omega) | (simp [rm, vI, vR, Value.category]; omega)⟩ (pg55).1 rfl rfl rfl (Nat.le_of_ble_eq_true rfl) dX3_priceOf_104 rfl ?_
              refine j_iload_n (q := 108) F dX3_priceOf_107 rfl rfl 3 rfl ?_
              refine j_if_eq (q := 111) (tgt := 115) F dX3_priceOf_108 (by decide) rfl ⟨by decide, by decide⟩ (fun h => absurd h (by decide)) (fun _ => ?_)
              refine j_iconst (q := 112) F dX3_priceOf_111 rfl ?_
              refine j_goto (q := 117) F dX3_priceOf_112 (by decide) ?_
              refine j_iadd (q := 118) (z := (if M 55 2 ≤ j then 0 else exF (M 57) (M 55 0) i j * exF (M 57) (M 55 0) i j) + 0) F dX3_priceOf_117 rfl rfl ?_
              refine hret _ _ _ _ dX3_priceOf_118 ?_
              · have hok : okC d i j := ⟨by omega, hfz, fun _ => hln, by first | exact Or.inl (by assumption) | exact Or.inr (Or.inl (by omega)) | exact Or.inr (Or.inr (by omega))⟩
                refine ⟨rfl, ?_⟩
                rw [prC_yes hok]; unfold prD; rw [bd_eq hn hex (by omega), if_pos (lnB_iff.mpr hln)]
            · skip
              refine j_iload (q := 85) F dX3_priceOf_83 rfl 4 rfl ?_
              refine j_aload_n (q := 86) F dX3_priceOf_85 rfl rfl 0 rfl ?_
              refine j_getR (q := 89) (z := 55) (index := 28) F se54 rfl in_X3_priceOf_3 4 (by decide) rfl fl_X3_priceOf_28 dX3_priceOf_86 rfl ?_
              refine j_getI (q := 92) (i := 1) (index := 112) F (pg55).1 rfl in_X3_priceOf_1 1 (by decide) rfl rfl fl_X3_priceOf_112 dX3_priceOf_89 rfl ?_
              refine j_icmp_le (q := 95) (tgt := 98) F dX3_priceOf_92 (by decide) rfl ⟨by omega, by omega⟩ ⟨by omega, by omega⟩ (fun h92_16 => ?_) (fun h92_16 => ?_)
              · skip
                refine j_aload_n (q := 99) F dX3_priceOf_98 rfl rfl 0 rfl ?_
                refine j_getR (q := 102) (z := 55) (index := 28) F se54 rfl in_X3_priceOf_3 4 (by decide) rfl fl_X3_priceOf_28 dX3_priceOf_99 rfl ?_
                refine j_iload_n (q := 103) F dX3_priceOf_102 rfl rfl 1 rfl ?_
                refine j_iload_n (q := 104) F dX3_priceOf_103 rfl rfl 2 rfl ?_
                refine j_callVE (q := 107) F [vI i, vI j] (ct_X1_badness l X hX M 55 (pg55) i j (by omega) (by omega) (by omega) (by omega)) gX3_priceOf_X1_badness rfl cd_X1_badness ⟨by first | exact Nat.le_of_ble_eq_true rfl | (simp only [rm]; omega) | (simp [rm, vI, vR, Value.category]; omega), by first | exact Nat.le_of_ble_eq_true rfl | (simp only [rm]; omega) | (simp [rm, vI, vR, Value.category]; omega), by first | exact Nat.le_of_ble_eq_true rfl | (simp only [rm]; omega) | (simp [rm, vI, vR, Value.category]; omega), by first | exact Nat.le_of_ble_eq_true rfl | (simp only [rm]; omega) | (simp [rm, vI, vR, Value.category]; omega)⟩ (pg55).1 rfl rfl rfl (Nat.le_of_ble_eq_true rfl) dX3_priceOf_104 rfl ?_
                refine j_iload_n (q := 108) F dX3_priceOf_107 rfl rfl 3 rfl ?_
                refine j_if_eq (q := 111) (tgt := 115) F dX3_priceOf_108 (by decide) rfl ⟨by decide, by decide⟩ (fun h => absurd h (by decide)) (fun _ => ?_)
                refine j_iconst (q := 112) F dX3_priceOf_111 rfl ?_
                refine j_goto (q := 117) F dX3_priceOf_112 (by decide) ?_
                refine j_iadd (q := 118) (z := (if M 55 2 ≤ j then 0 else exF (M 57) (M 55 0) i j * exF (M 57) (M 55 0) i j) + 0) F dX3_priceOf_117 rfl rfl ?_
                refine hret _ _ _ _ dX3_priceOf_118 ?_
                · have hok : okC d i j := ⟨by omega, hfz, fun _ => hln, by first | exact Or.inl (by assumption) | exact Or.inr (Or.inl (by omega)) | exact Or.inr (Or.inr (by omega))⟩
                  refine ⟨rfl, ?_⟩
                  rw [prC_yes hok]; unfold prD; rw [bd_eq hn hex (by omega), if_pos (lnB_iff.mpr hln)]
              · skip
                refine j_ldc (q := 97) (n := 1000000000) F dX3_priceOf_95 rfl cn_X3_priceOf_18 (by decide) ?_
                refine hret _ _ _ _ dX3_priceOf_97 ?_
                · refine ⟨rfl, (prC_no (fun z => ?_)).symm⟩
                  rcases z.2.2.2 with q | q | q
                  · first | exact hfa q | (have q9 : M 61 i = 1 := (fzat_iff hR hD (by omega) (by omega)).mpr q; omega)
                  · omega
                  · omega
  · skip
    rw [hn] at hln
    have hln : ¬ isLn d i j := fun z => hln ((isln_iff hR hD (by omega) (by omega)).mpr z)
    refine j_istore_n (q := 10) (lv' := [(0, vR X 54), (1, vI i), (2, vI j), (3, vI 0)]) F dX3_priceOf_9 rfl rfl (by decide) rfl rfl ?_
    refine j_aload_n (q := 11) F dX3_priceOf_10 rfl rfl 0 rfl ?_
    refine j_getR (q := 14) (z := 55) (index := 28) F se54 rfl in_X3_priceOf_3 4 (by decide) rfl fl_X3_priceOf_28 dX3_priceOf_11 rfl ?_
    refine j_iload_n (q := 15) F dX3_priceOf_14 rfl rfl 1 rfl ?_
    refine j_iload_n (q := 16) F dX3_priceOf_15 rfl rfl 2 rfl ?_
    refine j_callVE (q := 19) F [vI i, vI j] (ct_X1_extra l X hX M 55 (pg55) i j (by omega) (by omega) (by omega)) gX3_priceOf_X1_extra rfl cd_X1_extra ⟨by first | exact Nat.le_of_ble_eq_true rfl | (simp only [rm]; omega) | (simp [rm, vI, vR, Value.category]; omega), by first | exact Nat.le_of_ble_eq_true rfl | (simp only [rm]; omega) | (simp [rm, vI, vR, Value.category]; omega), by first | exact Nat.le_of_ble_eq_true rfl | (simp only [rm]; omega) | (simp [rm, vI, vR, Value.category]; omega), by first | exact Nat.le_of_ble_eq_true rfl | (simp only [rm]; omega) | (simp [rm, vI, vR, Value.category]; omega)⟩ (pg55).1 rfl rfl rfl (Nat.le_of_ble_eq_true rfl) dX3_priceOf_16 rfl ?_
    refine j_istore (q := 21) (lv' := [(0, vR X 54), (1, vI i), (2, vI j), (3, vI 0), (4, vI (exF (M 57) (M 55 0) i j))]) F dX3_priceOf_19 rfl (by decide) rfl rfl ?_
    refine j_iload (q := 23) F dX3_priceOf_21 rfl 4 rfl ?_
    refine j_if_lt (q := 26) (tgt := 40) F dX3_priceOf_23 (by decide) rfl ⟨by omega, by omega⟩ (fun h23_19 => ?_) (fun h23_19 => ?_)
    · skip
      refine j_ldc (q := 42) (n := 1000000000) F dX3_priceOf_40 rfl cn_X3_priceOf_18 (by decide) ?_
      exact hret _ _ _ _ dX3_priceOf_42 (by refine ⟨rfl, (prC_no (fun z => ?_)).symm⟩; first | exact absurd z.1 (by omega) | exact z.2.1 hfz)
    · skip
      refine j_aload_n (q := 27) F dX3_priceOf_26 rfl rfl 0 rfl ?_
      refine j_getR (q := 30) (z := 55) (index := 28) F se54 rfl in_X3_priceOf_3 4 (by decide) rfl fl_X3_priceOf_28 dX3_priceOf_27 rfl ?_
      refine j_iload_n (q := 31) F dX3_priceOf_30 rfl rfl 1 rfl ?_
      refine j_iconst (q := 32) F dX3_priceOf_31 rfl ?_
      refine j_iadd (q := 33) (z := i + 1) F dX3_priceOf_32 rfl rfl ?_
      refine j_iload_n (q := 34) F dX3_priceOf_33 rfl rfl 2 rfl ?_
      refine j_callVZ (q := 37) F [vI (i + 1), vI j] (ct_X1_hasFrozen l X hX M 55 (pg55) (i + 1) j (by omega) (by omega) (by omega) (by omega) hzb) gX3_priceOf_X1_hasFrozen rfl cd_X1_hasFrozen ⟨by first | exact Nat.le_of_ble_eq_true rfl | (simp only [rm]; omega) | (simp [rm, vI, vR, Value.category]; omega), by first | exact Nat.le_of_ble_eq_true rfl | (simp only [rm]; omega) | (simp [rm, vI, vR, Value.category]; omega), by first | exact Nat.le_of_ble_eq_true rfl | (simp only [rm]; omega) | (simp [rm, vI, vR, Value.category]; omega), by first | exact Nat.le_of_ble_eq_true rfl | (simp only [rm]; omega) | (simp [rm, vI, vR, Value.category]; omega)⟩ (pg55).1 rfl rfl rfl (Nat.le_of_ble_eq_true rfl) dX3_priceOf_34 rfl (fun hfz => ?_) (fun hfz => ?_)
      · skip
        have hfz := (fzin_iff hR hD (by omega) (by omega)).mp hfz
        refine j_if_eq (q := 40) (tgt := 43) F dX3_priceOf_37 (by decide) rfl ⟨by decide, by decide⟩ (fun h => absurd h (by decide)) (fun _ => ?_)
        refine j_ldc (q := 42) (n := 1000000000) F dX3_priceOf_40 rfl cn_X3_priceOf_18 (by decide) ?_
        exact hret _ _ _ _ dX3_priceOf_42 (by refine ⟨rfl, (prC_no (fun z => ?_)).symm⟩; first | exact absurd z.1 (by omega) | exact z.2.1 hfz)
      · skip
        have hfz : ¬ ∃ l, 0 ≤ l ∧ l < d 3 ∧ d (53 + l) = 1 ∧ i < sd d l ∧ sd d l < j := fun z => by obtain ⟨w, q0, q1, q2⟩ := (fzin_iff (i := i) (j := j) hR hD (by omega) (by omega)).mpr z; have := hfz w q0 q1; have q3 : M 61 w = 1 := q2; omega
        refine j_if_eq (q := 40) (tgt := 43) F dX3_priceOf_37 (by decide) rfl ⟨by decide, by decide⟩ (fun _ => ?_) (fun h => absurd h (by decide))
        refine j_aload_n (q := 44) F dX3_priceOf_43 rfl rfl 0 rfl ?_
        refine j_getR (q := 47) (z := 55) (index := 28) F se54 rfl in_X3_priceOf_3 4 (by decide) rfl fl_X3_priceOf_28 dX3_priceOf_44 rfl ?_
        refine j_iload_n (q := 48) F dX3_priceOf_47 rfl rfl 1 rfl ?_
        refine j_callVZ (q := 51) F [vI i] (ct_X1_isFrozen_in l X hX M 55 (pg55) i (by omega) (by omega) (by omega)) gX3_priceOf_X1_isFrozen rfl cd_X1_isFrozen ⟨by first | exact Nat.le_of_ble_eq_true rfl | (simp only [rm]; omega) | (simp [rm, vI, vR, Value.category]; omega), by first | exact Nat.le_of_ble_eq_true rfl | (simp only [rm]; omega) | (simp [rm, vI, vR, Value.category]; omega), by first | exact Nat.le_of_ble_eq_true rfl | (simp only [rm]; omega) | (simp [rm, vI, vR, Value.category]; omega), by first | exact Nat.le_of_ble_eq_true rfl | (simp only [rm]; omega) | (simp [rm, vI, vR, Value.category]; omega)⟩ (pg55).1 rfl rfl rfl (Nat.le_of_ble_eq_true rfl) dX3_priceOf_48 rfl (fun hfa => ?_) (fun hfa => ?_)
        · skip
          have hfa := (fzat_iff hR hD (by omega) (by omega)).mp hfa
          refine j_if_eq (q := 54) (tgt := 61) F dX3_priceOf_51 (by decide) rfl ⟨by decide, by decide⟩ (fun h => absurd h (by decide)) (fun _ => ?_)
          refine j_iload_n (q := 55) F dX3_priceOf_54 rfl rfl 3 rfl ?_
          refine j_if_ne (q := 58) (tgt := 61) F dX3_priceOf_55 (by decide) rfl ⟨by decide, by decide⟩ (fun h => absurd h (by decide)) (fun _ => ?_)
          refine j_ldc (q := 60) (n := 1000000000) F dX3_priceOf_58 rfl cn_X3_priceOf_18 (by decide) ?_
          exact hret _ _ _ _ dX3_priceOf_60 (by exact ⟨rfl, (prC_no (fun z => hln (z.2.2.1 hfa))).symm⟩)
        · skip
          have hfb : M 61 i = 0 := hfa
          have hfa : ¬ ∃ l, 0 ≤ l ∧ l < d 3 ∧ d (53 + l) = 1 ∧ sd d l = i := fun z => by have q3 : M 61 i = 1 := (fzat_iff hR hD (by omega) (by omega)).mpr z; omega
          refine j_if_eq (q := 54) (tgt := 61) F dX3_priceOf_51 (by decide) rfl ⟨by decide, by decide⟩ (fun _ => ?_) (fun h => absurd h (by decide))
          refine j_aload_n (q := 62) F dX3_priceOf_61 rfl rfl 0 rfl ?_
          refine j_getR (q := 65) (z := 55) (index := 28) F se54 rfl in_X3_priceOf_3 4 (by decide) rfl fl_X3_priceOf_28 dX3_priceOf_62 rfl ?_
          refine j_iload_n (q := 66) F dX3_priceOf_65 rfl rfl 1 rfl ?_
          refine j_callVZ (q := 69) F [vI i] (ct_X1_isFrozen_in l X hX M 55 (pg55) i (by omega) (by omega) (by omega)) gX3_priceOf_X1_isFrozen rfl cd_X1_isFrozen ⟨by first | exact Nat.le_of_ble_eq_true rfl | (simp only [rm]; omega) | (simp [rm, vI, vR, Value.category]; omega), by first | exact Nat.le_of_ble_eq_true rfl | (simp only [rm]; omega) | (simp [rm, vI, vR, Value.category]; omega), by first | exact Nat.le_of_ble_eq_true rfl | (simp only [rm]; omega) | (simp [rm, vI, vR, Value.category]; omega), by first | exact Nat.le_of_ble_eq_true rfl | (simp only [rm]; omega) | (simp [rm, vI, vR, Value.category]; omega)⟩ (pg55).1 rfl rfl rfl (Nat.le_of_ble_eq_true rfl) dX3_priceOf_66 rfl (fun hfc => ?_) (fun hfc => ?_)
          · skip
            refine j_if_ne (q := 72) (tgt := 98) F dX3_priceOf_69 (by decide) rfl ⟨by decide, by decide⟩ (fun _ => ?_) (fun h => absurd h (by decide))
            refine j_aload_n (q := 99) F dX3_priceOf_98 rfl rfl 0 rfl ?_
            refine j_getR (q := 102) (z := 55) (index := 28) F se54 rfl in_X3_priceOf_3 4 (by decide) rfl fl_X3_priceOf_28 dX3_priceOf_99 rfl ?_
            refine j_iload_n (q := 103) F dX3_priceOf_102 rfl rfl 1 rfl ?_
            refine j_iload_n (q := 104) F dX3_priceOf_103 rfl rfl 2 rfl ?_
            refine j_callVE (q := 107) F [vI i, vI j] (ct_X1_badness l X hX M 55 (pg55) i j (by omega) (by omega) (by omega) (by omega)) gX3_priceOf_X1_badness rfl cd_X1_badness ⟨by first | exact Nat.le_of_ble_eq_true rfl | (simp only [rm]; omega) | (simp [rm, vI, vR, Value.category]; omega), by first | exact Nat.le_of_ble_eq_true rfl | (simp only [rm]; omega) | (simp [rm, vI, vR, Value.category]; omega), by first | exact Nat.le_of_ble_eq_true rfl | (simp only [rm]; omega) | (simp [rm, vI, vR, Value.category]; omega), by first | exact Nat.le_of_ble_eq_true rfl | (simp only [rm]; omega) | (simp [rm, vI, vR, Value.category]; omega)⟩ (pg55).1 rfl rfl rfl (Nat.le_of_ble_eq_true rfl) dX3_priceOf_104 rfl ?_
            refine j_iload_n (q := 108) F dX3_priceOf_107 rfl rfl 3 rfl ?_
            refine j_if_eq (q := 111) (tgt := 115) F dX3_priceOf_108 (by decide) rfl ⟨by decide, by decide⟩ (fun _ => ?_) (fun h => absurd h (by decide))
            refine j_ldc (q := 117) (n := 100000) F dX3_priceOf_115 rfl cn_X3_priceOf_68 (by decide) ?_
            refine j_iadd (q := 118) (z := (if M 55 2 ≤ j then 0 else exF (M 57) (M 55 0) i j * exF (M 57) (M 55 0) i j) + 100000) F dX3_priceOf_117 rfl rfl ?_
            refine hret _ _ _ _ dX3_priceOf_118 ?_
            · have hok : okC d i j := ⟨by omega, hfz, fun q => absurd q (by assumption), by first | exact Or.inl (by assumption) | exact Or.inr (Or.inl (by omega)) | exact Or.inr (Or.inr (by omega))⟩
              refine ⟨rfl, ?_⟩
              rw [prC_yes hok]; unfold prD; rw [bd_eq hn hex (by omega), if_neg (fun z => hln (lnB_iff.mp z))]
          · skip
            refine j_if_ne (q := 72) (tgt := 98) F dX3_priceOf_69 (by decide) rfl ⟨by decide, by decide⟩ (fun h => absurd h (by decide)) (fun _ => ?_)
            refine j_iload_n (q := 73) F dX3_priceOf_72 rfl rfl 2 rfl ?_
            refine j_aload_n (q := 74) F dX3_priceOf_73 rfl rfl 0 rfl ?_
            refine j_getR (q := 77) (z := 55) (index := 28) F se54 rfl in_X3_priceOf_3 4 (by decide) rfl fl_X3_priceOf_28 dX3_priceOf_74 rfl ?_
            refine j_getI (q := 80) (i := 2) (index := 79) F (pg55).1 rfl in_X3_priceOf_1 2 (by decide) rfl rfl fl_X3_priceOf_79 dX3_priceOf_77 rfl ?_
            refine j_icmp_ge (q := 83) (tgt := 98) F dX3_priceOf_80 (by decide) rfl ⟨by omega, by omega⟩ ⟨by omega, by omega⟩ (fun h80_24 => ?_) (fun h80_24 => ?_)
            · skip
              refine j_aload_n (q := 99) F dX3_priceOf_98 rfl rfl 0 rfl ?_
              refine j_getR (q := 102) (z := 55) (index := 28) F se54 rfl in_X3_priceOf_3 4 (by decide) rfl fl_X3_priceOf_28 dX3_priceOf_99 rfl ?_
              refine j_iload_n (q := 103) F dX3_priceOf_102 rfl rfl 1 rfl ?_
              refine j_iload_n (q := 104) F dX3_priceOf_103 rfl rfl 2 rfl ?_
              refine j_callVE (q := 107) F [vI i, vI j] (ct_X1_badness l X hX M 55 (pg55) i j (by omega) (by omega) (by omega) (by omega)) gX3_priceOf_X1_badness rfl cd_X1_badness ⟨by first | exact Nat.le_of_ble_eq_true rfl | (simp only [rm]; omega) | (simp [rm, vI, vR, Value.category]; omega), by first | exact Nat.le_of_ble_eq_true rfl | (simp only [rm]; omega) | (simp [rm, vI, vR, Value.category]; omega), by first | exact Nat.le_of_ble_eq_true rfl | (simp only [rm]; omega) | (simp [rm, vI, vR, Value.category]; omega), by first | exact Nat.le_of_ble_eq_true rfl | (simp only [rm]; omega) | (simp [rm, vI, vR, Value.category]; omega)⟩ (pg55).1 rfl rfl rfl (Nat.le_of_ble_eq_true rfl) dX3_priceOf_104 rfl ?_
              refine j_iload_n (q := 108) F dX3_priceOf_107 rfl rfl 3 rfl ?_
              refine j_if_eq (q := 111) (tgt := 115) F dX3_priceOf_108 (by decide) rfl ⟨by decide, by decide⟩ (fun _ => ?_) (fun h => absurd h (by decide))
              refine j_ldc (q := 117) (n := 100000) F dX3_priceOf_115 rfl cn_X3_priceOf_68 (by decide) ?_
              refine j_iadd (q := 118) (z := (if M 55 2 ≤ j then 0 else exF (M 57) (M 55 0) i j * exF (M 57) (M 55 0) i j) + 100000) F dX3_priceOf_117 rfl rfl ?_
              refine hret _ _ _ _ dX3_priceOf_118 ?_
              · have hok : okC d i j := ⟨by omega, hfz, fun q => absurd q (by assumption), by first | exact Or.inl (by assumption) | exact Or.inr (Or.inl (by omega)) | exact Or.inr (Or.inr (by omega))⟩
                refine ⟨rfl, ?_⟩
                rw [prC_yes hok]; unfold prD; rw [bd_eq hn hex (by omega), if_neg (fun z => hln (lnB_iff.mp z))]
            · skip
              refine j_iload (q := 85) F dX3_priceOf_83 rfl 4 rfl ?_
              refine j_aload_n (q := 86) F dX3_priceOf_85 rfl rfl 0 rfl ?_
              refine j_getR (q := 89) (z := 55) (index := 28) F se54 rfl in_X3_priceOf_3 4 (by decide) rfl fl_X3_priceOf_28 dX3_priceOf_86 rfl ?_
              refine j_getI (q := 92) (i := 1) (index := 112) F (pg55).1 rfl in_X3_priceOf_1 1 (by decide) rfl rfl fl_X3_priceOf_112 dX3_priceOf_89 rfl ?_
              refine j_icmp_le (q := 95) (tgt := 98) F dX3_priceOf_92 (by decide) rfl ⟨by omega, by omega⟩ ⟨by omega, by omega⟩ (fun h92_26 => ?_) (fun h92_26 => ?_)
              · skip
                refine j_aload_n (q := 99) F dX3_priceOf_98 rfl rfl 0 rfl ?_
                refine j_getR (q := 102) (z := 55) (index := 28) F se54 rfl in_X3_priceOf_3 4 (by decide) rfl fl_X3_priceOf_28 dX3_priceOf_99 rfl ?_
                refine j_iload_n (q := 103) F dX3_priceOf_102 rfl rfl 1 rfl ?_
                refine j_iload_n (q := 104) F dX3_priceOf_103 rfl rfl 2 rfl ?_
                refine j_callVE (q := 107) F [vI i, vI j] (ct_X1_badness l X hX M 55 (pg55) i j (by omega) (by omega) (by omega) (by omega)) gX3_priceOf_X1_badness rfl cd_X1_badness ⟨by first | exact Nat.le_of_ble_eq_true rfl | (simp only [rm]; omega) | (simp [rm, vI, vR, Value.category]; omega), by first | exact Nat.le_of_ble_eq_true rfl | (simp only [rm]; omega) | (simp [rm, vI, vR, Value.category]; omega), by first | exact Nat.le_of_ble_eq_true rfl | (simp only [rm]; omega) | (simp [rm, vI, vR, Value.category]; omega), by first | exact Nat.le_of_ble_eq_true rfl | (simp only [rm]; omega) | (simp [rm, vI, vR, Value.category]; omega)⟩ (pg55).1 rfl rfl rfl (Nat.le_of_ble_eq_true rfl) dX3_priceOf_104 rfl ?_
                refine j_iload_n (q := 108) F dX3_priceOf_107 rfl rfl 3 rfl ?_
                refine j_if_eq (q := 111) (tgt := 115) F dX3_priceOf_108 (by decide) rfl ⟨by decide, by decide⟩ (fun _ => ?_) (fun h => absurd h (by decide))
                refine j_ldc (q := 117) (n := 100000) F dX3_priceOf_115 rfl cn_X3_priceOf_68 (by decide) ?_
                refine j_iadd (q := 118) (z := (if M 55 2 ≤ j then 0 else exF (M 57) (M 55 0) i j * exF (M 57) (M 55 0) i j) + 100000) F dX3_priceOf_117 rfl rfl ?_
                refine hret _ _ _ _ dX3_priceOf_118 ?_
                · have hok : okC d i j := ⟨by omega, hfz, fun q => absurd q (by assumption), by first | exact Or.inl (by assumption) | exact Or.inr (Or.inl (by omega)) | exact Or.inr (Or.inr (by omega))⟩
                  refine ⟨rfl, ?_⟩
                  rw [prC_yes hok]; unfold prD; rw [bd_eq hn hex (by omega), if_neg (fun z => hln (lnB_iff.mp z))]
              · skip
                refine j_ldc (q := 97) (n := 1000000000) F dX3_priceOf_95 rfl cn_X3_priceOf_18 (by decide) ?_
                refine hret _ _ _ _ dX3_priceOf_97 ?_
                · refine ⟨rfl, (prC_no (fun z => ?_)).symm⟩
                  rcases z.2.2.2 with q | q | q
                  · first | exact hfa q | (have q9 : M 61 i = 1 := (fzat_iff hR hD (by omega) (by omega)).mpr q; omega)
                  · omega
                  · omega
theorem cd_X3_cellOf : yX3_cellOf.cls ≠ "java/lang/invoke/MethodHandle" ∧ yX3_cellOf.cls ≠ "java/lang/invoke/VarHandle" ∧ (parseMethodDescriptor yX3_cellOf.desc).map (fun d => d.parameters.length) = some 2 := by decide +kernel
theorem cd_X3_priceOf : yX3_priceOf.cls = RX3 ∧ yX3_priceOf.cls ≠ "java/lang/invoke/MethodHandle" ∧ yX3_priceOf.cls ≠ "java/lang/invoke/VarHandle" ∧ (parseMethodDescriptor yX3_priceOf.desc).map (fun d => d.parameters.length) = some 2 := by decide +kernel
theorem cn_X3_setPrices_18 : Cond.constant RX3 18 (1000000000) ∈ wsX3_setPrices := by decide +kernel
theorem fl_X3_setPrices_28 : Cond.fieldLink RX3 28 "WhiteRivers$Search" "page" "LWhiteRivers$Page;" ∈ wsX3_setPrices := by decide +kernel
theorem fl_X3_setPrices_44 : Cond.fieldLink RX3 44 "WhiteRivers$Search" "prices" "LWhiteRivers$Row;" ∈ wsX3_setPrices := by decide +kernel
theorem fl_X3_setPrices_48 : Cond.fieldLink RX3 48 "WhiteRivers$Search" "leastPrices" "LWhiteRivers$Row;" ∈ wsX3_setPrices := by decide +kernel
theorem fl_X3_setPrices_79 : Cond.fieldLink RX3 79 "WhiteRivers$Page" "words" "I" ∈ wsX3_setPrices := by decide +kernel
theorem in_X3_setPrices_1 : ∀ w ∈ u_ws RX1 TX1 6, w ∈ wsX3_setPrices := by decide +kernel
theorem in_X3_setPrices_3 : ∀ w ∈ u_ws RX3 TX3 10, w ∈ wsX3_setPrices := by decide +kernel
theorem mt_X3_setPrices_93 : Cond.methodLink RX3 93 Lib.Math.min.name ∈ wsX3_setPrices ∧ Cond.static Lib.Math.min.name ∈ wsX3_setPrices ∧ Cond.initialized "java/lang/Math" ∈ wsX3_setPrices ∧ Cond.code Lib.Math.min.name Lib.Math.min.code 2 (some .int) ∈ wsX3_setPrices := by decide +kernel
set_option maxRecDepth 100000 in
set_option maxHeartbeats 1000000 in
theorem ct_X3_setPrices (l : Launch) (X : Cx) (hX : Inj X) (M : Mem) (d : Int → Int) (hR : PRel M 55 d) (hD : DOK d) : CtV l X yX3_setPrices wsX3_setPrices 4 [vR X 54] M (fun M' => PrOK M' d ∧ ∀ q, q ≠ 72 → q ≠ 74 → M' q = M q) := by
  refine CtV_of (cc := cX3_setPrices) (maxL := 5) hX (by decide +kernel) rfl (Nat.le_of_ble_eq_true rfl) ?_
  intro zp ze zs zm zargs zbelow zmeth zc zQ F hret
  show J zp l ze (rm 4) zs zm zargs zbelow zmeth zc 0 0 zQ zs.heap X 5 M 0 [(0, vR X 54)] []
  have hn : M 55 2 = d 0 := hR.2.2.1
  have hnn := hD.1
  refine j_aload_n (q := 1) F dX3_setPrices_0 rfl rfl 0 rfl ?_
  refine j_getR (q := 4) (z := 73) (index := 48) F se54 rfl in_X3_setPrices_3 7 (by decide) rfl fl_X3_setPrices_48 dX3_setPrices_1 rfl ?_
  refine j_aload_n (q := 5) F dX3_setPrices_4 rfl rfl 0 rfl ?_
  refine j_getR (q := 8) (z := 55) (index := 28) F se54 rfl in_X3_setPrices_3 4 (by decide) rfl fl_X3_setPrices_28 dX3_setPrices_5 rfl ?_
  refine j_getI (q := 11) (i := 2) (index := 79) F (pg55).1 rfl in_X3_setPrices_1 2 (by decide) rfl rfl fl_X3_setPrices_79 dX3_setPrices_8 rfl ?_
  rw [show M 55 2 = M 55 2 from by rfl]
  refine j_iconst (q := 12) F dX3_setPrices_11 rfl ?_
  refine j_callVM (q := 15) F [vI (M 55 2), vI 0] (ct_X2_set_in l X hX M 73 25 74 (rw73) (by decide) rfl (M 55 2) 0 (by omega) (by omega)) gX3_setPrices_X2_set rfl cd_X2_set ⟨by first | exact Nat.le_of_ble_eq_true rfl | (simp only [rm]; omega) | (simp [rm, vI, vR, Value.category]; omega), by first | exact Nat.le_of_ble_eq_true rfl | (simp only [rm]; omega) | (simp [rm, vI, vR, Value.category]; omega), by first | exact Nat.le_of_ble_eq_true rfl | (simp only [rm]; omega) | (simp [rm, vI, vR, Value.category]; omega), by first | exact Nat.le_of_ble_eq_true rfl | (simp only [rm]; omega) | (simp [rm, vI, vR, Value.category]; omega)⟩ (rw73).1 rfl rfl rfl (Nat.le_of_ble_eq_true rfl) dX3_setPrices_12 rfl ?_
  refine j_aload_n (q := 16) F dX3_setPrices_15 rfl rfl 0 rfl ?_
  refine j_getR (q := 19) (z := 55) (index := 28) F se54 rfl in_X3_setPrices_3 4 (by decide) rfl fl_X3_setPrices_28 dX3_setPrices_16 rfl ?_
  refine j_getI (q := 22) (i := 2) (index := 79) F (pg55).1 rfl in_X3_setPrices_1 2 (by decide) rfl rfl fl_X3_setPrices_79 dX3_setPrices_19 rfl ?_
  rw [show (mset M 74 (M 55 2) 0) 55 2 = M 55 2 from by rw [mset_nef (by decide)]]
  refine j_iconst (q := 23) F dX3_setPrices_22 rfl ?_
  refine j_isub (q := 24) (z := (M 55 2) - 1) F dX3_setPrices_23 rfl rfl ?_
  refine j_istore_n (q := 25) (lv' := [(0, vR X 54), (1, vI ((M 55 2) - 1))]) F dX3_setPrices_24 rfl rfl (by decide) rfl rfl ?_
  have LP25 : ∀ (nn : Nat) (i : Int) (Mq : Mem), (-1 ≤ i) → (i ≤ d 0 - 1) → (∀ q, q ≠ 72 → q ≠ 74 → Mq q = M q) → (∀ a b, i < a → 0 ≤ a → a < b → b ≤ d 0 → Mq 72 (a * 24 + b - a - 1) = prC d a b) → (Mq 74 (d 0) = 0) → (∀ a, i < a → a ≤ d 0 → 0 ≤ Mq 74 a ∧ Mq 74 a ≤ 1000000000) → (∀ a b, i < a → 0 ≤ a → a < b → b ≤ d 0 → Mq 74 a ≤ prC d a b + Mq 74 b) → (i + 1).toNat < nn → J zp l ze (rm 4) zs zm zargs zbelow zmeth zc 0 0 zQ zs.heap X 5 Mq 25 [(0, vR X 54), (1, vI i)] [] := by
    intro nn
    induction nn with
    | zero => intro i Mq g0 g1 hfr hA hL1 hL2 hL3 hm25; exact absurd hm25 (Nat.not_lt_zero _)
    | succ nn ih25 =>
      intro i Mq g0 g1 hfr hA hL1 hL2 hL3 hm25
      refine j_iload_n (q := 26) F dX3_setPrices_25 rfl rfl 1 rfl ?_
      refine j_if_lt (q := 29) (tgt := 106) F dX3_setPrices_26 (by decide) rfl ⟨by omega, by omega⟩ (fun h26_2 => ?_) (fun h26_2 => ?_)
      · skip
        exact hret _ _ _ dX3_setPrices_106 (by exact ⟨⟨fun a b q0 q1 q2 => hA a b (by omega) q0 q1 q2, hL1, fun a q0 q1 => hL2 a (by omega) q1, fun a b q0 q1 q2 => hL3 a b (by omega) q0 q1 q2⟩, hfr⟩)
      · skip
        refine j_ldc (q := 31) (n := 1000000000) F dX3_setPrices_29 rfl cn_X3_setPrices_18 (by decide) ?_
        refine j_istore_n (q := 32) (lv' := [(0, vR X 54), (1, vI i), (2, vI 1000000000)]) F dX3_setPrices_31 rfl rfl (by decide) rfl rfl ?_
        refine j_iload_n (q := 33) F dX3_setPrices_32 rfl rfl 1 rfl ?_
        refine j_iconst (q := 34) F dX3_setPrices_33 rfl ?_
        refine j_iadd (q := 35) (z := i + 1) F dX3_setPrices_34 rfl rfl ?_
        refine j_istore_n (q := 36) (lv' := [(0, vR X 54), (1, vI i), (2, vI 1000000000), (3, vI (i + 1))]) F dX3_setPrices_35 rfl rfl (by decide) rfl rfl ?_
        have LP36 : ∀ (nn : Nat) (mn en : Int) (Mp : Mem), (i + 1 ≤ en) → (en ≤ d 0 + 1) → (∀ q, q ≠ 72 → Mp q = Mq q) → (∀ a b, i < a → 0 ≤ a → a < b → b ≤ d 0 → Mp 72 (a * 24 + b - a - 1) = prC d a b) → (∀ b, i < b → b < en → Mp 72 (i * 24 + b - i - 1) = prC d i b) → (0 ≤ mn ∧ mn ≤ 1000000000) → (∀ b, i < b → b < en → mn ≤ prC d i b + Mq 74 b) → (d 0 + 1 - en).toNat < nn → J zp l ze (rm 4) zs zm zargs zbelow zmeth zc 0 0 zQ zs.heap X 5 Mp 36 [(0, vR X 54), (1, vI i), (2, vI mn), (3, vI en)] [] := by
          intro nn
          induction nn with
          | zero => intro mn en Mp k0 k1 hf2 hP1 hP2 hm1 hm2 hm36; exact absurd hm36 (Nat.not_lt_zero _)
          | succ nn ih36 =>
            intro mn en Mp k0 k1 hf2 hP1 hP2 hm1 hm2 hm36
            have hRp : PRel Mp 55 d := hR.congr (by rw [hf2 55 (by decide), hfr 55 (by decide) (by decide)]) (by rw [hf2 57 (by decide), hfr 57 (by decide) (by decide)]) (by rw [hf2 59 (by decide), hfr 59 (by decide) (by decide)]) (by rw [hf2 61 (by decide), hfr 61 (by decide) (by decide)])
            refine j_iload_n (q := 37) F dX3_setPrices_36 rfl rfl 3 rfl ?_
            refine j_aload_n (q := 38) F dX3_setPrices_37 rfl rfl 0 rfl ?_
            refine j_getR (q := 41) (z := 55) (index := 28) F se54 rfl in_X3_setPrices_3 4 (by decide) rfl fl_X3_setPrices_28 dX3_setPrices_38 rfl ?_
            refine j_getI (q := 44) (i := 2) (index := 79) F (pg55).1 rfl in_X3_setPrices_1 2 (by decide) rfl rfl fl_X3_setPrices_79 dX3_setPrices_41 rfl ?_
            rw [show Mp 55 2 = d 0 from by rw [hf2 55 (by decide), hfr 55 (by decide) (by decide), hn]]
            refine j_icmp_gt (q := 47) (tgt := 91) F dX3_setPrices_44 (by decide) rfl ⟨by omega, by omega⟩ ⟨by omega, by omega⟩ (fun h44_3 => ?_) (fun h44_3 => ?_)
            · skip
              refine j_aload_n (q := 92) F dX3_setPrices_91 rfl rfl 0 rfl ?_
              refine j_getR (q := 95) (z := 73) (index := 48) F se54 rfl in_X3_setPrices_3 7 (by decide) rfl fl_X3_setPrices_48 dX3_setPrices_92 rfl ?_
              refine j_iload_n (q := 96) F dX3_setPrices_95 rfl rfl 1 rfl ?_
              refine j_iload_n (q := 97) F dX3_setPrices_96 rfl rfl 2 rfl ?_
              refine j_callVM (q := 100) F [vI i, vI mn] (ct_X2_set_in l X hX Mp 73 25 74 (rw73) (by decide) rfl i mn (by omega) (by omega)) gX3_setPrices_X2_set rfl cd_X2_set ⟨by first | exact Nat.le_of_ble_eq_true rfl | (simp only [rm]; omega) | (simp [rm, vI, vR, Value.category]; omega), by first | exact Nat.le_of_ble_eq_true rfl | (simp only [rm]; omega) | (simp [rm, vI, vR, Value.category]; omega), by first | exact Nat.le_of_ble_eq_true rfl | (simp only [rm]; omega) | (simp [rm, vI, vR, Value.category]; omega), by first | exact Nat.le_of_ble_eq_true rfl | (simp only [rm]; omega) | (simp [rm, vI, vR, Value.category]; omega)⟩ (rw73).1 rfl rfl rfl (Nat.le_of_ble_eq_true rfl) dX3_setPrices_97 rfl ?_
              refine j_iinc (q := 103) (lv' := [(0, vR X 54), (1, vI (i + (-1))), (2, vI mn), (3, vI en)]) F dX3_setPrices_100 rfl 1 rfl (by decide) rfl rfl ?_
              refine j_goto (q := 25) F dX3_setPrices_103 (by decide) ?_
              refine j_sub (lv' := [(0, vR X 54), (1, vI (i + (-1)))]) [0, 1] rfl ?_
              refine ih25 (i + (-1)) (mset Mp 74 i mn) (by omega) (by omega) (by exact fun q q2 q4 => by rw [mset_nef q4, hf2 q q2]; exact hfr q q2 q4) ?_ (by rw [mset_ne2 (by omega), hf2 74 (by decide)]; exact hL1) ?_ ?_ (by omega)
              · intro a b q0 q1 q2 q3; rw [mset_nef (by decide)]
                by_cases ea : a = i
                · subst ea; exact hP2 b q2 (by omega)
                · exact hP1 a b (by omega) q1 q2 q3
              · intro a q0 q1; by_cases ea : a = i
                · rw [ea, mset_at]; omega
                · rw [mset_ne2 ea, hf2 74 (by decide)]; exact hL2 a (by omega) q1
              · intro a b q0 q1 q2 q3; rw [mset_ne2 (j := b) (by omega), hf2 74 (by decide)]
                by_cases ea : a = i
                · subst ea; rw [mset_at]; exact hm2 b q2 (by omega)
                · rw [mset_ne2 ea, hf2 74 (by decide)]; exact hL3 a b (by omega) q1 q2 q3
            · skip
              refine j_aload_n (q := 48) F dX3_setPrices_47 rfl rfl 0 rfl ?_
              refine j_iload_n (q := 49) F dX3_setPrices_48 rfl rfl 1 rfl ?_
              refine j_iload_n (q := 50) F dX3_setPrices_49 rfl rfl 3 rfl ?_
              refine j_callVE (q := 53) F [vI i, vI en] (ct_X3_priceOf l X hX Mp d hRp hD i en (by omega)) gX3_setPrices_X3_priceOf rfl cd_X3_priceOf ⟨by first | exact Nat.le_of_ble_eq_true rfl | (simp only [rm]; omega) | (simp [rm, vI, vR, Value.category]; omega), by first | exact Nat.le_of_ble_eq_true rfl | (simp only [rm]; omega) | (simp [rm, vI, vR, Value.category]; omega), by first | exact Nat.le_of_ble_eq_true rfl | (simp only [rm]; omega) | (simp [rm, vI, vR, Value.category]; omega), by first | exact Nat.le_of_ble_eq_true rfl | (simp only [rm]; omega) | (simp [rm, vI, vR, Value.category]; omega)⟩ se54 rfl rfl rfl (Nat.le_of_ble_eq_true rfl) dX3_setPrices_50 rfl ?_
              refine j_istore (q := 55) (lv' := [(0, vR X 54), (1, vI i), (2, vI mn), (3, vI en), (4, vI (prC d i en))]) F dX3_setPrices_53 rfl (by decide) rfl rfl ?_
              have hpb := prC_bd hD (i := i) (j := en) (by omega) (by omega) (by omega)
              refine j_aload_n (q := 56) F dX3_setPrices_55 rfl rfl 0 rfl ?_
              refine j_getR (q := 59) (z := 71) (index := 44) F se54 rfl in_X3_setPrices_3 6 (by decide) rfl fl_X3_setPrices_44 dX3_setPrices_56 rfl ?_
              refine j_iload_n (q := 60) F dX3_setPrices_59 rfl rfl 1 rfl ?_
              refine j_iload_n (q := 61) F dX3_setPrices_60 rfl rfl 3 rfl ?_
              refine j_callSE (q := 64) F [vI i, vI en] (ct_X3_cellOf l X hX Mp i en) gX3_setPrices_X3_cellOf rfl cd_X3_cellOf ⟨by first | exact Nat.le_of_ble_eq_true rfl | (simp only [rm]; omega) | (simp [rm, vI, vR, Value.category]; omega), by first | exact Nat.le_of_ble_eq_true rfl | (simp only [rm]; omega) | (simp [rm, vI, vR, Value.category]; omega), by first | exact Nat.le_of_ble_eq_true rfl | (simp only [rm]; omega) | (simp [rm, vI, vR, Value.category]; omega), by first | exact Nat.le_of_ble_eq_true rfl | (simp only [rm]; omega) | (simp [rm, vI, vR, Value.category]; omega)⟩ rfl rfl (Nat.le_of_ble_eq_true rfl) dX3_setPrices_61 rfl ?_
              refine j_iload (q := 66) F dX3_setPrices_64 rfl 4 rfl ?_
              refine j_callVM (q := 69) F [vI (i * 24 + en - i - 1), vI (prC d i en)] (ct_X2_set_in l X hX Mp 71 576 72 (rw71) (by decide) rfl (i * 24 + en - i - 1) (prC d i en) (by omega) (by omega)) gX3_setPrices_X2_set rfl cd_X2_set ⟨by first | exact Nat.le_of_ble_eq_true rfl | (simp only [rm]; omega) | (simp [rm, vI, vR, Value.category]; omega), by first | exact Nat.le_of_ble_eq_true rfl | (simp only [rm]; omega) | (simp [rm, vI, vR, Value.category]; omega), by first | exact Nat.le_of_ble_eq_true rfl | (simp only [rm]; omega) | (simp [rm, vI, vR, Value.category]; omega), by first | exact Nat.le_of_ble_eq_true rfl | (simp only [rm]; omega) | (simp [rm, vI, vR, Value.category]; omega)⟩ (rw71).1 rfl rfl rfl (Nat.le_of_ble_eq_true rfl) dX3_setPrices_66 rfl ?_
              refine j_iload_n (q := 70) F dX3_setPrices_69 rfl rfl 2 rfl ?_
              refine j_iload (q := 72) F dX3_setPrices_70 rfl 4 rfl ?_
              refine j_aload_n (q := 73) F dX3_setPrices_72 rfl rfl 0 rfl ?_
              refine j_getR (q := 76) (z := 73) (index := 48) F se54 rfl in_X3_setPrices_3 7 (by decide) rfl fl_X3_setPrices_48 dX3_setPrices_73 rfl ?_
              refine j_iload_n (q := 77) F dX3_setPrices_76 rfl rfl 3 rfl ?_
              refine j_callVE (q := 80) F [vI en] (ct_X2_get_in l X hX (mset Mp 72 (i * 24 + en - i - 1) (prC d i en)) 73 25 74 (rw73) (by decide) rfl en (by omega) (by omega)) gX3_setPrices_X2_get rfl cd_X2_get ⟨by first | exact Nat.le_of_ble_eq_true rfl | (simp only [rm]; omega) | (simp [rm, vI, vR, Value.category]; omega), by first | exact Nat.le_of_ble_eq_true rfl | (simp only [rm]; omega) | (simp [rm, vI, vR, Value.category]; omega), by first | exact Nat.le_of_ble_eq_true rfl | (simp only [rm]; omega) | (simp [rm, vI, vR, Value.category]; omega), by first | exact Nat.le_of_ble_eq_true rfl | (simp only [rm]; omega) | (simp [rm, vI, vR, Value.category]; omega)⟩ (rw73).1 rfl rfl rfl (Nat.le_of_ble_eq_true rfl) dX3_setPrices_77 rfl ?_
              rw [show (mset Mp 72 (i * 24 + en - i - 1) (prC d i en)) 74 en = Mq 74 en from by rw [mset_nef (by decide), hf2 74 (by decide)]]
              refine j_iadd (q := 81) (z := (prC d i en) + (Mq 74 en)) F dX3_setPrices_80 rfl rfl ?_
              have hlb := hL2 en (by omega) (by omega)
              refine j_min (q := 84) F mt_X3_setPrices_93.1 mt_X3_setPrices_93.2.1 mt_X3_setPrices_93.2.2.1 mt_X3_setPrices_93.2.2.2 ⟨by first | exact Nat.le_of_ble_eq_true rfl | (simp only [rm]; omega) | (simp [rm, vI, vR, Value.category]; omega), by first | exact Nat.le_of_ble_eq_true rfl | (simp only [rm]; omega) | (simp [rm, vI, vR, Value.category]; omega), by first | exact Nat.le_of_ble_eq_true rfl | (simp only [rm]; omega) | (simp [rm, vI, vR, Value.category]; omega), by first | exact Nat.le_of_ble_eq_true rfl | (simp only [rm]; omega) | (simp [rm, vI, vR, Value.category]; omega)⟩ ⟨by omega, by omega⟩ ⟨by omega, by omega⟩ dX3_setPrices_81 rfl ?_
              refine j_istore_n (q := 85) (lv' := [(0, vR X 54), (1, vI i), (2, vI (min mn ((prC d i en) + (Mq 74 en)))), (3, vI en), (4, vI (prC d i en))]) F dX3_setPrices_84 rfl rfl (by decide) rfl rfl ?_
              refine j_iinc (q := 88) (lv' := [(0, vR X 54), (1, vI i), (2, vI (min mn ((prC d i en) + (Mq 74 en)))), (3, vI (en + 1)), (4, vI (prC d i en))]) F dX3_setPrices_85 rfl 3 rfl (by decide) rfl rfl ?_
              refine j_goto (q := 36) F dX3_setPrices_88 (by decide) ?_
              refine j_sub (lv' := [(0, vR X 54), (1, vI i), (2, vI (min mn ((prC d i en) + (Mq 74 en)))), (3, vI (en + 1))]) [0, 1, 2, 3] rfl ?_
              refine ih36 (min mn ((prC d i en) + (Mq 74 en))) (en + 1) (mset Mp 72 (i * 24 + en - i - 1) (prC d i en)) (by omega) (by omega) (by exact fun q q2 => by rw [mset_nef q2]; exact hf2 q q2) (by intro a b q0 q1 q2 q3; rw [mset_ne2 (by omega)]; exact hP1 a b q0 q1 q2 q3) ?_ (by omega) ?_ (by omega)
              · intro b q0 q1; by_cases eb : b = en
                · subst eb; exact mset_at
                · rw [mset_ne2 (by omega)]; exact hP2 b q0 (by omega)
              · intro b q0 q1; by_cases eb : b = en
                · subst eb; omega
                · have := hm2 b q0 (by omega); omega
        exact LP36 _ 1000000000 (i + 1) Mq (by omega) (by omega) (by exact fun _ _ => rfl) (by exact hA) (by intro b q0 q1; omega) (by omega) (by intro b q0 q1; omega) (by exact Nat.lt_succ_self _)
  refine LP25 _ ((M 55 2) - 1) (mset M 74 (M 55 2) 0) (by omega) (by omega) (by exact fun q _ q4 => mset_nef q4) (by intro a b q0 q1 q2 q3; omega) (by rw [← hn]; exact mset_at) ?_ (by intro a b q0 q1 q2 q3; omega) (by exact Nat.lt_succ_self _)
  · intro a q0 q1; have e : a = M 55 2 := by omega
    rw [e, mset_at]; omega
