theorem fl_X4_columnOf_14 : Cond.fieldLink RX4 14 "WhiteRivers$Sheet" "columns" "LWhiteRivers$Row;" ∈ wsX4_columnOf := by decide +kernel
theorem in_X4_columnOf_4 : ∀ w ∈ u_ws RX4 TX4 4, w ∈ wsX4_columnOf := by decide +kernel
set_option maxRecDepth 100000 in
set_option maxHeartbeats 400000 in
theorem ct_X4_columnOf (l : Launch) (X : Cx) (hX : Inj X) (M : Mem) (c : Nat) (hc : isSheet c) (w : Int) (h0 : 0 ≤ w) (h1 : w < 24) : CtI l X yX4_columnOf wsX4_columnOf 1 [vR X c, vI w] M (fun x M' => M' = M ∧ x = M (c + 2) w) := by
  refine CtI_of (cc := cX4_columnOf) (maxL := 2) hX (by decide +kernel) rfl (Nat.le_of_ble_eq_true rfl) ?_
  intro zp ze zs zm zargs zbelow zmeth zc zQ F hret
  show J zp l ze (rm 1) zs zm zargs zbelow zmeth zc 0 0 zQ zs.heap X 2 M 0 [(0, vR X c), (1, vI w)] []
  refine j_aload_n (q := 1) F dX4_columnOf_0 rfl rfl 0 rfl ?_
  refine j_getR (q := 4) (z := c + 1) (index := 14) F (hc).1 rfl in_X4_columnOf_4 0 (by decide) rfl fl_X4_columnOf_14 dX4_columnOf_1 rfl ?_
  refine j_iload_n (q := 5) F dX4_columnOf_4 rfl rfl 1 rfl ?_
  refine j_callVE (q := 8) F [vI w] (ct_X2_get_in l X hX M (c + 1) 24 (c + 2) ((hc).2.1) (by decide) rfl w (by omega) (by omega)) gX4_columnOf_X2_get rfl cd_X2_get ⟨by first | exact Nat.le_of_ble_eq_true rfl | (simp only [rm]; omega) | (simp [rm, vI, vR, Value.category]; omega), by first | exact Nat.le_of_ble_eq_true rfl | (simp only [rm]; omega) | (simp [rm, vI, vR, Value.category]; omega), by first | exact Nat.le_of_ble_eq_true rfl | (simp only [rm]; omega) | (simp [rm, vI, vR, Value.category]; omega), by first | exact Nat.le_of_ble_eq_true rfl | (simp only [rm]; omega) | (simp [rm, vI, vR, Value.category]; omega)⟩ ((hc).2.1).1 rfl rfl rfl (Nat.le_of_ble_eq_true rfl) dX4_columnOf_5 rfl ?_
  exact hret _ _ _ _ dX4_columnOf_8 (by exact ⟨rfl, rfl⟩)
theorem fl_X4_gapColumn_20 : Cond.fieldLink RX4 20 "WhiteRivers$Sheet" "gapColumns" "LWhiteRivers$Row;" ∈ wsX4_gapColumn := by decide +kernel
theorem in_X4_gapColumn_4 : ∀ w ∈ u_ws RX4 TX4 4, w ∈ wsX4_gapColumn := by decide +kernel
set_option maxRecDepth 100000 in
set_option maxHeartbeats 400000 in
theorem ct_X4_gapColumn (l : Launch) (X : Cx) (hX : Inj X) (M : Mem) (c : Nat) (hc : isSheet c) (w : Int) (h0 : 0 ≤ w) (h1 : w < 24) : CtI l X yX4_gapColumn wsX4_gapColumn 1 [vR X c, vI w] M (fun x M' => M' = M ∧ x = M (c + 4) w) := by
  refine CtI_of (cc := cX4_gapColumn) (maxL := 2) hX (by decide +kernel) rfl (Nat.le_of_ble_eq_true rfl) ?_
  intro zp ze zs zm zargs zbelow zmeth zc zQ F hret
  show J zp l ze (rm 1) zs zm zargs zbelow zmeth zc 0 0 zQ zs.heap X 2 M 0 [(0, vR X c), (1, vI w)] []
  refine j_aload_n (q := 1) F dX4_gapColumn_0 rfl rfl 0 rfl ?_
  refine j_getR (q := 4) (z := c + 3) (index := 20) F (hc).1 rfl in_X4_gapColumn_4 1 (by decide) rfl fl_X4_gapColumn_20 dX4_gapColumn_1 rfl ?_
  refine j_iload_n (q := 5) F dX4_gapColumn_4 rfl rfl 1 rfl ?_
  refine j_callVE (q := 8) F [vI w] (ct_X2_get_in l X hX M (c + 3) 24 (c + 4) ((hc).2.2.1) (by decide) rfl w (by omega) (by omega)) gX4_gapColumn_X2_get rfl cd_X2_get ⟨by first | exact Nat.le_of_ble_eq_true rfl | (simp only [rm]; omega) | (simp [rm, vI, vR, Value.category]; omega), by first | exact Nat.le_of_ble_eq_true rfl | (simp only [rm]; omega) | (simp [rm, vI, vR, Value.category]; omega), by first | exact Nat.le_of_ble_eq_true rfl | (simp only [rm]; omega) | (simp [rm, vI, vR, Value.category]; omega), by first | exact Nat.le_of_ble_eq_true rfl | (simp only [rm]; omega) | (simp [rm, vI, vR, Value.category]; omega)⟩ ((hc).2.2.1).1 rfl rfl rfl (Nat.le_of_ble_eq_true rfl) dX4_gapColumn_5 rfl ?_
  exact hret _ _ _ _ dX4_gapColumn_8 (by exact ⟨rfl, rfl⟩)
theorem fl_X4_gapWidth_23 : Cond.fieldLink RX4 23 "WhiteRivers$Sheet" "gapWidths" "LWhiteRivers$Row;" ∈ wsX4_gapWidth := by decide +kernel
theorem in_X4_gapWidth_4 : ∀ w ∈ u_ws RX4 TX4 4, w ∈ wsX4_gapWidth := by decide +kernel
set_option maxRecDepth 100000 in
set_option maxHeartbeats 400000 in
theorem ct_X4_gapWidth (l : Launch) (X : Cx) (hX : Inj X) (M : Mem) (c : Nat) (hc : isSheet c) (w : Int) (h0 : 0 ≤ w) (h1 : w < 24) : CtI l X yX4_gapWidth wsX4_gapWidth 1 [vR X c, vI w] M (fun x M' => M' = M ∧ x = M (c + 6) w) := by
  refine CtI_of (cc := cX4_gapWidth) (maxL := 2) hX (by decide +kernel) rfl (Nat.le_of_ble_eq_true rfl) ?_
  intro zp ze zs zm zargs zbelow zmeth zc zQ F hret
  show J zp l ze (rm 1) zs zm zargs zbelow zmeth zc 0 0 zQ zs.heap X 2 M 0 [(0, vR X c), (1, vI w)] []
  refine j_aload_n (q := 1) F dX4_gapWidth_0 rfl rfl 0 rfl ?_
  refine j_getR (q := 4) (z := c + 5) (index := 23) F (hc).1 rfl in_X4_gapWidth_4 2 (by decide) rfl fl_X4_gapWidth_23 dX4_gapWidth_1 rfl ?_
  refine j_iload_n (q := 5) F dX4_gapWidth_4 rfl rfl 1 rfl ?_
  refine j_callVE (q := 8) F [vI w] (ct_X2_get_in l X hX M (c + 5) 24 (c + 6) ((hc).2.2.2.1) (by decide) rfl w (by omega) (by omega)) gX4_gapWidth_X2_get rfl cd_X2_get ⟨by first | exact Nat.le_of_ble_eq_true rfl | (simp only [rm]; omega) | (simp [rm, vI, vR, Value.category]; omega), by first | exact Nat.le_of_ble_eq_true rfl | (simp only [rm]; omega) | (simp [rm, vI, vR, Value.category]; omega), by first | exact Nat.le_of_ble_eq_true rfl | (simp only [rm]; omega) | (simp [rm, vI, vR, Value.category]; omega), by first | exact Nat.le_of_ble_eq_true rfl | (simp only [rm]; omega) | (simp [rm, vI, vR, Value.category]; omega)⟩ ((hc).2.2.2.1).1 rfl rfl rfl (Nat.le_of_ble_eq_true rfl) dX4_gapWidth_5 rfl ?_
  exact hret _ _ _ _ dX4_gapWidth_8 (by exact ⟨rfl, rfl⟩)
theorem fl_X4_reachOf_26 : Cond.fieldLink RX4 26 "WhiteRivers$Sheet" "reaches" "LWhiteRivers$Row;" ∈ wsX4_reachOf := by decide +kernel
theorem in_X4_reachOf_4 : ∀ w ∈ u_ws RX4 TX4 4, w ∈ wsX4_reachOf := by decide +kernel
set_option maxRecDepth 100000 in
set_option maxHeartbeats 400000 in
theorem ct_X4_reachOf (l : Launch) (X : Cx) (hX : Inj X) (M : Mem) (c : Nat) (hc : isSheet c) (w : Int) (h0 : 0 ≤ w) (h1 : w < 24) : CtI l X yX4_reachOf wsX4_reachOf 1 [vR X c, vI w] M (fun x M' => M' = M ∧ x = M (c + 8) w) := by
  refine CtI_of (cc := cX4_reachOf) (maxL := 2) hX (by decide +kernel) rfl (Nat.le_of_ble_eq_true rfl) ?_
  intro zp ze zs zm zargs zbelow zmeth zc zQ F hret
  show J zp l ze (rm 1) zs zm zargs zbelow zmeth zc 0 0 zQ zs.heap X 2 M 0 [(0, vR X c), (1, vI w)] []
  refine j_aload_n (q := 1) F dX4_reachOf_0 rfl rfl 0 rfl ?_
  refine j_getR (q := 4) (z := c + 7) (index := 26) F (hc).1 rfl in_X4_reachOf_4 3 (by decide) rfl fl_X4_reachOf_26 dX4_reachOf_1 rfl ?_
  refine j_iload_n (q := 5) F dX4_reachOf_4 rfl rfl 1 rfl ?_
  refine j_callVE (q := 8) F [vI w] (ct_X2_get_in l X hX M (c + 7) 24 (c + 8) ((hc).2.2.2.2) (by decide) rfl w (by omega) (by omega)) gX4_reachOf_X2_get rfl cd_X2_get ⟨by first | exact Nat.le_of_ble_eq_true rfl | (simp only [rm]; omega) | (simp [rm, vI, vR, Value.category]; omega), by first | exact Nat.le_of_ble_eq_true rfl | (simp only [rm]; omega) | (simp [rm, vI, vR, Value.category]; omega), by first | exact Nat.le_of_ble_eq_true rfl | (simp only [rm]; omega) | (simp [rm, vI, vR, Value.category]; omega), by first | exact Nat.le_of_ble_eq_true rfl | (simp only [rm]; omega) | (simp [rm, vI, vR, Value.category]; omega)⟩ ((hc).2.2.2.2).1 rfl rfl rfl (Nat.le_of_ble_eq_true rfl) dX4_reachOf_5 rfl ?_
  exact hret _ _ _ _ dX4_reachOf_8 (by exact ⟨rfl, rfl⟩)
theorem fl_X4_meet_20 : Cond.fieldLink RX4 20 "WhiteRivers$Sheet" "gapColumns" "LWhiteRivers$Row;" ∈ wsX4_meet := by decide +kernel
theorem fl_X4_meet_23 : Cond.fieldLink RX4 23 "WhiteRivers$Sheet" "gapWidths" "LWhiteRivers$Row;" ∈ wsX4_meet := by decide +kernel
theorem in_X4_meet_4 : ∀ w ∈ u_ws RX4 TX4 4, w ∈ wsX4_meet := by decide +kernel
theorem mt_X4_meet_58 : Cond.methodLink RX4 58 Lib.Math.max.name ∈ wsX4_meet ∧ Cond.static Lib.Math.max.name ∈ wsX4_meet ∧ Cond.initialized "java/lang/Math" ∈ wsX4_meet ∧ Cond.code Lib.Math.max.name Lib.Math.max.code 2 (some .int) ∈ wsX4_meet := by decide +kernel
theorem mt_X4_meet_74 : Cond.methodLink RX4 74 Lib.Math.min.name ∈ wsX4_meet ∧ Cond.static Lib.Math.min.name ∈ wsX4_meet ∧ Cond.initialized "java/lang/Math" ∈ wsX4_meet ∧ Cond.code Lib.Math.min.name Lib.Math.min.code 2 (some .int) ∈ wsX4_meet := by decide +kernel
set_option maxRecDepth 100000 in
set_option maxHeartbeats 400000 in
theorem ct_X4_meet (l : Launch) (X : Cx) (hX : Inj X) (M : Mem) (c : Nat) (hc : isSheet c) (hsb : SBd M c) (a b : Int) (ha : 0 ≤ a ∧ a < 24) (hb : 0 ≤ b ∧ b < 24) : CtI l X yX4_meet wsX4_meet 1 [vR X c, vI a, vI b] M (fun x M' => M' = M ∧ (x = 1 ∧ mtP (M (c + 4) a) (M (c + 6) a) (M (c + 4) b) (M (c + 6) b) ∨ x = 0 ∧ ¬ mtP (M (c + 4) a) (M (c + 6) a) (M (c + 4) b) (M (c + 6) b))) := by
  refine CtI_ofZ (cc := cX4_meet) (maxL := 7) hX (by decide +kernel) rfl (Nat.le_of_ble_eq_true rfl) ?_
  intro zp ze zs zm zargs zbelow zmeth zc zQ F hret
  show J zp l ze (rm 1) zs zm zargs zbelow zmeth zc 0 0 zQ zs.heap X 7 M 0 [(0, vR X c), (1, vI a), (2, vI b)] []
  have ba := hsb a ha.1 ha.2
  have bb := hsb b hb.1 hb.2
  refine j_aload_n (q := 1) F dX4_meet_0 rfl rfl 0 rfl ?_
  refine j_getR (q := 4) (z := c + 3) (index := 20) F (hc).1 rfl in_X4_meet_4 1 (by decide) rfl fl_X4_meet_20 dX4_meet_1 rfl ?_
  refine j_iload_n (q := 5) F dX4_meet_4 rfl rfl 1 rfl ?_
  refine j_callVE (q := 8) F [vI a] (ct_X2_get_in l X hX M (c + 3) 24 (c + 4) ((hc).2.2.1) (by decide) rfl a (by omega) (by omega)) gX4_meet_X2_get rfl cd_X2_get ⟨by first | exact Nat.le_of_ble_eq_true rfl | (simp only [rm]; omega) | (simp [rm, vI, vR, Value.category]; omega), by first | exact Nat.le_of_ble_eq_true rfl | (simp only [rm]; omega) | (simp [rm, vI, vR, Value.category]; omega), by first | exact Nat.le_of_ble_eq_true rfl | (simp only [rm]; omega) | (simp [rm, vI, vR, Value.category]; omega), by first | exact Nat.le_of_ble_eq_true rfl | (simp only [rm]; omega) | (simp [rm, vI, vR, Value.category]; omega)⟩ ((hc).2.2.1).1 rfl rfl rfl (Nat.le_of_ble_eq_true rfl) dX4_meet_5 rfl ?_
  refine j_istore_n (q := 9) (lv' := [(0, vR X c), (1, vI a), (2, vI b), (3, vI (M (c + 4) a))]) F dX4_meet_8 rfl rfl (by decide) rfl rfl ?_
  refine j_aload_n (q := 10) F dX4_meet_9 rfl rfl 0 rfl ?_
  refine j_getR (q := 13) (z := c + 3) (index := 20) F (hc).1 rfl in_X4_meet_4 1 (by decide) rfl fl_X4_meet_20 dX4_meet_10 rfl ?_
  refine j_iload_n (q := 14) F dX4_meet_13 rfl rfl 2 rfl ?_
  refine j_callVE (q := 17) F [vI b] (ct_X2_get_in l X hX M (c + 3) 24 (c + 4) ((hc).2.2.1) (by decide) rfl b (by omega) (by omega)) gX4_meet_X2_get rfl cd_X2_get ⟨by first | exact Nat.le_of_ble_eq_true rfl | (simp only [rm]; omega) | (simp [rm, vI, vR, Value.category]; omega), by first | exact Nat.le_of_ble_eq_true rfl | (simp only [rm]; omega) | (simp [rm, vI, vR, Value.category]; omega), by first | exact Nat.le_of_ble_eq_true rfl | (simp only [rm]; omega) | (simp [rm, vI, vR, Value.category]; omega), by first | exact Nat.le_of_ble_eq_true rfl | (simp only [rm]; omega) | (simp [rm, vI, vR, Value.category]; omega)⟩ ((hc).2.2.1).1 rfl rfl rfl (Nat.le_of_ble_eq_true rfl) dX4_meet_14 rfl ?_
  refine j_istore (q := 19) (lv' := [(0, vR X c), (1, vI a), (2, vI b), (3, vI (M (c + 4) a)), (4, vI (M (c + 4) b))]) F dX4_meet_17 rfl (by decide) rfl rfl ?_
  refine j_iload_n (q := 20) F dX4_meet_19 rfl rfl 3 rfl ?_
  refine j_aload_n (q := 21) F dX4_meet_20 rfl rfl 0 rfl ?_
  refine j_getR (q := 24) (z := c + 5) (index := 23) F (hc).1 rfl in_X4_meet_4 2 (by decide) rfl fl_X4_meet_23 dX4_meet_21 rfl ?_
  refine j_iload_n (q := 25) F dX4_meet_24 rfl rfl 1 rfl ?_
  refine j_callVE (q := 28) F [vI a] (ct_X2_get_in l X hX M (c + 5) 24 (c + 6) ((hc).2.2.2.1) (by decide) rfl a (by omega) (by omega)) gX4_meet_X2_get rfl cd_X2_get ⟨by first | exact Nat.le_of_ble_eq_true rfl | (simp only [rm]; omega) | (simp [rm, vI, vR, Value.category]; omega), by first | exact Nat.le_of_ble_eq_true rfl | (simp only [rm]; omega) | (simp [rm, vI, vR, Value.category]; omega), by first | exact Nat.le_of_ble_eq_true rfl | (simp only [rm]; omega) | (simp [rm, vI, vR, Value.category]; omega), by first | exact Nat.le_of_ble_eq_true rfl | (simp only [rm]; omega) | (simp [rm, vI, vR, Value.category]; omega)⟩ ((hc).2.2.2.1).1 rfl rfl rfl (Nat.le_of_ble_eq_true rfl) dX4_meet_25 rfl ?_
  refine j_iadd (q := 29) (z := (M (c + 4) a) + (M (c + 6) a)) F dX4_meet_28 rfl rfl ?_
  refine j_istore (q := 31) (lv' := [(0, vR X c), (1, vI a), (2, vI b), (3, vI (M (c + 4) a)), (4, vI (M (c + 4) b)), (5, vI ((M (c + 4) a) + (M (c + 6) a)))]) F dX4_meet_29 rfl (by decide) rfl rfl ?_
  refine j_iload (q := 33) F dX4_meet_31 rfl 4 rfl ?_
  refine j_aload_n (q := 34) F dX4_meet_33 rfl rfl 0 rfl ?_
  refine j_getR (q := 37) (z := c + 5) (index := 23) F (hc).1 rfl in_X4_meet_4 2 (by decide) rfl fl_X4_meet_23 dX4_meet_34 rfl ?_
  refine j_iload_n (q := 38) F dX4_meet_37 rfl rfl 2 rfl ?_
  refine j_callVE (q := 41) F [vI b] (ct_X2_get_in l X hX M (c + 5) 24 (c + 6) ((hc).2.2.2.1) (by decide) rfl b (by omega) (by omega)) gX4_meet_X2_get rfl cd_X2_get ⟨by first | exact Nat.le_of_ble_eq_true rfl | (simp only [rm]; omega) | (simp [rm, vI, vR, Value.category]; omega), by first | exact Nat.le_of_ble_eq_true rfl | (simp only [rm]; omega) | (simp [rm, vI, vR, Value.category]; omega), by first | exact Nat.le_of_ble_eq_true rfl | (simp only [rm]; omega) | (simp [rm, vI, vR, Value.category]; omega), by first | exact Nat.le_of_ble_eq_true rfl | (simp only [rm]; omega) | (simp [rm, vI, vR, Value.category]; omega)⟩ ((hc).2.2.2.1).1 rfl rfl rfl (Nat.le_of_ble_eq_true rfl) dX4_meet_38 rfl ?_
  refine j_iadd (q := 42) (z := (M (c + 4) b) + (M (c + 6) b)) F dX4_meet_41 rfl rfl ?_
  refine j_istore (q := 44) (lv' := [(0, vR X c), (1, vI a), (2, vI b), (3, vI (M (c + 4) a)), (4, vI (M (c + 4) b)), (5, vI ((M (c + 4) a) + (M (c + 6) a))), (6, vI ((M (c + 4) b) + (M (c + 6) b)))]) F dX4_meet_42 rfl (by decide) rfl rfl ?_
  refine j_iload_n (q := 45) F dX4_meet_44 rfl rfl 3 rfl ?_
  refine j_iload (q := 47) F dX4_meet_45 rfl 4 rfl ?_
  refine j_max (q := 50) F mt_X4_meet_58.1 mt_X4_meet_58.2.1 mt_X4_meet_58.2.2.1 mt_X4_meet_58.2.2.2 ⟨by first | exact Nat.le_of_ble_eq_true rfl | (simp only [rm]; omega) | (simp [rm, vI, vR, Value.category]; omega), by first | exact Nat.le_of_ble_eq_true rfl | (simp only [rm]; omega) | (simp [rm, vI, vR, Value.category]; omega), by first | exact Nat.le_of_ble_eq_true rfl | (simp only [rm]; omega) | (simp [rm, vI, vR, Value.category]; omega), by first | exact Nat.le_of_ble_eq_true rfl | (simp only [rm]; omega) | (simp [rm, vI, vR, Value.category]; omega)⟩ ⟨by omega, by omega⟩ ⟨by omega, by omega⟩ dX4_meet_47 rfl ?_
  refine j_iload (q := 52) F dX4_meet_50 rfl 5 rfl ?_
  refine j_iload (q := 54) F dX4_meet_52 rfl 6 rfl ?_
  refine j_min (q := 57) F mt_X4_meet_74.1 mt_X4_meet_74.2.1 mt_X4_meet_74.2.2.1 mt_X4_meet_74.2.2.2 ⟨by first | exact Nat.le_of_ble_eq_true rfl | (simp only [rm]; omega) | (simp [rm, vI, vR, Value.category]; omega), by first | exact Nat.le_of_ble_eq_true rfl | (simp only [rm]; omega) | (simp [rm, vI, vR, Value.category]; omega), by first | exact Nat.le_of_ble_eq_true rfl | (simp only [rm]; omega) | (simp [rm, vI, vR, Value.category]; omega), by first | exact Nat.le_of_ble_eq_true rfl | (simp only [rm]; omega) | (simp [rm, vI, vR, Value.category]; omega)⟩ ⟨by omega, by omega⟩ ⟨by omega, by omega⟩ dX4_meet_54 rfl ?_
  refine j_icmp_ge (q := 60) (tgt := 64) F dX4_meet_57 (by decide) rfl ⟨by omega, by omega⟩ ⟨by omega, by omega⟩ (fun h57_5 => ?_) (fun h57_5 => ?_)
  · skip
    refine j_iconst (q := 65) F dX4_meet_64 rfl ?_
    exact hret _ _ _ _ dX4_meet_65 (Or.inl rfl) (by refine ⟨rfl, ?_⟩; unfold mtP; omega)
  · skip
    refine j_iconst (q := 61) F dX4_meet_60 rfl ?_
    refine j_goto (q := 65) F dX4_meet_61 (by decide) ?_
    exact hret _ _ _ _ dX4_meet_65 (Or.inr rfl) (by refine ⟨rfl, ?_⟩; unfold mtP; omega)
theorem cd_X4_meet : yX4_meet.cls = RX4 ∧ yX4_meet.cls ≠ "java/lang/invoke/MethodHandle" ∧ yX4_meet.cls ≠ "java/lang/invoke/VarHandle" ∧ (parseMethodDescriptor yX4_meet.desc).map (fun d => d.parameters.length) = some 2 := by decide +kernel
theorem fl_X4_reachAbove_26 : Cond.fieldLink RX4 26 "WhiteRivers$Sheet" "reaches" "LWhiteRivers$Row;" ∈ wsX4_reachAbove := by decide +kernel
theorem in_X4_reachAbove_4 : ∀ w ∈ u_ws RX4 TX4 4, w ∈ wsX4_reachAbove := by decide +kernel
theorem mt_X4_reachAbove_58 : Cond.methodLink RX4 58 Lib.Math.max.name ∈ wsX4_reachAbove ∧ Cond.static Lib.Math.max.name ∈ wsX4_reachAbove ∧ Cond.initialized "java/lang/Math" ∈ wsX4_reachAbove ∧ Cond.code Lib.Math.max.name Lib.Math.max.code 2 (some .int) ∈ wsX4_reachAbove := by decide +kernel
set_option maxRecDepth 100000 in
set_option maxHeartbeats 400000 in
theorem ct_X4_reachAbove (l : Launch) (X : Cx) (hX : Inj X) (M : Mem) (c : Nat) (hc : isSheet c) (hsb : SBd M c) (b f t : Int) (hb : 0 ≤ b ∧ b < 24) (hf : 0 ≤ f ∧ f ≤ t ∧ t ≤ 24) (hr : ∀ w, f ≤ w → w < t → 0 ≤ M (c + 8) w ∧ M (c + 8) w ≤ 100) : CtI l X yX4_reachAbove wsX4_reachAbove 2 [vR X c, vI b, vI f, vI t] M (fun x M' => M' = M ∧ x = mx (fun q => mtB (M (c + 4) q) (M (c + 6) q) (M (c + 4) b) (M (c + 6) b)) (M (c + 8)) f t) := by
  refine CtI_of (cc := cX4_reachAbove) (maxL := 6) hX (by decide +kernel) rfl (Nat.le_of_ble_eq_true rfl) ?_
  intro zp ze zs zm zargs zbelow zmeth zc zQ F hret
  show J zp l ze (rm 2) zs zm zargs zbelow zmeth zc 0 0 zQ zs.heap X 6 M 0 [(0, vR X c), (1, vI b), (2, vI f), (3, vI t)] []
  refine j_iconst (q := 1) F dX4_reachAbove_0 rfl ?_
  refine j_istore (q := 3) (lv' := [(0, vR X c), (1, vI b), (2, vI f), (3, vI t), (4, vI 0)]) F dX4_reachAbove_1 rfl (by decide) rfl rfl ?_
  refine j_iload_n (q := 4) F dX4_reachAbove_3 rfl rfl 2 rfl ?_
  refine j_istore (q := 6) (lv' := [(0, vR X c), (1, vI b), (2, vI f), (3, vI t), (4, vI 0), (5, vI f)]) F dX4_reachAbove_4 rfl (by decide) rfl rfl ?_
  have LP6 : ∀ (nn : Nat) (acc k : Int), (f ≤ k) → (k ≤ t) → (acc = mx (fun q => mtB (M (c + 4) q) (M (c + 6) q) (M (c + 4) b) (M (c + 6) b)) (M (c + 8)) f k) → (t - k).toNat < nn → J zp l ze (rm 2) zs zm zargs zbelow zmeth zc 0 0 zQ zs.heap X 6 M 6 [(0, vR X c), (1, vI b), (2, vI f), (3, vI t), (4, vI acc), (5, vI k)] [] := by
    intro nn
    induction nn with
    | zero => intro acc k g0 g1 g2 hm6; exact absurd hm6 (Nat.not_lt_zero _)
    | succ nn ih6 =>
      intro acc k g0 g1 g2 hm6
      have g3 : 0 ≤ acc ∧ acc ≤ 100 := by rw [g2]; exact mx_bd (by omega) (fun w q0 q1 _ => (hr w q0 (by omega)).2)
      have hrk : k < t → 0 ≤ M (c + 8) k ∧ M (c + 8) k ≤ 100 := fun z => hr k g0 z
      refine j_iload (q := 8) F dX4_reachAbove_6 rfl 5 rfl ?_
      refine j_iload_n (q := 9) F dX4_reachAbove_8 rfl rfl 3 rfl ?_
      refine j_icmp_ge (q := 12) (tgt := 44) F dX4_reachAbove_9 (by decide) rfl ⟨by omega, by omega⟩ ⟨by omega, by omega⟩ (fun h9_1 => ?_) (fun h9_1 => ?_)
      · skip
        refine j_iload (q := 46) F dX4_reachAbove_44 rfl 4 rfl ?_
        exact hret _ _ _ _ dX4_reachAbove_46 (by refine ⟨rfl, ?_⟩; rw [g2, show k = t by omega])
      · skip
        refine j_aload_n (q := 13) F dX4_reachAbove_12 rfl rfl 0 rfl ?_
        refine j_iload (q := 15) F dX4_reachAbove_13 rfl 5 rfl ?_
        refine j_iload_n (q := 16) F dX4_reachAbove_15 rfl rfl 1 rfl ?_
        refine j_callVZ (q := 19) F [vI k, vI b] (ct_X4_meet l X hX M c (hc) hsb k b (by omega) (by omega)) gX4_reachAbove_X4_meet rfl cd_X4_meet ⟨by first | exact Nat.le_of_ble_eq_true rfl | (simp only [rm]; omega) | (simp [rm, vI, vR, Value.category]; omega), by first | exact Nat.le_of_ble_eq_true rfl | (simp only [rm]; omega) | (simp [rm, vI, vR, Value.category]; omega), by first | exact Nat.le_of_ble_eq_true rfl | (simp only [rm]; omega) | (simp [rm, vI, vR, Value.category]; omega), by first | exact Nat.le_of_ble_eq_true rfl | (simp only [rm]; omega) | (simp [rm, vI, vR, Value.category]; omega)⟩ (hc).1 rfl rfl rfl (Nat.le_of_ble_eq_true rfl) dX4_reachAbove_16 rfl (fun p_3 => ?_) (fun p_3 => ?_)
        · skip
          refine j_if_eq (q := 22) (tgt := 38) F dX4_reachAbove_19 (by decide) rfl ⟨by decide, by decide⟩ (fun h => absurd h (by decide)) (fun _ => ?_)
          refine j_iload (q := 24) F dX4_reachAbove_22 rfl 4 rfl ?_
          refine j_aload_n (q := 25) F dX4_reachAbove_24 rfl rfl 0 rfl ?_
          refine j_getR (q := 28) (z := c + 7) (index := 26) F (hc).1 rfl in_X4_reachAbove_4 3 (by decide) rfl fl_X4_reachAbove_26 dX4_reachAbove_25 rfl ?_
          refine j_iload (q := 30) F dX4_reachAbove_28 rfl 5 rfl ?_
          refine j_callVE (q := 33) F [vI k] (ct_X2_get_in l X hX M (c + 7) 24 (c + 8) ((hc).2.2.2.2) (by decide) rfl k (by omega) (by omega)) gX4_reachAbove_X2_get rfl cd_X2_get ⟨by first | exact Nat.le_of_ble_eq_true rfl | (simp only [rm]; omega) | (simp [rm, vI, vR, Value.category]; omega), by first | exact Nat.le_of_ble_eq_true rfl | (simp only [rm]; omega) | (simp [rm, vI, vR, Value.category]; omega), by first | exact Nat.le_of_ble_eq_true rfl | (simp only [rm]; omega) | (simp [rm, vI, vR, Value.category]; omega), by first | exact Nat.le_of_ble_eq_true rfl | (simp only [rm]; omega) | (simp [rm, vI, vR, Value.category]; omega)⟩ ((hc).2.2.2.2).1 rfl rfl rfl (Nat.le_of_ble_eq_true rfl) dX4_reachAbove_30 rfl ?_
          refine j_max (q := 36) F mt_X4_reachAbove_58.1 mt_X4_reachAbove_58.2.1 mt_X4_reachAbove_58.2.2.1 mt_X4_reachAbove_58.2.2.2 ⟨by first | exact Nat.le_of_ble_eq_true rfl | (simp only [rm]; omega) | (simp [rm, vI, vR, Value.category]; omega), by first | exact Nat.le_of_ble_eq_true rfl | (simp only [rm]; omega) | (simp [rm, vI, vR, Value.category]; omega), by first | exact Nat.le_of_ble_eq_true rfl | (simp only [rm]; omega) | (simp [rm, vI, vR, Value.category]; omega), by first | exact Nat.le_of_ble_eq_true rfl | (simp only [rm]; omega) | (simp [rm, vI, vR, Value.category]; omega)⟩ ⟨by omega, by omega⟩ ⟨by omega, by omega⟩ dX4_reachAbove_33 rfl ?_
          refine j_istore (q := 38) (lv' := [(0, vR X c), (1, vI b), (2, vI f), (3, vI t), (4, vI (max acc (M (c + 8) k))), (5, vI k)]) F dX4_reachAbove_36 rfl (by decide) rfl rfl ?_
          refine j_iinc (q := 41) (lv' := [(0, vR X c), (1, vI b), (2, vI f), (3, vI t), (4, vI (max acc (M (c + 8) k))), (5, vI (k + 1))]) F dX4_reachAbove_38 rfl 5 rfl (by decide) rfl rfl ?_
          refine j_goto (q := 6) F dX4_reachAbove_41 (by decide) ?_
          exact ih6 (max acc (M (c + 8) k)) (k + 1) (by omega) (by omega) (by rw [mx_s _ _ g0, if_pos (mtB_iff.mpr (by assumption)), ← g2]; split <;> omega) (by omega)
        · skip
          refine j_if_eq (q := 22) (tgt := 38) F dX4_reachAbove_19 (by decide) rfl ⟨by decide, by decide⟩ (fun _ => ?_) (fun h => absurd h (by decide))
          refine j_iinc (q := 41) (lv' := [(0, vR X c), (1, vI b), (2, vI f), (3, vI t), (4, vI acc), (5, vI (k + 1))]) F dX4_reachAbove_38 rfl 5 rfl (by decide) rfl rfl ?_
          refine j_goto (q := 6) F dX4_reachAbove_41 (by decide) ?_
          exact ih6 acc (k + 1) (by omega) (by omega) (by rw [mx_s _ _ g0, if_neg (fun z => absurd (mtB_iff.mp z) (by assumption)), ← g2]) (by omega)
  exact LP6 _ 0 f (by omega) (by omega) (by exact (mx_0 _ _ (Int.le_refl _)).symm) (by exact Nat.lt_succ_self _)
set_option maxRecDepth 100000 in
set_option maxHeartbeats 400000 in
theorem ct_X4_gapsThatMeet (l : Launch) (X : Cx) (hX : Inj X) (M : Mem) (c : Nat) (hc : isSheet c) (hsb : SBd M c) (b f t : Int) (hb : 0 ≤ b ∧ b < 24) (hf : 0 ≤ f ∧ f ≤ t ∧ t ≤ 24) : CtI l X yX4_gapsThatMeet wsX4_gapsThatMeet 2 [vR X c, vI b, vI f, vI t] M (fun x M' => M' = M ∧ x = cnt (fun q => if (fun q => mtB (M (c + 4) q) (M (c + 6) q) (M (c + 4) b) (M (c + 6) b)) q = true then 1 else 0) t - cnt (fun q => if (fun q => mtB (M (c + 4) q) (M (c + 6) q) (M (c + 4) b) (M (c + 6) b)) q = true then 1 else 0) f) := by
  refine CtI_of (cc := cX4_gapsThatMeet) (maxL := 6) hX (by decide +kernel) rfl (Nat.le_of_ble_eq_true rfl) ?_
  intro zp ze zs zm zargs zbelow zmeth zc zQ F hret
  show J zp l ze (rm 2) zs zm zargs zbelow zmeth zc 0 0 zQ zs.heap X 6 M 0 [(0, vR X c), (1, vI b), (2, vI f), (3, vI t)] []
  refine j_iconst (q := 1) F dX4_gapsThatMeet_0 rfl ?_
  refine j_istore (q := 3) (lv' := [(0, vR X c), (1, vI b), (2, vI f), (3, vI t), (4, vI 0)]) F dX4_gapsThatMeet_1 rfl (by decide) rfl rfl ?_
  refine j_iload_n (q := 4) F dX4_gapsThatMeet_3 rfl rfl 2 rfl ?_
  refine j_istore (q := 6) (lv' := [(0, vR X c), (1, vI b), (2, vI f), (3, vI t), (4, vI 0), (5, vI f)]) F dX4_gapsThatMeet_4 rfl (by decide) rfl rfl ?_
  have LP6 : ∀ (nn : Nat) (acc k : Int), (f ≤ k) → (k ≤ t) → (acc = cnt (fun q => if (fun q => mtB (M (c + 4) q) (M (c + 6) q) (M (c + 4) b) (M (c + 6) b)) q = true then 1 else 0) k - cnt (fun q => if (fun q => mtB (M (c + 4) q) (M (c + 6) q) (M (c + 4) b) (M (c + 6) b)) q = true then 1 else 0) f) → (t - k).toNat < nn → J zp l ze (rm 2) zs zm zargs zbelow zmeth zc 0 0 zQ zs.heap X 6 M 6 [(0, vR X c), (1, vI b), (2, vI f), (3, vI t), (4, vI acc), (5, vI k)] [] := by
    intro nn
    induction nn with
    | zero => intro acc k g0 g1 g2 hm6; exact absurd hm6 (Nat.not_lt_zero _)
    | succ nn ih6 =>
      intro acc k g0 g1 g2 hm6
      refine j_iload (q := 8) F dX4_gapsThatMeet_6 rfl 5 rfl ?_
      refine j_iload_n (q := 9) F dX4_gapsThatMeet_8 rfl rfl 3 rfl ?_
      refine j_icmp_ge (q := 12) (tgt := 31) F dX4_gapsThatMeet_9 (by decide) rfl ⟨by omega, by omega⟩ ⟨by omega, by omega⟩ (fun h9_1 => ?_) (fun h9_1 => ?_)
      · skip
        refine j_iload (q := 33) F dX4_gapsThatMeet_31 rfl 4 rfl ?_
        exact hret _ _ _ _ dX4_gapsThatMeet_33 (by refine ⟨rfl, ?_⟩; rw [g2, show k = t by omega])
      · skip
        refine j_aload_n (q := 13) F dX4_gapsThatMeet_12 rfl rfl 0 rfl ?_
        refine j_iload (q := 15) F dX4_gapsThatMeet_13 rfl 5 rfl ?_
        refine j_iload_n (q := 16) F dX4_gapsThatMeet_15 rfl rfl 1 rfl ?_
        refine j_callVZ (q := 19) F [vI k, vI b] (ct_X4_meet l X hX M c (hc) hsb k b (by omega) (by omega)) gX4_gapsThatMeet_X4_meet rfl cd_X4_meet ⟨by first | exact Nat.le_of_ble_eq_true rfl | (simp only [rm]; omega) | (simp [rm, vI, vR, Value.category]; omega), by first | exact Nat.le_of_ble_eq_true rfl | (simp only [rm]; omega) | (simp [rm, vI, vR, Value.category]; omega), by first | exact Nat.le_of_ble_eq_true rfl | (simp only [rm]; omega) | (simp [rm, vI, vR, Value.category]; omega), by first | exact Nat.le_of_ble_eq_true rfl | (simp only [rm]; omega) | (simp [rm, vI, vR, Value.category]; omega)⟩ (hc).1 rfl rfl rfl (Nat.le_of_ble_eq_true rfl) dX4_gapsThatMeet_16 rfl (fun p_3 => ?_) (fun p_3 => ?_)
        · skip
          refine j_if_eq (q := 22) (tgt := 25) F dX4_gapsThatMeet_19 (by decide) rfl ⟨by decide, by decide⟩ (fun h => absurd h (by decide)) (fun _ => ?_)
          refine j_iinc (q := 25) (lv' := [(0, vR X c), (1, vI b), (2, vI f), (3, vI t), (4, vI (acc + 1)), (5, vI k)]) F dX4_gapsThatMeet_22 rfl 4 rfl (by decide) rfl rfl ?_
          refine j_iinc (q := 28) (lv' := [(0, vR X c), (1, vI b), (2, vI f), (3, vI t), (4, vI (acc + 1)), (5, vI (k + 1))]) F dX4_gapsThatMeet_25 rfl 5 rfl (by decide) rfl rfl ?_
          refine j_goto (q := 6) F dX4_gapsThatMeet_28 (by decide) ?_
          exact ih6 (acc + 1) (k + 1) (by omega) (by omega) (by rw [cnt_s _ (by omega), if_pos (mtB_iff.mpr (by assumption))]; omega) (by omega)
        · skip
          refine j_if_eq (q := 22) (tgt := 25) F dX4_gapsThatMeet_19 (by decide) rfl ⟨by decide, by decide⟩ (fun _ => ?_) (fun h => absurd h (by decide))
          refine j_iinc (q := 28) (lv' := [(0, vR X c), (1, vI b), (2, vI f), (3, vI t), (4, vI acc), (5, vI (k + 1))]) F dX4_gapsThatMeet_25 rfl 5 rfl (by decide) rfl rfl ?_
          refine j_goto (q := 6) F dX4_gapsThatMeet_28 (by decide) ?_
          exact ih6 acc (k + 1) (by omega) (by omega) (by rw [cnt_s _ (by omega), if_neg (fun z => absurd (mtB_iff.mp z) (by assumption))]; omega) (by omega)
  exact LP6 _ 0 f (by omega) (by omega) (by omega) (by exact Nat.lt_succ_self _)
theorem fl_X4_greatestReach_26 : Cond.fieldLink RX4 26 "WhiteRivers$Sheet" "reaches" "LWhiteRivers$Row;" ∈ wsX4_greatestReach := by decide +kernel
theorem in_X4_greatestReach_4 : ∀ w ∈ u_ws RX4 TX4 4, w ∈ wsX4_greatestReach := by decide +kernel
theorem mt_X4_greatestReach_58 : Cond.methodLink RX4 58 Lib.Math.max.name ∈ wsX4_greatestReach ∧ Cond.static Lib.Math.max.name ∈ wsX4_greatestReach ∧ Cond.initialized "java/lang/Math" ∈ wsX4_greatestReach ∧ Cond.code Lib.Math.max.name Lib.Math.max.code 2 (some .int) ∈ wsX4_greatestReach := by decide +kernel
set_option maxRecDepth 100000 in
set_option maxHeartbeats 400000 in
theorem ct_X4_greatestReach (l : Launch) (X : Cx) (hX : Inj X) (M : Mem) (c : Nat) (hc : isSheet c) (f t : Int) (hf : 0 ≤ f ∧ f ≤ t ∧ t ≤ 24) (hr : ∀ w, f ≤ w → w < t → 0 ≤ M (c + 8) w ∧ M (c + 8) w ≤ 100) : CtI l X yX4_greatestReach wsX4_greatestReach 1 [vR X c, vI f, vI t] M (fun x M' => M' = M ∧ x = mx (fun _ => true) (M (c + 8)) f t) := by
  refine CtI_of (cc := cX4_greatestReach) (maxL := 5) hX (by decide +kernel) rfl (Nat.le_of_ble_eq_true rfl) ?_
  intro zp ze zs zm zargs zbelow zmeth zc zQ F hret
  show J zp l ze (rm 1) zs zm zargs zbelow zmeth zc 0 0 zQ zs.heap X 5 M 0 [(0, vR X c), (1, vI f), (2, vI t)] []
  refine j_iconst (q := 1) F dX4_greatestReach_0 rfl ?_
  refine j_istore_n (q := 2) (lv' := [(0, vR X c), (1, vI f), (2, vI t), (3, vI 0)]) F dX4_greatestReach_1 rfl rfl (by decide) rfl rfl ?_
  refine j_iload_n (q := 3) F dX4_greatestReach_2 rfl rfl 1 rfl ?_
  refine j_istore (q := 5) (lv' := [(0, vR X c), (1, vI f), (2, vI t), (3, vI 0), (4, vI f)]) F dX4_greatestReach_3 rfl (by decide) rfl rfl ?_
  have LP5 : ∀ (nn : Nat) (acc k : Int), (f ≤ k) → (k ≤ t) → (acc = mx (fun _ => true) (M (c + 8)) f k) → (t - k).toNat < nn → J zp l ze (rm 1) zs zm zargs zbelow zmeth zc 0 0 zQ zs.heap X 5 M 5 [(0, vR X c), (1, vI f), (2, vI t), (3, vI acc), (4, vI k)] [] := by
    intro nn
    induction nn with
    | zero => intro acc k g0 g1 g2 hm5; exact absurd hm5 (Nat.not_lt_zero _)
    | succ nn ih5 =>
      intro acc k g0 g1 g2 hm5
      have g3 : 0 ≤ acc ∧ acc ≤ 100 := by rw [g2]; exact mx_bd (by omega) (fun w q0 q1 _ => (hr w q0 (by omega)).2)
      have hrk : k < t → 0 ≤ M (c + 8) k ∧ M (c + 8) k ≤ 100 := fun z => hr k g0 z
      refine j_iload (q := 7) F dX4_greatestReach_5 rfl 4 rfl ?_
      refine j_iload_n (q := 8) F dX4_greatestReach_7 rfl rfl 2 rfl ?_
      refine j_icmp_ge (q := 11) (tgt := 31) F dX4_greatestReach_8 (by decide) rfl ⟨by omega, by omega⟩ ⟨by omega, by omega⟩ (fun h8_1 => ?_) (fun h8_1 => ?_)
      · skip
        refine j_iload_n (q := 32) F dX4_greatestReach_31 rfl rfl 3 rfl ?_
        exact hret _ _ _ _ dX4_greatestReach_32 (by refine ⟨rfl, ?_⟩; rw [g2, show k = t by omega])
      · skip
        refine j_iload_n (q := 12) F dX4_greatestReach_11 rfl rfl 3 rfl ?_
        refine j_aload_n (q := 13) F dX4_greatestReach_12 rfl rfl 0 rfl ?_
        refine j_getR (q := 16) (z := c + 7) (index := 26) F (hc).1 rfl in_X4_greatestReach_4 3 (by decide) rfl fl_X4_greatestReach_26 dX4_greatestReach_13 rfl ?_
        refine j_iload (q := 18) F dX4_greatestReach_16 rfl 4 rfl ?_
        refine j_callVE (q := 21) F [vI k] (ct_X2_get_in l X hX M (c + 7) 24 (c + 8) ((hc).2.2.2.2) (by decide) rfl k (by omega) (by omega)) gX4_greatestReach_X2_get rfl cd_X2_get ⟨by first | exact Nat.le_of_ble_eq_true rfl | (simp only [rm]; omega) | (simp [rm, vI, vR, Value.category]; omega), by first | exact Nat.le_of_ble_eq_true rfl | (simp only [rm]; omega) | (simp [rm, vI, vR, Value.category]; omega), by first | exact Nat.le_of_ble_eq_true rfl | (simp only [rm]; omega) | (simp [rm, vI, vR, Value.category]; omega), by first | exact Nat.le_of_ble_eq_true rfl | (simp only [rm]; omega) | (simp [rm, vI, vR, Value.category]; omega)⟩ ((hc).2.2.2.2).1 rfl rfl rfl (Nat.le_of_ble_eq_true rfl) dX4_greatestReach_18 rfl ?_
        refine j_max (q := 24) F mt_X4_greatestReach_58.1 mt_X4_greatestReach_58.2.1 mt_X4_greatestReach_58.2.2.1 mt_X4_greatestReach_58.2.2.2 ⟨by first | exact Nat.le_of_ble_eq_true rfl | (simp only [rm]; omega) | (simp [rm, vI, vR, Value.category]; omega), by first | exact Nat.le_of_ble_eq_true rfl | (simp only [rm]; omega) | (simp [rm, vI, vR, Value.category]; omega), by first | exact Nat.le_of_ble_eq_true rfl | (simp only [rm]; omega) | (simp [rm, vI, vR, Value.category]; omega), by first | exact Nat.le_of_ble_eq_true rfl | (simp only [rm]; omega) | (simp [rm, vI, vR, Value.category]; omega)⟩ ⟨by omega, by omega⟩ ⟨by omega, by omega⟩ dX4_greatestReach_21 rfl ?_
        refine j_istore_n (q := 25) (lv' := [(0, vR X c), (1, vI f), (2, vI t), (3, vI (max acc (M (c + 8) k))), (4, vI k)]) F dX4_greatestReach_24 rfl rfl (by decide) rfl rfl ?_
        refine j_iinc (q := 28) (lv' := [(0, vR X c), (1, vI f), (2, vI t), (3, vI (max acc (M (c + 8) k))), (4, vI (k + 1))]) F dX4_greatestReach_25 rfl 4 rfl (by decide) rfl rfl ?_
        refine j_goto (q := 5) F dX4_greatestReach_28 (by decide) ?_
        exact ih5 (max acc (M (c + 8) k)) (k + 1) (by omega) (by omega) (by rw [mx_s _ _ g0, if_pos rfl, ← g2]; split <;> omega) (by omega)
  exact LP5 _ 0 f (by omega) (by omega) (by exact (mx_0 _ _ (Int.le_refl _)).symm) (by exact Nat.lt_succ_self _)
theorem cd_X4_greatestReach : yX4_greatestReach.cls = RX4 ∧ yX4_greatestReach.cls ≠ "java/lang/invoke/MethodHandle" ∧ yX4_greatestReach.cls ≠ "java/lang/invoke/VarHandle" ∧ (parseMethodDescriptor yX4_greatestReach.desc).map (fun d => d.parameters.length) = some 2 := by decide +kernel
theorem fl_X4_gapsOfGreatestReach_26 : Cond.fieldLink RX4 26 "WhiteRivers$Sheet" "reaches" "LWhiteRivers$Row;" ∈ wsX4_gapsOfGreatestReach := by decide +kernel
theorem in_X4_gapsOfGreatestReach_4 : ∀ w ∈ u_ws RX4 TX4 4, w ∈ wsX4_gapsOfGreatestReach := by decide +kernel
set_option maxRecDepth 100000 in
set_option maxHeartbeats 400000 in
theorem ct_X4_gapsOfGreatestReach (l : Launch) (X : Cx) (hX : Inj X) (M : Mem) (c : Nat) (hc : isSheet c) (n : Int) (hn : 0 ≤ n ∧ n ≤ 24) (hr : ∀ w, 0 ≤ w → w < n → 0 ≤ M (c + 8) w ∧ M (c + 8) w ≤ 100) : CtI l X yX4_gapsOfGreatestReach wsX4_gapsOfGreatestReach 2 [vR X c, vI n] M (fun x M' => M' = M ∧ x = cnt (fun q => if 0 < mx (fun _ => true) (M (c + 8)) 0 n ∧ M (c + 8) q = mx (fun _ => true) (M (c + 8)) 0 n then 1 else 0) n) := by
  refine CtI_of (cc := cX4_gapsOfGreatestReach) (maxL := 5) hX (by decide +kernel) rfl (Nat.le_of_ble_eq_true rfl) ?_
  intro zp ze zs zm zargs zbelow zmeth zc zQ F hret
  show J zp l ze (rm 2) zs zm zargs zbelow zmeth zc 0 0 zQ zs.heap X 5 M 0 [(0, vR X c), (1, vI n)] []
  refine j_aload_n (q := 1) F dX4_gapsOfGreatestReach_0 rfl rfl 0 rfl ?_
  refine j_iconst (q := 2) F dX4_gapsOfGreatestReach_1 rfl ?_
  refine j_iload_n (q := 3) F dX4_gapsOfGreatestReach_2 rfl rfl 1 rfl ?_
  refine j_callVE (q := 6) F [vI 0, vI n] (ct_X4_greatestReach l X hX M c (hc) 0 n (by omega) (by assumption)) gX4_gapsOfGreatestReach_X4_greatestReach rfl cd_X4_greatestReach ⟨by first | exact Nat.le_of_ble_eq_true rfl | (simp only [rm]; omega) | (simp [rm, vI, vR, Value.category]; omega), by first | exact Nat.le_of_ble_eq_true rfl | (simp only [rm]; omega) | (simp [rm, vI, vR, Value.category]; omega), by first | exact Nat.le_of_ble_eq_true rfl | (simp only [rm]; omega) | (simp [rm, vI, vR, Value.category]; omega), by first | exact Nat.le_of_ble_eq_true rfl | (simp only [rm]; omega) | (simp [rm, vI, vR, Value.category]; omega)⟩ (hc).1 rfl rfl rfl (Nat.le_of_ble_eq_true rfl) dX4_gapsOfGreatestReach_3 rfl ?_
  have hg : 0 ≤ mx (fun _ => true) (M (c + 8)) 0 n ∧ mx (fun _ => true) (M (c + 8)) 0 n ≤ 100 := mx_bd (by omega) (fun w q0 q1 _ => (hr w q0 q1).2)
  refine j_istore_n (q := 7) (lv' := [(0, vR X c), (1, vI n), (2, vI (mx (fun _ => true) (M (c + 8)) 0 n))]) F dX4_gapsOfGreatestReach_6 rfl rfl (by decide) rfl rfl ?_
  refine j_iconst (q := 8) F dX4_gapsOfGreatestReach_7 rfl ?_
  refine j_istore_n (q := 9) (lv' := [(0, vR X c), (1, vI n), (2, vI (mx (fun _ => true) (M (c + 8)) 0 n)), (3, vI 0)]) F dX4_gapsOfGreatestReach_8 rfl rfl (by decide) rfl rfl ?_
  refine j_iconst (q := 10) F dX4_gapsOfGreatestReach_9 rfl ?_
  refine j_istore (q := 12) (lv' := [(0, vR X c), (1, vI n), (2, vI (mx (fun _ => true) (M (c + 8)) 0 n)), (3, vI 0), (4, vI 0)]) F dX4_gapsOfGreatestReach_10 rfl (by decide) rfl rfl ?_
  have LP12 : ∀ (nn : Nat) (acc k : Int), (0 ≤ k) → (k ≤ n) → (acc = cnt (fun q => if 0 < mx (fun _ => true) (M (c + 8)) 0 n ∧ M (c + 8) q = mx (fun _ => true) (M (c + 8)) 0 n then 1 else 0) k) → (n - k).toNat < nn → J zp l ze (rm 2) zs zm zargs zbelow zmeth zc 0 0 zQ zs.heap X 5 M 12 [(0, vR X c), (1, vI n), (2, vI (mx (fun _ => true) (M (c + 8)) 0 n)), (3, vI acc), (4, vI k)] [] := by
    intro nn
    induction nn with
    | zero => intro acc k g0 g1 g2 hm12; exact absurd hm12 (Nat.not_lt_zero _)
    | succ nn ih12 =>
      intro acc k g0 g1 g2 hm12
      have hrk : k < n → 0 ≤ M (c + 8) k ∧ M (c + 8) k ≤ 100 := fun z => hr k g0 z
      refine j_iload (q := 14) F dX4_gapsOfGreatestReach_12 rfl 4 rfl ?_
      refine j_iload_n (q := 15) F dX4_gapsOfGreatestReach_14 rfl rfl 1 rfl ?_
      refine j_icmp_ge (q := 18) (tgt := 44) F dX4_gapsOfGreatestReach_15 (by decide) rfl ⟨by omega, by omega⟩ ⟨by omega, by omega⟩ (fun h15_2 => ?_) (fun h15_2 => ?_)
      · skip
        refine j_iload_n (q := 45) F dX4_gapsOfGreatestReach_44 rfl rfl 3 rfl ?_
        exact hret _ _ _ _ dX4_gapsOfGreatestReach_45 (by refine ⟨rfl, ?_⟩; rw [g2, show k = n by omega])
      · skip
        refine j_iload_n (q := 19) F dX4_gapsOfGreatestReach_18 rfl rfl 2 rfl ?_
        refine j_if_le (q := 22) (tgt := 38) F dX4_gapsOfGreatestReach_19 (by decide) rfl ⟨by omega, by omega⟩ (fun h19_3 => ?_) (fun h19_3 => ?_)
        · skip
          refine j_iinc (q := 41) (lv' := [(0, vR X c), (1, vI n), (2, vI (mx (fun _ => true) (M (c + 8)) 0 n)), (3, vI acc), (4, vI (k + 1))]) F dX4_gapsOfGreatestReach_38 rfl 4 rfl (by decide) rfl rfl ?_
          refine j_goto (q := 12) F dX4_gapsOfGreatestReach_41 (by decide) ?_
          exact ih12 acc (k + 1) (by omega) (by omega) (by rw [cnt_s _ g0]; split <;> omega) (by omega)
        · skip
          refine j_aload_n (q := 23) F dX4_gapsOfGreatestReach_22 rfl rfl 0 rfl ?_
          refine j_getR (q := 26) (z := c + 7) (index := 26) F (hc).1 rfl in_X4_gapsOfGreatestReach_4 3 (by decide) rfl fl_X4_gapsOfGreatestReach_26 dX4_gapsOfGreatestReach_23 rfl ?_
          refine j_iload (q := 28) F dX4_gapsOfGreatestReach_26 rfl 4 rfl ?_
          refine j_callVE (q := 31) F [vI k] (ct_X2_get_in l X hX M (c + 7) 24 (c + 8) ((hc).2.2.2.2) (by decide) rfl k (by omega) (by omega)) gX4_gapsOfGreatestReach_X2_get rfl cd_X2_get ⟨by first | exact Nat.le_of_ble_eq_true rfl | (simp only [rm]; omega) | (simp [rm, vI, vR, Value.category]; omega), by first | exact Nat.le_of_ble_eq_true rfl | (simp only [rm]; omega) | (simp [rm, vI, vR, Value.category]; omega), by first | exact Nat.le_of_ble_eq_true rfl | (simp only [rm]; omega) | (simp [rm, vI, vR, Value.category]; omega), by first | exact Nat.le_of_ble_eq_true rfl | (simp only [rm]; omega) | (simp [rm, vI, vR, Value.category]; omega)⟩ ((hc).2.2.2.2).1 rfl rfl rfl (Nat.le_of_ble_eq_true rfl) dX4_gapsOfGreatestReach_28 rfl ?_
          refine j_iload_n (q := 32) F dX4_gapsOfGreatestReach_31 rfl rfl 2 rfl ?_
          refine j_icmp_ne (q := 35) (tgt := 38) F dX4_gapsOfGreatestReach_32 (by decide) rfl ⟨by omega, by omega⟩ ⟨by omega, by omega⟩ (fun h32_5 => ?_) (fun h32_5 => ?_)
          · skip
            refine j_iinc (q := 41) (lv' := [(0, vR X c), (1, vI n), (2, vI (mx (fun _ => true) (M (c + 8)) 0 n)), (3, vI acc), (4, vI (k + 1))]) F dX4_gapsOfGreatestReach_38 rfl 4 rfl (by decide) rfl rfl ?_
            refine j_goto (q := 12) F dX4_gapsOfGreatestReach_41 (by decide) ?_
            exact ih12 acc (k + 1) (by omega) (by omega) (by rw [cnt_s _ g0]; split <;> omega) (by omega)
          · skip
            refine j_iinc (q := 38) (lv' := [(0, vR X c), (1, vI n), (2, vI (mx (fun _ => true) (M (c + 8)) 0 n)), (3, vI (acc + 1)), (4, vI k)]) F dX4_gapsOfGreatestReach_35 rfl 3 rfl (by decide) rfl rfl ?_
            refine j_iinc (q := 41) (lv' := [(0, vR X c), (1, vI n), (2, vI (mx (fun _ => true) (M (c + 8)) 0 n)), (3, vI (acc + 1)), (4, vI (k + 1))]) F dX4_gapsOfGreatestReach_38 rfl 4 rfl (by decide) rfl rfl ?_
            refine j_goto (q := 12) F dX4_gapsOfGreatestReach_41 (by decide) ?_
            exact ih12 (acc + 1) (k + 1) (by omega) (by omega) (by rw [cnt_s _ g0]; split <;> omega) (by omega)
  exact LP12 _ 0 0 (by omega) (by omega) (by exact (cnt_0 _).symm) (by exact Nat.lt_succ_self _)
theorem cd_X1_lengthOf : yX1_lengthOf.cls = RX1 ∧ yX1_lengthOf.cls ≠ "java/lang/invoke/MethodHandle" ∧ yX1_lengthOf.cls ≠ "java/lang/invoke/VarHandle" ∧ (parseMethodDescriptor yX1_lengthOf.desc).map (fun d => d.parameters.length) = some 1 := by decide +kernel
theorem fl_X4_placeWords_14 : Cond.fieldLink RX4 14 "WhiteRivers$Sheet" "columns" "LWhiteRivers$Row;" ∈ wsX4_placeWords := by decide +kernel
theorem fl_X4_placeWords_20 : Cond.fieldLink RX4 20 "WhiteRivers$Sheet" "gapColumns" "LWhiteRivers$Row;" ∈ wsX4_placeWords := by decide +kernel
theorem fl_X4_placeWords_23 : Cond.fieldLink RX4 23 "WhiteRivers$Sheet" "gapWidths" "LWhiteRivers$Row;" ∈ wsX4_placeWords := by decide +kernel
theorem fl_X4_placeWords_33 : Cond.fieldLink RX4 33 "WhiteRivers$Page" "words" "I" ∈ wsX4_placeWords := by decide +kernel
theorem in_X4_placeWords_1 : ∀ w ∈ u_ws RX1 TX1 6, w ∈ wsX4_placeWords := by decide +kernel
theorem in_X4_placeWords_4 : ∀ w ∈ u_ws RX4 TX4 4, w ∈ wsX4_placeWords := by decide +kernel
set_option maxRecDepth 100000 in
set_option maxHeartbeats 1000000 in
theorem ct_X4_placeWords (l : Launch) (X : Cx) (hX : Inj X) (M : Mem) (c : Nat) (hc : isSheet c) (u : Nat) (hu : isPage u) (huc : u + 7 ≤ c) (i j : Int) (hij : 0 ≤ i ∧ i < j ∧ j ≤ M u 2 ∧ M u 2 ≤ 24) (hL : ∀ w, 0 ≤ w → w < 24 → 0 ≤ M (u + 2) w ∧ M (u + 2) w ≤ 8) (hW : 0 ≤ M u 0 ∧ M u 0 ≤ 40) (hfit : j = M u 2 ∨ 0 ≤ exF (M (u + 2)) (M u 0) i j) : CtV l X yX4_placeWords wsX4_placeWords 2 [vR X c, vR X u, vI i, vI j] M (fun M' => PWk M M' c (M (u + 2)) (lexF (M (u + 2)) (M u 0) (M u 2) i j) i j j) := by
  refine CtV_of (cc := cX4_placeWords) (maxL := 11) hX (by decide +kernel) rfl (Nat.le_of_ble_eq_true rfl) ?_
  intro zp ze zs zm zargs zbelow zmeth zc zQ F hret
  show J zp l ze (rm 2) zs zm zargs zbelow zmeth zc 0 0 zQ zs.heap X 11 M 0 [(0, vR X c), (1, vR X u), (2, vI i), (3, vI j)] []
  refine j_iload_n (q := 1) F dX4_placeWords_0 rfl rfl 3 rfl ?_
  refine j_iload_n (q := 2) F dX4_placeWords_1 rfl rfl 2 rfl ?_
  refine j_isub (q := 3) (z := j - i) F dX4_placeWords_2 rfl rfl ?_
  refine j_iconst (q := 4) F dX4_placeWords_3 rfl ?_
  refine j_isub (q := 5) (z := (j - i) - 1) F dX4_placeWords_4 rfl rfl ?_
  refine j_istore (q := 7) (lv' := [(0, vR X c), (1, vR X u), (2, vI i), (3, vI j), (4, vI ((j - i) - 1))]) F dX4_placeWords_5 rfl (by decide) rfl rfl ?_
  have CUT27 : ∀ (x : Int), (x = lexF (M (u + 2)) (M u 0) (M u 2) i j) → (0 ≤ x ∧ x ≤ 41) → J zp l ze (rm 2) zs zm zargs zbelow zmeth zc 0 0 zQ zs.heap X 11 M 27 [(0, vR X c), (1, vR X u), (2, vI i), (3, vI j), (4, vI ((j - i) - 1)), (5, vI x)] [] := by
    intro x hx hxb
    have CUT43 : ∀ (each : Int), (each = if 0 < j - i - 1 then x / (j - i - 1) else 0) → J zp l ze (rm 2) zs zm zargs zbelow zmeth zc 0 0 zQ zs.heap X 11 M 43 [(0, vR X c), (1, vR X u), (2, vI i), (3, vI j), (4, vI ((j - i) - 1)), (5, vI x), (6, vI each)] [] := by
      intro each he
      have CUT59 : ∀ (y : Int), (y = if 0 < j - i - 1 then x % (j - i - 1) else 0) → (0 ≤ y ∧ y ≤ 30) → J zp l ze (rm 2) zs zm zargs zbelow zmeth zc 0 0 zQ zs.heap X 11 M 59 [(0, vR X c), (1, vR X u), (2, vI i), (3, vI j), (4, vI ((j - i) - 1)), (5, vI x), (6, vI each), (7, vI y)] [] := by
        intro y hy hyb
        refine j_iconst (q := 60) F dX4_placeWords_59 rfl ?_
        refine j_istore (q := 62) (lv' := [(0, vR X c), (1, vR X u), (2, vI i), (3, vI j), (4, vI ((j - i) - 1)), (5, vI x), (6, vI each), (7, vI y), (8, vI 0)]) F dX4_placeWords_60 rfl (by decide) rfl rfl ?_
        refine j_iload_n (q := 63) F dX4_placeWords_62 rfl rfl 2 rfl ?_
        refine j_istore (q := 65) (lv' := [(0, vR X c), (1, vR X u), (2, vI i), (3, vI j), (4, vI ((j - i) - 1)), (5, vI x), (6, vI each), (7, vI y), (8, vI 0), (9, vI i)]) F dX4_placeWords_63 rfl (by decide) rfl rfl ?_
        have LP65 : ∀ (nn : Nat) (col k : Int) (Mq : Mem), (i ≤ k) → (k ≤ j) → (col = colF (M (u + 2)) x i j k) → (PWk M Mq c (M (u + 2)) x i j k) → (j - k).toNat < nn → J zp l ze (rm 2) zs zm zargs zbelow zmeth zc 0 0 zQ zs.heap X 11 Mq 65 [(0, vR X c), (1, vR X u), (2, vI i), (3, vI j), (4, vI ((j - i) - 1)), (5, vI x), (6, vI each), (7, vI y), (8, vI col), (9, vI k)] [] := by
          intro nn
          induction nn with
          | zero => intro col k Mq g0 g1 g2 hP hm65; exact absurd hm65 (Nat.not_lt_zero _)
          | succ nn ih65 =>
            intro col k Mq g0 g1 g2 hP hm65
            refine j_iload (q := 67) F dX4_placeWords_65 rfl 9 rfl ?_
            refine j_iload_n (q := 68) F dX4_placeWords_67 rfl rfl 3 rfl ?_
            refine j_icmp_ge (q := 71) (tgt := 160) F dX4_placeWords_68 (by decide) rfl ⟨by omega, by omega⟩ ⟨by omega, by omega⟩ (fun h68_1 => ?_) (fun h68_1 => ?_)
            · skip
              exact hret _ _ _ dX4_placeWords_160 (by rw [← hx]; exact (show k = j by omega) ▸ hP)
            · skip
              refine j_iconst (q := 72) F dX4_placeWords_71 rfl ?_
              refine j_istore (q := 74) (lv' := [(0, vR X c), (1, vR X u), (2, vI i), (3, vI j), (4, vI ((j - i) - 1)), (5, vI x), (6, vI each), (7, vI y), (8, vI col), (9, vI k), (10, vI 0)]) F dX4_placeWords_72 rfl (by decide) rfl rfl ?_
              have CUT103 : ∀ (wd : Int), (wd = wdF x i j k) → J zp l ze (rm 2) zs zm zargs zbelow zmeth zc 0 0 zQ zs.heap X 11 Mq 103 [(0, vR X c), (1, vR X u), (2, vI i), (3, vI j), (4, vI ((j - i) - 1)), (5, vI x), (6, vI each), (7, vI y), (8, vI col), (9, vI k), (10, vI wd)] [] := by
                intro wd hwd
                refine j_aload_n (q := 104) F dX4_placeWords_103 rfl rfl 0 rfl ?_
                refine j_getR (q := 107) (z := c + 1) (index := 14) F (hc).1 rfl in_X4_placeWords_4 0 (by decide) rfl fl_X4_placeWords_14 dX4_placeWords_104 rfl ?_
                refine j_iload (q := 109) F dX4_placeWords_107 rfl 9 rfl ?_
                refine j_iload (q := 111) F dX4_placeWords_109 rfl 8 rfl ?_
                refine j_callVM (q := 114) F [vI k, vI col] (ct_X2_set_in l X hX Mq (c + 1) 24 (c + 2) ((hc).2.1) (by decide) rfl k col (by omega) (by omega)) gX4_placeWords_X2_set rfl cd_X2_set ⟨by first | exact Nat.le_of_ble_eq_true rfl | (simp only [rm]; omega) | (simp [rm, vI, vR, Value.category]; omega), by first | exact Nat.le_of_ble_eq_true rfl | (simp only [rm]; omega) | (simp [rm, vI, vR, Value.category]; omega), by first | exact Nat.le_of_ble_eq_true rfl | (simp only [rm]; omega) | (simp [rm, vI, vR, Value.category]; omega), by first | exact Nat.le_of_ble_eq_true rfl | (simp only [rm]; omega) | (simp [rm, vI, vR, Value.category]; omega)⟩ ((hc).2.1).1 rfl rfl rfl (Nat.le_of_ble_eq_true rfl) dX4_placeWords_111 rfl ?_
                refine j_iload (q := 116) F dX4_placeWords_114 rfl 8 rfl ?_
                refine j_aload_n (q := 117) F dX4_placeWords_116 rfl rfl 1 rfl ?_
                refine j_iload (q := 119) F dX4_placeWords_117 rfl 9 rfl ?_
                refine j_callVE (q := 122) F [vI k] (ct_X1_lengthOf l X hX (mset Mq (c + 2) k col) u (hu) k (by omega) (by omega)) gX4_placeWords_X1_lengthOf rfl cd_X1_lengthOf ⟨by first | exact Nat.le_of_ble_eq_true rfl | (simp only [rm]; omega) | (simp [rm, vI, vR, Value.category]; omega), by first | exact Nat.le_of_ble_eq_true rfl | (simp only [rm]; omega) | (simp [rm, vI, vR, Value.category]; omega), by first | exact Nat.le_of_ble_eq_true rfl | (simp only [rm]; omega) | (simp [rm, vI, vR, Value.category]; omega), by first | exact Nat.le_of_ble_eq_true rfl | (simp only [rm]; omega) | (simp [rm, vI, vR, Value.category]; omega)⟩ (hu).1 rfl rfl rfl (Nat.le_of_ble_eq_true rfl) dX4_placeWords_119 rfl ?_
                rw [show (mset Mq (c + 2) k col) (u + 2) k = M (u + 2) k from by rw [mset_nef (by omega), hP.2.2 (u + 2) (by omega) (by omega) (by omega)]]
                refine j_iadd (q := 123) (z := col + (M (u + 2) k)) F dX4_placeWords_122 rfl rfl ?_
                refine j_istore (q := 125) (lv' := [(0, vR X c), (1, vR X u), (2, vI i), (3, vI j), (4, vI ((j - i) - 1)), (5, vI x), (6, vI each), (7, vI y), (8, vI (col + (M (u + 2) k))), (9, vI k), (10, vI wd)]) F dX4_placeWords_123 rfl (by decide) rfl rfl ?_
                refine j_aload_n (q := 126) F dX4_placeWords_125 rfl rfl 0 rfl ?_
                refine j_getR (q := 129) (z := c + 3) (index := 20) F (hc).1 rfl in_X4_placeWords_4 1 (by decide) rfl fl_X4_placeWords_20 dX4_placeWords_126 rfl ?_
                refine j_iload (q := 131) F dX4_placeWords_129 rfl 9 rfl ?_
                refine j_iload (q := 133) F dX4_placeWords_131 rfl 8 rfl ?_
                refine j_callVM (q := 136) F [vI k, vI (col + (M (u + 2) k))] (ct_X2_set_in l X hX (mset Mq (c + 2) k col) (c + 3) 24 (c + 4) ((hc).2.2.1) (by decide) rfl k (col + (M (u + 2) k)) (by omega) (by omega)) gX4_placeWords_X2_set rfl cd_X2_set ⟨by first | exact Nat.le_of_ble_eq_true rfl | (simp only [rm]; omega) | (simp [rm, vI, vR, Value.category]; omega), by first | exact Nat.le_of_ble_eq_true rfl | (simp only [rm]; omega) | (simp [rm, vI, vR, Value.category]; omega), by first | exact Nat.le_of_ble_eq_true rfl | (simp only [rm]; omega) | (simp [rm, vI, vR, Value.category]; omega), by first | exact Nat.le_of_ble_eq_true rfl | (simp only [rm]; omega) | (simp [rm, vI, vR, Value.category]; omega)⟩ ((hc).2.2.1).1 rfl rfl rfl (Nat.le_of_ble_eq_true rfl) dX4_placeWords_133 rfl ?_
                refine j_aload_n (q := 137) F dX4_placeWords_136 rfl rfl 0 rfl ?_
                refine j_getR (q := 140) (z := c + 5) (index := 23) F (hc).1 rfl in_X4_placeWords_4 2 (by decide) rfl fl_X4_placeWords_23 dX4_placeWords_137 rfl ?_
                refine j_iload (q := 142) F dX4_placeWords_140 rfl 9 rfl ?_
                refine j_iload (q := 144) F dX4_placeWords_142 rfl 10 rfl ?_
                refine j_callVM (q := 147) F [vI k, vI wd] (ct_X2_set_in l X hX (mset (mset Mq (c + 2) k col) (c + 4) k (col + (M (u + 2) k))) (c + 5) 24 (c + 6) ((hc).2.2.2.1) (by decide) rfl k wd (by omega) (by omega)) gX4_placeWords_X2_set rfl cd_X2_set ⟨by first | exact Nat.le_of_ble_eq_true rfl | (simp only [rm]; omega) | (simp [rm, vI, vR, Value.category]; omega), by first | exact Nat.le_of_ble_eq_true rfl | (simp only [rm]; omega) | (simp [rm, vI, vR, Value.category]; omega), by first | exact Nat.le_of_ble_eq_true rfl | (simp only [rm]; omega) | (simp [rm, vI, vR, Value.category]; omega), by first | exact Nat.le_of_ble_eq_true rfl | (simp only [rm]; omega) | (simp [rm, vI, vR, Value.category]; omega)⟩ ((hc).2.2.2.1).1 rfl rfl rfl (Nat.le_of_ble_eq_true rfl) dX4_placeWords_144 rfl ?_
                refine j_iload (q := 149) F dX4_placeWords_147 rfl 8 rfl ?_
                refine j_iload (q := 151) F dX4_placeWords_149 rfl 10 rfl ?_
                refine j_iadd (q := 152) (z := (col + (M (u + 2) k)) + wd) F dX4_placeWords_151 rfl rfl ?_
                refine j_istore (q := 154) (lv' := [(0, vR X c), (1, vR X u), (2, vI i), (3, vI j), (4, vI ((j - i) - 1)), (5, vI x), (6, vI each), (7, vI y), (8, vI ((col + (M (u + 2) k)) + wd)), (9, vI k), (10, vI wd)]) F dX4_placeWords_152 rfl (by decide) rfl rfl ?_
                refine j_iinc (q := 157) (lv' := [(0, vR X c), (1, vR X u), (2, vI i), (3, vI j), (4, vI ((j - i) - 1)), (5, vI x), (6, vI each), (7, vI y), (8, vI ((col + (M (u + 2) k)) + wd)), (9, vI (k + 1)), (10, vI wd)]) F dX4_placeWords_154 rfl 9 rfl (by decide) rfl rfl ?_
                refine j_goto (q := 65) F dX4_placeWords_157 (by decide) ?_
                refine j_sub (lv' := [(0, vR X c), (1, vR X u), (2, vI i), (3, vI j), (4, vI ((j - i) - 1)), (5, vI x), (6, vI each), (7, vI y), (8, vI ((col + (M (u + 2) k)) + wd)), (9, vI (k + 1))]) [0, 1, 2, 3, 4, 5, 6, 7, 8, 9] rfl ?_
                exact ih65 ((col + (M (u + 2) k)) + wd) (k + 1) (mset (mset (mset Mq (c + 2) k col) (c + 4) k (col + (M (u + 2) k))) (c + 6) k wd) (by omega) (by omega) (by rw [colF_s _ _ _ _ g0, ← g2, ← hwd]) (by exact hP.step g0 g2 rfl hwd) (by omega)
              refine j_iload (q := 76) F dX4_placeWords_74 rfl 9 rfl ?_
              refine j_iload_n (q := 77) F dX4_placeWords_76 rfl rfl 3 rfl ?_
              refine j_iconst (q := 78) F dX4_placeWords_77 rfl ?_
              refine j_isub (q := 79) (z := j - 1) F dX4_placeWords_78 rfl rfl ?_
              refine j_icmp_ge (q := 82) (tgt := 103) F dX4_placeWords_79 (by decide) rfl ⟨by omega, by omega⟩ ⟨by omega, by omega⟩ (fun h79_6 => ?_) (fun h79_6 => ?_)
              · skip
                exact CUT103 0 (by unfold wdF; rw [if_neg (by omega)])
              · skip
                refine j_iconst (q := 83) F dX4_placeWords_82 rfl ?_
                refine j_iload (q := 85) F dX4_placeWords_83 rfl 6 rfl ?_
                refine j_iadd (q := 86) (z := 1 + each) F dX4_placeWords_85 rfl rfl ?_
                refine j_iload (q := 88) F dX4_placeWords_86 rfl 9 rfl ?_
                refine j_iload_n (q := 89) F dX4_placeWords_88 rfl rfl 2 rfl ?_
                refine j_isub (q := 90) (z := k - i) F dX4_placeWords_89 rfl rfl ?_
                refine j_iload (q := 92) F dX4_placeWords_90 rfl 7 rfl ?_
                refine j_icmp_ge (q := 95) (tgt := 99) F dX4_placeWords_92 (by decide) rfl ⟨by omega, by omega⟩ ⟨by omega, by omega⟩ (fun h92_7 => ?_) (fun h92_7 => ?_)
                · skip
                  refine j_iconst (q := 100) F dX4_placeWords_99 rfl ?_
                  refine j_iadd (q := 101) (z := (1 + each) + 0) F dX4_placeWords_100 rfl rfl ?_
                  refine j_istore (q := 103) (lv' := [(0, vR X c), (1, vR X u), (2, vI i), (3, vI j), (4, vI ((j - i) - 1)), (5, vI x), (6, vI each), (7, vI y), (8, vI col), (9, vI k), (10, vI ((1 + each) + 0))]) F dX4_placeWords_101 rfl (by decide) rfl rfl ?_
                  exact CUT103 ((1 + each) + 0) (by rw [if_pos (by omega)] at he hy; unfold wdF gwF; rw [if_pos (by omega), ← he, ← hy, if_neg (by omega)])
                · skip
                  refine j_iconst (q := 96) F dX4_placeWords_95 rfl ?_
                  refine j_goto (q := 100) F dX4_placeWords_96 (by decide) ?_
                  refine j_iadd (q := 101) (z := (1 + each) + 1) F dX4_placeWords_100 rfl rfl ?_
                  refine j_istore (q := 103) (lv' := [(0, vR X c), (1, vR X u), (2, vI i), (3, vI j), (4, vI ((j - i) - 1)), (5, vI x), (6, vI each), (7, vI y), (8, vI col), (9, vI k), (10, vI ((1 + each) + 1))]) F dX4_placeWords_101 rfl (by decide) rfl rfl ?_
                  exact CUT103 ((1 + each) + 1) (by rw [if_pos (by omega)] at he hy; unfold wdF gwF; rw [if_pos (by omega), ← he, ← hy, if_pos (by omega)])
        exact LP65 _ 0 i M (by omega) (by omega) (by exact (colF_0 _ _ _ _).symm) (by exact PWk.start M c _ _ _ _) (by exact Nat.lt_succ_self _)
      refine j_iload (q := 45) F dX4_placeWords_43 rfl 4 rfl ?_
      refine j_if_le (q := 48) (tgt := 56) F dX4_placeWords_45 (by decide) rfl ⟨by omega, by omega⟩ (fun h45_8 => ?_) (fun h45_8 => ?_)
      · skip
        refine j_iconst (q := 57) F dX4_placeWords_56 rfl ?_
        refine j_istore (q := 59) (lv' := [(0, vR X c), (1, vR X u), (2, vI i), (3, vI j), (4, vI ((j - i) - 1)), (5, vI x), (6, vI each), (7, vI 0)]) F dX4_placeWords_57 rfl (by decide) rfl rfl ?_
        exact CUT59 0 (by rw [if_neg (by omega)]) (by omega)
      · skip
        refine j_iload (q := 50) F dX4_placeWords_48 rfl 5 rfl ?_
        refine j_iload (q := 52) F dX4_placeWords_50 rfl 4 rfl ?_
        refine j_irem (q := 53) F dX4_placeWords_52 rfl ⟨by omega, by omega⟩ ⟨by omega, by omega⟩ ?_
        refine j_goto (q := 57) F dX4_placeWords_53 (by decide) ?_
        refine j_istore (q := 59) (lv' := [(0, vR X c), (1, vR X u), (2, vI i), (3, vI j), (4, vI ((j - i) - 1)), (5, vI x), (6, vI each), (7, vI (x % ((j - i) - 1)))]) F dX4_placeWords_57 rfl (by decide) rfl rfl ?_
        exact CUT59 (x % ((j - i) - 1)) (by rw [if_pos (by omega)]) (by have q1 := Int.emod_nonneg x (show j - i - 1 ≠ 0 by omega); have q2 := Int.emod_lt_of_pos x (show 0 < j - i - 1 by omega); omega)
    refine j_iload (q := 29) F dX4_placeWords_27 rfl 4 rfl ?_
    refine j_if_le (q := 32) (tgt := 40) F dX4_placeWords_29 (by decide) rfl ⟨by omega, by omega⟩ (fun h29_9 => ?_) (fun h29_9 => ?_)
    · skip
      refine j_iconst (q := 41) F dX4_placeWords_40 rfl ?_
      refine j_istore (q := 43) (lv' := [(0, vR X c), (1, vR X u), (2, vI i), (3, vI j), (4, vI ((j - i) - 1)), (5, vI x), (6, vI 0)]) F dX4_placeWords_41 rfl (by decide) rfl rfl ?_
      exact CUT43 0 (by rw [if_neg (by omega)])
    · skip
      refine j_iload (q := 34) F dX4_placeWords_32 rfl 5 rfl ?_
      refine j_iload (q := 36) F dX4_placeWords_34 rfl 4 rfl ?_
      refine j_idiv (q := 37) F dX4_placeWords_36 rfl ⟨by omega, by omega⟩ ⟨by omega, by omega⟩ ?_
      refine j_goto (q := 41) F dX4_placeWords_37 (by decide) ?_
      refine j_istore (q := 43) (lv' := [(0, vR X c), (1, vR X u), (2, vI i), (3, vI j), (4, vI ((j - i) - 1)), (5, vI x), (6, vI (x / ((j - i) - 1)))]) F dX4_placeWords_41 rfl (by decide) rfl rfl ?_
      exact CUT43 (x / ((j - i) - 1)) (by rw [if_pos (by omega)])
  refine j_iload_n (q := 8) F dX4_placeWords_7 rfl rfl 3 rfl ?_
  refine j_aload_n (q := 9) F dX4_placeWords_8 rfl rfl 1 rfl ?_
  refine j_getI (q := 12) (i := 2) (index := 33) F (hu).1 rfl in_X4_placeWords_1 2 (by decide) rfl rfl fl_X4_placeWords_33 dX4_placeWords_9 rfl ?_
  refine j_icmp_lt (q := 15) (tgt := 19) F dX4_placeWords_12 (by decide) rfl ⟨by omega, by omega⟩ ⟨by omega, by omega⟩ (fun h12_10 => ?_) (fun h12_10 => ?_)
  · skip
    refine j_aload_n (q := 20) F dX4_placeWords_19 rfl rfl 1 rfl ?_
    refine j_iload_n (q := 21) F dX4_placeWords_20 rfl rfl 2 rfl ?_
    refine j_iload_n (q := 22) F dX4_placeWords_21 rfl rfl 3 rfl ?_
    refine j_callVE (q := 25) F [vI i, vI j] (ct_X1_extra l X hX M u (hu) i j (by omega) (by omega) (by omega)) gX4_placeWords_X1_extra rfl cd_X1_extra ⟨by first | exact Nat.le_of_ble_eq_true rfl | (simp only [rm]; omega) | (simp [rm, vI, vR, Value.category]; omega), by first | exact Nat.le_of_ble_eq_true rfl | (simp only [rm]; omega) | (simp [rm, vI, vR, Value.category]; omega), by first | exact Nat.le_of_ble_eq_true rfl | (simp only [rm]; omega) | (simp [rm, vI, vR, Value.category]; omega), by first | exact Nat.le_of_ble_eq_true rfl | (simp only [rm]; omega) | (simp [rm, vI, vR, Value.category]; omega)⟩ (hu).1 rfl rfl rfl (Nat.le_of_ble_eq_true rfl) dX4_placeWords_22 rfl ?_
    refine j_istore (q := 27) (lv' := [(0, vR X c), (1, vR X u), (2, vI i), (3, vI j), (4, vI ((j - i) - 1)), (5, vI (exF (M (u + 2)) (M u 0) i j))]) F dX4_placeWords_25 rfl (by decide) rfl rfl ?_
    exact CUT27 (exF (M (u + 2)) (M u 0) i j) (by unfold lexF; rw [if_neg (by omega)]) (by have := exF_bd (f := i) (t := j) hL hW (by omega) (by omega) (by omega); omega)
  · skip
    refine j_iconst (q := 16) F dX4_placeWords_15 rfl ?_
    refine j_goto (q := 25) F dX4_placeWords_16 (by decide) ?_
    refine j_istore (q := 27) (lv' := [(0, vR X c), (1, vR X u), (2, vI i), (3, vI j), (4, vI ((j - i) - 1)), (5, vI 0)]) F dX4_placeWords_25 rfl (by decide) rfl rfl ?_
    exact CUT27 0 (by unfold lexF; rw [if_pos (by omega)]) (by omega)
theorem cd_X4_placeWords : yX4_placeWords.cls = RX4 ∧ yX4_placeWords.cls ≠ "java/lang/invoke/MethodHandle" ∧ yX4_placeWords.cls ≠ "java/lang/invoke/VarHandle" ∧ (parseMethodDescriptor yX4_placeWords.desc).map (fun d => d.parameters.length) = some 3 := by decide +kernel
theorem cd_X4_reachAbove : yX4_reachAbove.cls = RX4 ∧ yX4_reachAbove.cls ≠ "java/lang/invoke/MethodHandle" ∧ yX4_reachAbove.cls ≠ "java/lang/invoke/VarHandle" ∧ (parseMethodDescriptor yX4_reachAbove.desc).map (fun d => d.parameters.length) = some 3 := by decide +kernel
theorem fl_X4_layLine_26 : Cond.fieldLink RX4 26 "WhiteRivers$Sheet" "reaches" "LWhiteRivers$Row;" ∈ wsX4_layLine := by decide +kernel
theorem in_X4_layLine_4 : ∀ w ∈ u_ws RX4 TX4 4, w ∈ wsX4_layLine := by decide +kernel
theorem mt_X4_layLine_58 : Cond.methodLink RX4 58 Lib.Math.max.name ∈ wsX4_layLine ∧ Cond.static Lib.Math.max.name ∈ wsX4_layLine ∧ Cond.initialized "java/lang/Math" ∈ wsX4_layLine ∧ Cond.code Lib.Math.max.name Lib.Math.max.code 2 (some .int) ∈ wsX4_layLine := by decide +kernel
set_option maxRecDepth 100000 in
set_option maxHeartbeats 1000000 in
theorem ct_X4_layLine (l : Launch) (X : Cx) (hX : Inj X) (M : Mem) (c : Nat) (hc : isSheet c) (u : Nat) (hu : isPage u) (huc : u + 7 ≤ c) (i j : Int) (hij : 0 ≤ i ∧ i < j ∧ j ≤ M u 2 ∧ M u 2 ≤ 24) (hL : ∀ w, 0 ≤ w → w < 24 → 0 ≤ M (u + 2) w ∧ M (u + 2) w ≤ 8) (hW : 0 ≤ M u 0 ∧ M u 0 ≤ 40) (hfit : j = M u 2 ∨ 0 ≤ exF (M (u + 2)) (M u 0) i j) (hsb : SBd M c) (p : Int) (hp : 0 ≤ p ∧ p ≤ i) (hr : ∀ w, p ≤ w → w < i → 0 ≤ M (c + 8) w ∧ M (c + 8) w ≤ 50) : CtI l X yX4_layLine wsX4_layLine 3 [vR X c, vR X u, vI p, vI i, vI j] M (fun r M' => LayP M M' c (M (u + 2)) (lexF (M (u + 2)) (M u 0) (M u 2) i j) p i j r) := by
  refine CtI_of (cc := cX4_layLine) (maxL := 8) hX (by decide +kernel) rfl (Nat.le_of_ble_eq_true rfl) ?_
  intro zp ze zs zm zargs zbelow zmeth zc zQ F hret
  show J zp l ze (rm 3) zs zm zargs zbelow zmeth zc 0 0 zQ zs.heap X 8 M 0 [(0, vR X c), (1, vR X u), (2, vI p), (3, vI i), (4, vI j)] []
  refine j_aload_n (q := 1) F dX4_layLine_0 rfl rfl 0 rfl ?_
  refine j_aload_n (q := 2) F dX4_layLine_1 rfl rfl 1 rfl ?_
  refine j_iload_n (q := 3) F dX4_layLine_2 rfl rfl 3 rfl ?_
  refine j_iload (q := 5) F dX4_layLine_3 rfl 4 rfl ?_
  refine j_callVV (q := 8) F [vR X u, vI i, vI j] (ct_X4_placeWords l X hX M c (hc) u (hu) (by omega) i j (by omega) (by assumption) (by omega) (by assumption)) gX4_layLine_X4_placeWords rfl cd_X4_placeWords ⟨by first | exact Nat.le_of_ble_eq_true rfl | (simp only [rm]; omega) | (simp [rm, vI, vR, Value.category]; omega), by first | exact Nat.le_of_ble_eq_true rfl | (simp only [rm]; omega) | (simp [rm, vI, vR, Value.category]; omega), by first | exact Nat.le_of_ble_eq_true rfl | (simp only [rm]; omega) | (simp [rm, vI, vR, Value.category]; omega), by first | exact Nat.le_of_ble_eq_true rfl | (simp only [rm]; omega) | (simp [rm, vI, vR, Value.category]; omega)⟩ (hc).1 rfl rfl rfl (Nat.le_of_ble_eq_true rfl) dX4_layLine_5 rfl (fun Mr hPW => ?_)
  have hxb : 0 ≤ lexF (M (u + 2)) (M u 0) (M u 2) i j ∧ lexF (M (u + 2)) (M u 0) (M u 2) i j ≤ 41 := by unfold lexF; have := exF_bd (f := i) (t := j) hL hW (by omega) (by omega) (by omega); split <;> omega
  have hsr : SBd Mr c := hPW.bd hsb hxb hL (by omega)
  have e8 : Mr (c + 8) = M (c + 8) := hPW.2.2 (c + 8) (by omega) (by omega) (by omega)
  refine j_iconst (q := 9) F dX4_layLine_8 rfl ?_
  refine j_istore (q := 11) (lv' := [(0, vR X c), (1, vR X u), (2, vI p), (3, vI i), (4, vI j), (5, vI 0)]) F dX4_layLine_9 rfl (by decide) rfl rfl ?_
  refine j_iload_n (q := 12) F dX4_layLine_11 rfl rfl 3 rfl ?_
  refine j_istore (q := 14) (lv' := [(0, vR X c), (1, vR X u), (2, vI p), (3, vI i), (4, vI j), (5, vI 0), (6, vI i)]) F dX4_layLine_12 rfl (by decide) rfl rfl ?_
  have LP14 : ∀ (nn : Nat) (acc k : Int) (Mq : Mem), (i ≤ k) → (k ≤ j) → (acc = mx (fun _ => true) (RLv Mr c p i j) i k) → (0 ≤ acc ∧ acc ≤ 51) → (RLk Mr Mq c p i j k) → (j - k).toNat < nn → J zp l ze (rm 3) zs zm zargs zbelow zmeth zc 0 0 zQ zs.heap X 8 Mq 14 [(0, vR X c), (1, vR X u), (2, vI p), (3, vI i), (4, vI j), (5, vI acc), (6, vI k)] [] := by
    intro nn
    induction nn with
    | zero => intro acc k Mq g0 g1 g2 g3 hR hm14; exact absurd hm14 (Nat.not_lt_zero _)
    | succ nn ih14 =>
      intro acc k Mq g0 g1 g2 g3 hR hm14
      have hsq : SBd Mq c := by unfold SBd; rw [hR.2.2 (c + 4) (by omega), hR.2.2 (c + 6) (by omega)]; exact hsr
      refine j_iload (q := 16) F dX4_layLine_14 rfl 6 rfl ?_
      refine j_iload (q := 18) F dX4_layLine_16 rfl 4 rfl ?_
      refine j_icmp_ge (q := 21) (tgt := 71) F dX4_layLine_18 (by decide) rfl ⟨by omega, by omega⟩ ⟨by omega, by omega⟩ (fun h18_2 => ?_) (fun h18_2 => ?_)
      · skip
        refine j_iload (q := 73) F dX4_layLine_71 rfl 5 rfl ?_
        exact hret _ _ _ _ dX4_layLine_73 (by refine ⟨Mr, hPW, (show k = j by omega) ▸ hR, ?_⟩; rw [g2, show k = j by omega])
      · skip
        refine j_iconst (q := 22) F dX4_layLine_21 rfl ?_
        refine j_istore (q := 24) (lv' := [(0, vR X c), (1, vR X u), (2, vI p), (3, vI i), (4, vI j), (5, vI acc), (6, vI k), (7, vI 0)]) F dX4_layLine_22 rfl (by decide) rfl rfl ?_
        have CUT45 : ∀ (y : Int), (y = RLv Mr c p i j k) → (0 ≤ y ∧ y ≤ 51) → J zp l ze (rm 3) zs zm zargs zbelow zmeth zc 0 0 zQ zs.heap X 8 Mq 45 [(0, vR X c), (1, vR X u), (2, vI p), (3, vI i), (4, vI j), (5, vI acc), (6, vI k), (7, vI y)] [] := by
          intro y hy hyb
          refine j_aload_n (q := 46) F dX4_layLine_45 rfl rfl 0 rfl ?_
          refine j_getR (q := 49) (z := c + 7) (index := 26) F (hc).1 rfl in_X4_layLine_4 3 (by decide) rfl fl_X4_layLine_26 dX4_layLine_46 rfl ?_
          refine j_iload (q := 51) F dX4_layLine_49 rfl 6 rfl ?_
          refine j_iload (q := 53) F dX4_layLine_51 rfl 7 rfl ?_
          refine j_callVM (q := 56) F [vI k, vI y] (ct_X2_set_in l X hX Mq (c + 7) 24 (c + 8) ((hc).2.2.2.2) (by decide) rfl k y (by omega) (by omega)) gX4_layLine_X2_set rfl cd_X2_set ⟨by first | exact Nat.le_of_ble_eq_true rfl | (simp only [rm]; omega) | (simp [rm, vI, vR, Value.category]; omega), by first | exact Nat.le_of_ble_eq_true rfl | (simp only [rm]; omega) | (simp [rm, vI, vR, Value.category]; omega), by first | exact Nat.le_of_ble_eq_true rfl | (simp only [rm]; omega) | (simp [rm, vI, vR, Value.category]; omega), by first | exact Nat.le_of_ble_eq_true rfl | (simp only [rm]; omega) | (simp [rm, vI, vR, Value.category]; omega)⟩ ((hc).2.2.2.2).1 rfl rfl rfl (Nat.le_of_ble_eq_true rfl) dX4_layLine_53 rfl ?_
          refine j_iload (q := 58) F dX4_layLine_56 rfl 5 rfl ?_
          refine j_iload (q := 60) F dX4_layLine_58 rfl 7 rfl ?_
          refine j_max (q := 63) F mt_X4_layLine_58.1 mt_X4_layLine_58.2.1 mt_X4_layLine_58.2.2.1 mt_X4_layLine_58.2.2.2 ⟨by first | exact Nat.le_of_ble_eq_true rfl | (simp only [rm]; omega) | (simp [rm, vI, vR, Value.category]; omega), by first | exact Nat.le_of_ble_eq_true rfl | (simp only [rm]; omega) | (simp [rm, vI, vR, Value.category]; omega), by first | exact Nat.le_of_ble_eq_true rfl | (simp only [rm]; omega) | (simp [rm, vI, vR, Value.category]; omega), by first | exact Nat.le_of_ble_eq_true rfl | (simp only [rm]; omega) | (simp [rm, vI, vR, Value.category]; omega)⟩ ⟨by omega, by omega⟩ ⟨by omega, by omega⟩ dX4_layLine_60 rfl ?_
          refine j_istore (q := 65) (lv' := [(0, vR X c), (1, vR X u), (2, vI p), (3, vI i), (4, vI j), (5, vI (max acc y)), (6, vI k), (7, vI y)]) F dX4_layLine_63 rfl (by decide) rfl rfl ?_
          refine j_iinc (q := 68) (lv' := [(0, vR X c), (1, vR X u), (2, vI p), (3, vI i), (4, vI j), (5, vI (max acc y)), (6, vI (k + 1)), (7, vI y)]) F dX4_layLine_65 rfl 6 rfl (by decide) rfl rfl ?_
          refine j_goto (q := 14) F dX4_layLine_68 (by decide) ?_
          refine j_sub (lv' := [(0, vR X c), (1, vR X u), (2, vI p), (3, vI i), (4, vI j), (5, vI (max acc y)), (6, vI (k + 1))]) [0, 1, 2, 3, 4, 5, 6] rfl ?_
          exact ih14 (max acc y) (k + 1) (mset Mq (c + 8) k y) (by omega) (by omega) (by rw [mx_s _ _ g0, if_pos rfl, ← g2, ← hy]; split <;> omega) (by omega) (by exact hR.step g0 hy) (by omega)
        refine j_iload (q := 26) F dX4_layLine_24 rfl 6 rfl ?_
        refine j_iload (q := 28) F dX4_layLine_26 rfl 4 rfl ?_
        refine j_iconst (q := 29) F dX4_layLine_28 rfl ?_
        refine j_isub (q := 30) (z := j - 1) F dX4_layLine_29 rfl rfl ?_
        refine j_icmp_ge (q := 33) (tgt := 45) F dX4_layLine_30 (by decide) rfl ⟨by omega, by omega⟩ ⟨by omega, by omega⟩ (fun h30_4 => ?_) (fun h30_4 => ?_)
        · skip
          exact CUT45 0 (by unfold RLv; rw [if_neg (by omega)]) (by omega)
        · skip
          refine j_iconst (q := 34) F dX4_layLine_33 rfl ?_
          refine j_aload_n (q := 35) F dX4_layLine_34 rfl rfl 0 rfl ?_
          refine j_iload (q := 37) F dX4_layLine_35 rfl 6 rfl ?_
          refine j_iload_n (q := 38) F dX4_layLine_37 rfl rfl 2 rfl ?_
          refine j_iload_n (q := 39) F dX4_layLine_38 rfl rfl 3 rfl ?_
          refine j_callVE (q := 42) F [vI k, vI p, vI i] (ct_X4_reachAbove l X hX Mq c (hc) hsq k p i (by omega) (by omega) (fun w q0 q1 => by rw [hR.2.1 w (by omega), e8]; have := hr w q0 q1; omega)) gX4_layLine_X4_reachAbove rfl cd_X4_reachAbove ⟨by first | exact Nat.le_of_ble_eq_true rfl | (simp only [rm]; omega) | (simp [rm, vI, vR, Value.category]; omega), by first | exact Nat.le_of_ble_eq_true rfl | (simp only [rm]; omega) | (simp [rm, vI, vR, Value.category]; omega), by first | exact Nat.le_of_ble_eq_true rfl | (simp only [rm]; omega) | (simp [rm, vI, vR, Value.category]; omega), by first | exact Nat.le_of_ble_eq_true rfl | (simp only [rm]; omega) | (simp [rm, vI, vR, Value.category]; omega)⟩ (hc).1 rfl rfl rfl (Nat.le_of_ble_eq_true rfl) dX4_layLine_39 rfl ?_
          refine j_iadd (q := 43) (z := 1 + (mx (fun q => mtB (Mq (c + 4) q) (Mq (c + 6) q) (Mq (c + 4) k) (Mq (c + 6) k)) (Mq (c + 8)) p i)) F dX4_layLine_42 rfl rfl ?_
          refine j_istore (q := 45) (lv' := [(0, vR X c), (1, vR X u), (2, vI p), (3, vI i), (4, vI j), (5, vI acc), (6, vI k), (7, vI (1 + (mx (fun q => mtB (Mq (c + 4) q) (Mq (c + 6) q) (Mq (c + 4) k) (Mq (c + 6) k)) (Mq (c + 8)) p i)))]) F dX4_layLine_43 rfl (by decide) rfl rfl ?_
          exact CUT45 (1 + (mx (fun q => mtB (Mq (c + 4) q) (Mq (c + 6) q) (Mq (c + 4) k) (Mq (c + 6) k)) (Mq (c + 8)) p i)) (by unfold RLv; rw [if_pos (by omega), ← hR.reach g0 k]) (by have q := mx_bd (f := fun q => mtB (Mq (c + 4) q) (Mq (c + 6) q) (Mq (c + 4) k) (Mq (c + 6) k)) (r := Mq (c + 8)) (a := p) (e := i) (B := 50) (by omega) (fun w q0 q1 _ => by rw [hR.2.1 w (by omega), e8]; exact (hr w q0 q1).2); omega)
  exact LP14 _ 0 i Mr (by omega) (by omega) (by exact (mx_0 _ _ (Int.le_refl _)).symm) (by omega) (by exact RLk.start Mr c _ _ _) (by exact Nat.lt_succ_self _)
