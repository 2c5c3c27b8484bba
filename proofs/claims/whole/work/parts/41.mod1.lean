set_option maxRecDepth 100000 in
set_option maxHeartbeats 400000 in
theorem ct_X7_in (l : Launch) (X : Cx) (hX : Inj X) (M : Mem) (n lo hi : Int) (hn : inR n) (hlo : inR lo) (hhi : inR hi) : CtI l X yX7_in wsX7_in 0 [vI n, vI lo, vI hi] M (fun x M' => M' = M ∧ (x = 1 ∧ (lo ≤ n ∧ n ≤ hi) ∨ x = 0 ∧ (n < lo ∨ hi < n))) := by
  refine CtI_ofZ (cc := cX7_in) (maxL := 3) hX (by decide +kernel) rfl (Nat.le_of_ble_eq_true rfl) ?_
  intro zp ze zs zm zargs zbelow zmeth zc zQ F hret
  show J zp l ze (rm 0) zs zm zargs zbelow zmeth zc 0 0 zQ zs.heap X 3 M 0 [(0, vI n), (1, vI lo), (2, vI hi)] []
  obtain ⟨hn1, hn2⟩ := hn
  obtain ⟨hlo1, hlo2⟩ := hlo
  obtain ⟨hhi1, hhi2⟩ := hhi
  refine j_iload_n (q := 1) F dX7_in_0 rfl rfl 0 rfl ?_
  refine j_iload_n (q := 2) F dX7_in_1 rfl rfl 1 rfl ?_
  refine j_icmp_lt (q := 5) (tgt := 14) F dX7_in_2 (by decide) rfl ⟨by omega, by omega⟩ ⟨by omega, by omega⟩ (fun h2_1 => ?_) (fun h2_1 => ?_)
  · skip
    refine j_iconst (q := 15) F dX7_in_14 rfl ?_
    exact hret _ _ _ _ dX7_in_15 (Or.inl rfl) (by refine ⟨rfl, ?_⟩; omega)
  · skip
    refine j_iload_n (q := 6) F dX7_in_5 rfl rfl 0 rfl ?_
    refine j_iload_n (q := 7) F dX7_in_6 rfl rfl 2 rfl ?_
    refine j_icmp_gt (q := 10) (tgt := 14) F dX7_in_7 (by decide) rfl ⟨by omega, by omega⟩ ⟨by omega, by omega⟩ (fun h7_2 => ?_) (fun h7_2 => ?_)
    · skip
      refine j_iconst (q := 15) F dX7_in_14 rfl ?_
      exact hret _ _ _ _ dX7_in_15 (Or.inl rfl) (by refine ⟨rfl, ?_⟩; omega)
    · skip
      refine j_iconst (q := 11) F dX7_in_10 rfl ?_
      refine j_goto (q := 15) F dX7_in_11 (by decide) ?_
      exact hret _ _ _ _ dX7_in_15 (Or.inr rfl) (by refine ⟨rfl, ?_⟩; omega)
theorem cd_X7_in : yX7_in.cls ≠ "java/lang/invoke/MethodHandle" ∧ yX7_in.cls ≠ "java/lang/invoke/VarHandle" ∧ (parseMethodDescriptor yX7_in.desc).map (fun d => d.parameters.length) = some 3 := by decide +kernel
theorem fl_X7_isLine_7 : Cond.fieldLink RX7 7 "WhiteRiversModel" "d" "[I" ∈ wsX7_isLine := by decide +kernel
theorem in_X7_isLine_7 : ∀ w ∈ u_ws RX7 TX7 19, w ∈ wsX7_isLine := by decide +kernel
set_option maxRecDepth 100000 in
set_option maxHeartbeats 400000 in
theorem ct_X7_isLine (l : Launch) (X : Cx) (hX : Inj X) (M : Mem) (hD : DOK (M 83)) (n : Int) (hn : inR n) : CtI l X yX7_isLine wsX7_isLine 1 [vR X 82, vI n] M (fun x M' => M' = M ∧ (x = 1 ∧ (0 ≤ n ∧ n < M 83 3) ∨ x = 0 ∧ (n < 0 ∨ M 83 3 ≤ n))) := by
  refine CtI_ofZ (cc := cX7_isLine) (maxL := 2) hX (by decide +kernel) rfl (Nat.le_of_ble_eq_true rfl) ?_
  intro zp ze zs zm zargs zbelow zmeth zc zQ F hret
  show J zp l ze (rm 1) zs zm zargs zbelow zmeth zc 0 0 zQ zs.heap X 2 M 0 [(0, vR X 82), (1, vI n)] []
  have hw := hD.w
  have hnn := hD.1
  have hww := hD.2.1
  have hlen := hw.2.2
  have hL24 := hD.L24
  have hss := hD.2.2.1
  obtain ⟨hn1, hn2⟩ := hn
  refine j_iload_n (q := 1) F dX7_isLine_0 rfl rfl 1 rfl ?_
  refine j_iconst (q := 2) F dX7_isLine_1 rfl ?_
  refine j_aload_n (q := 3) F dX7_isLine_2 rfl rfl 0 rfl ?_
  refine j_getR (q := 6) (z := 83) (index := 7) F md82 rfl in_X7_isLine_7 0 (by decide) rfl fl_X7_isLine_7 dX7_isLine_3 rfl ?_
  refine j_iconst (q := 7) F dX7_isLine_6 rfl ?_
  refine j_iald (q := 8) F ar83 (by omega) (by omega) (by decide) dX7_isLine_7 rfl ?_
  refine j_iconst (q := 9) F dX7_isLine_8 rfl ?_
  refine j_isub (q := 10) (z := (M 83 3) - 1) F dX7_isLine_9 rfl rfl ?_
  refine j_callSP (q := 13) F [vI n, vI 0, vI ((M 83 3) - 1)] (ct_X7_in l X hX M n 0 ((M 83 3) - 1) ⟨by omega, by omega⟩ ⟨by omega, by omega⟩ ⟨by omega, by omega⟩) gX7_isLine_X7_in rfl cd_X7_in ⟨by first | exact Nat.le_of_ble_eq_true rfl | (simp only [rm]; omega) | (simp [rm, vI, vR, Value.category]; omega), by first | exact Nat.le_of_ble_eq_true rfl | (simp only [rm]; omega) | (simp [rm, vI, vR, Value.category]; omega), by first | exact Nat.le_of_ble_eq_true rfl | (simp only [rm]; omega) | (simp [rm, vI, vR, Value.category]; omega), by first | exact Nat.le_of_ble_eq_true rfl | (simp only [rm]; omega) | (simp [rm, vI, vR, Value.category]; omega)⟩ rfl rfl (Nat.le_of_ble_eq_true rfl) dX7_isLine_10 rfl (fun x hx => ?_)
  exact hret _ _ _ _ dX7_isLine_13 (by omega) (by refine ⟨rfl, ?_⟩; omega)
theorem fl_X7_first_7 : Cond.fieldLink RX7 7 "WhiteRiversModel" "d" "[I" ∈ wsX7_first := by decide +kernel
theorem in_X7_first_7 : ∀ w ∈ u_ws RX7 TX7 19, w ∈ wsX7_first := by decide +kernel
set_option maxRecDepth 100000 in
set_option maxHeartbeats 400000 in
theorem ct_X7_first (l : Launch) (X : Cx) (hX : Inj X) (M : Mem) (n : Int) (h0 : 0 ≤ n) (h1 : n < 49) : CtI l X yX7_first wsX7_first 0 [vR X 82, vI n] M (fun x M' => M' = M ∧ x = M 83 (28 + n)) := by
  refine CtI_of (cc := cX7_first) (maxL := 2) hX (by decide +kernel) rfl (Nat.le_of_ble_eq_true rfl) ?_
  intro zp ze zs zm zargs zbelow zmeth zc zQ F hret
  show J zp l ze (rm 0) zs zm zargs zbelow zmeth zc 0 0 zQ zs.heap X 2 M 0 [(0, vR X 82), (1, vI n)] []
  refine j_aload_n (q := 1) F dX7_first_0 rfl rfl 0 rfl ?_
  refine j_getR (q := 4) (z := 83) (index := 7) F md82 rfl in_X7_first_7 0 (by decide) rfl fl_X7_first_7 dX7_first_1 rfl ?_
  refine j_bipush (q := 6) F dX7_first_4 rfl (by decide) ?_
  refine j_iload_n (q := 7) F dX7_first_6 rfl rfl 1 rfl ?_
  refine j_iadd (q := 8) (z := 28 + n) F dX7_first_7 rfl rfl ?_
  refine j_iald (q := 9) F ar83 (by omega) (by omega) (by decide) dX7_first_8 rfl ?_
  exact hret _ _ _ _ dX7_first_9 (by exact ⟨rfl, rfl⟩)
theorem fl_X7_behind_7 : Cond.fieldLink RX7 7 "WhiteRiversModel" "d" "[I" ∈ wsX7_behind := by decide +kernel
theorem in_X7_behind_7 : ∀ w ∈ u_ws RX7 TX7 19, w ∈ wsX7_behind := by decide +kernel
set_option maxRecDepth 100000 in
set_option maxHeartbeats 400000 in
theorem ct_X7_behind (l : Launch) (X : Cx) (hX : Inj X) (M : Mem) (hL : 0 ≤ M 83 3 ∧ M 83 3 ≤ 24) (n : Int) (h0 : 0 ≤ n) (h1 : n < M 83 3) : CtI l X yX7_behind wsX7_behind 0 [vR X 82, vI n] M (fun x M' => M' = M ∧ x = sd (M 83) (n + 1)) := by
  refine CtI_of (cc := cX7_behind) (maxL := 2) hX (by decide +kernel) rfl (Nat.le_of_ble_eq_true rfl) ?_
  intro zp ze zs zm zargs zbelow zmeth zc zQ F hret
  show J zp l ze (rm 0) zs zm zargs zbelow zmeth zc 0 0 zQ zs.heap X 2 M 0 [(0, vR X 82), (1, vI n)] []
  refine j_iload_n (q := 1) F dX7_behind_0 rfl rfl 1 rfl ?_
  refine j_iconst (q := 2) F dX7_behind_1 rfl ?_
  refine j_iadd (q := 3) (z := n + 1) F dX7_behind_2 rfl rfl ?_
  refine j_aload_n (q := 4) F dX7_behind_3 rfl rfl 0 rfl ?_
  refine j_getR (q := 7) (z := 83) (index := 7) F md82 rfl in_X7_behind_7 0 (by decide) rfl fl_X7_behind_7 dX7_behind_4 rfl ?_
  refine j_iconst (q := 8) F dX7_behind_7 rfl ?_
  refine j_iald (q := 9) F ar83 (by omega) (by omega) (by decide) dX7_behind_8 rfl ?_
  refine j_icmp_ge (q := 12) (tgt := 26) F dX7_behind_9 (by decide) rfl ⟨by omega, by omega⟩ ⟨by omega, by omega⟩ (fun h9_1 => ?_) (fun h9_1 => ?_)
  · skip
    refine j_aload_n (q := 27) F dX7_behind_26 rfl rfl 0 rfl ?_
    refine j_getR (q := 30) (z := 83) (index := 7) F md82 rfl in_X7_behind_7 0 (by decide) rfl fl_X7_behind_7 dX7_behind_27 rfl ?_
    refine j_iconst (q := 31) F dX7_behind_30 rfl ?_
    refine j_iald (q := 32) F ar83 (by omega) (by omega) (by decide) dX7_behind_31 rfl ?_
    exact hret _ _ _ _ dX7_behind_32 (by refine ⟨rfl, ?_⟩; rw [sd_L (by omega)])
  · skip
    refine j_aload_n (q := 13) F dX7_behind_12 rfl rfl 0 rfl ?_
    refine j_getR (q := 16) (z := 83) (index := 7) F md82 rfl in_X7_behind_7 0 (by decide) rfl fl_X7_behind_7 dX7_behind_13 rfl ?_
    refine j_bipush (q := 18) F dX7_behind_16 rfl (by decide) ?_
    refine j_iload_n (q := 19) F dX7_behind_18 rfl rfl 1 rfl ?_
    refine j_iadd (q := 20) (z := 28 + n) F dX7_behind_19 rfl rfl ?_
    refine j_iconst (q := 21) F dX7_behind_20 rfl ?_
    refine j_iadd (q := 22) (z := (28 + n) + 1) F dX7_behind_21 rfl rfl ?_
    refine j_iald (q := 23) F ar83 (by omega) (by omega) (by decide) dX7_behind_22 rfl ?_
    refine j_goto (q := 32) F dX7_behind_23 (by decide) ?_
    exact hret _ _ _ _ dX7_behind_32 (by refine ⟨rfl, ?_⟩; rw [sd_in (by omega), show 28 + n + 1 = 28 + (n + 1) by omega])
theorem fl_X7_needs_7 : Cond.fieldLink RX7 7 "WhiteRiversModel" "d" "[I" ∈ wsX7_needs := by decide +kernel
theorem in_X7_needs_7 : ∀ w ∈ u_ws RX7 TX7 19, w ∈ wsX7_needs := by decide +kernel
set_option maxRecDepth 100000 in
set_option maxHeartbeats 400000 in
theorem ct_X7_needs (l : Launch) (X : Cx) (hX : Inj X) (M : Mem) (hw : WOK (M 83)) (i j : Int) (h0 : 0 ≤ i) (h1 : i ≤ j) (h2 : j ≤ M 83 0) : CtI l X yX7_needs wsX7_needs 0 [vR X 82, vI i, vI j] M (fun x M' => M' = M ∧ x = M 83 1 - exD (M 83) i j) := by
  refine CtI_of (cc := cX7_needs) (maxL := 5) hX (by decide +kernel) rfl (Nat.le_of_ble_eq_true rfl) ?_
  intro zp ze zs zm zargs zbelow zmeth zc zQ F hret
  show J zp l ze (rm 0) zs zm zargs zbelow zmeth zc 0 0 zQ zs.heap X 5 M 0 [(0, vR X 82), (1, vI i), (2, vI j)] []
  have hnn := hw.1
  have hww := hw.2.1
  have hlen := hw.2.2
  refine j_iload_n (q := 1) F dX7_needs_0 rfl rfl 2 rfl ?_
  refine j_iload_n (q := 2) F dX7_needs_1 rfl rfl 1 rfl ?_
  refine j_isub (q := 3) (z := j - i) F dX7_needs_2 rfl rfl ?_
  refine j_iconst (q := 4) F dX7_needs_3 rfl ?_
  refine j_isub (q := 5) (z := (j - i) - 1) F dX7_needs_4 rfl rfl ?_
  refine j_istore_n (q := 6) (lv' := [(0, vR X 82), (1, vI i), (2, vI j), (3, vI ((j - i) - 1))]) F dX7_needs_5 rfl rfl (by decide) rfl rfl ?_
  refine j_iload_n (q := 7) F dX7_needs_6 rfl rfl 1 rfl ?_
  refine j_istore (q := 9) (lv' := [(0, vR X 82), (1, vI i), (2, vI j), (3, vI ((j - i) - 1)), (4, vI i)]) F dX7_needs_7 rfl (by decide) rfl rfl ?_
  have LP9 : ∀ (nn : Nat) (x w : Int), (i ≤ w) → (w ≤ j) → (x = j - i - 1 + (cnt (lenD (M 83)) w - cnt (lenD (M 83)) i)) → (j - w).toNat < nn → J zp l ze (rm 0) zs zm zargs zbelow zmeth zc 0 0 zQ zs.heap X 5 M 9 [(0, vR X 82), (1, vI i), (2, vI j), (3, vI x), (4, vI w)] [] := by
    intro nn
    induction nn with
    | zero => intro x w g0 g1 g2 hm9; exact absurd hm9 (Nat.not_lt_zero _)
    | succ nn ih9 =>
      intro x w g0 g1 g2 hm9
      refine j_iload (q := 11) F dX7_needs_9 rfl 4 rfl ?_
      refine j_iload_n (q := 12) F dX7_needs_11 rfl rfl 2 rfl ?_
      refine j_icmp_ge (q := 15) (tgt := 33) F dX7_needs_12 (by decide) rfl ⟨by omega, by omega⟩ ⟨by omega, by omega⟩ (fun h12_1 => ?_) (fun h12_1 => ?_)
      · skip
        refine j_iload_n (q := 34) F dX7_needs_33 rfl rfl 3 rfl ?_
        exact hret _ _ _ _ dX7_needs_34 (by refine ⟨rfl, ?_⟩; rw [g2, show w = j by omega]; unfold exD exF; omega)
      · skip
        refine j_iload_n (q := 16) F dX7_needs_15 rfl rfl 3 rfl ?_
        refine j_aload_n (q := 17) F dX7_needs_16 rfl rfl 0 rfl ?_
        refine j_getR (q := 20) (z := 83) (index := 7) F md82 rfl in_X7_needs_7 0 (by decide) rfl fl_X7_needs_7 dX7_needs_17 rfl ?_
        refine j_iconst (q := 21) F dX7_needs_20 rfl ?_
        refine j_iload (q := 23) F dX7_needs_21 rfl 4 rfl ?_
        refine j_iadd (q := 24) (z := 4 + w) F dX7_needs_23 rfl rfl ?_
        refine j_iald (q := 25) F ar83 (by omega) (by omega) (by decide) dX7_needs_24 rfl ?_
        refine j_iadd (q := 26) (z := x + (M 83 (4 + w))) F dX7_needs_25 rfl rfl ?_
        refine j_istore_n (q := 27) (lv' := [(0, vR X 82), (1, vI i), (2, vI j), (3, vI (x + (M 83 (4 + w)))), (4, vI w)]) F dX7_needs_26 rfl rfl (by decide) rfl rfl ?_
        refine j_iinc (q := 30) (lv' := [(0, vR X 82), (1, vI i), (2, vI j), (3, vI (x + (M 83 (4 + w)))), (4, vI (w + 1))]) F dX7_needs_27 rfl 4 rfl (by decide) rfl rfl ?_
        refine j_goto (q := 9) F dX7_needs_30 (by decide) ?_
        exact ih9 (x + (M 83 (4 + w))) (w + 1) (by omega) (by omega) (by rw [cnt_s _ (by omega), g2]; unfold lenD; omega) (by omega)
  exact LP9 _ ((j - i) - 1) i (by omega) (by omega) (by omega) (by exact Nat.lt_succ_self _)
theorem cd_X7_needs : yX7_needs.cls = RX7 ∧ yX7_needs.cls ≠ "java/lang/invoke/MethodHandle" ∧ yX7_needs.cls ≠ "java/lang/invoke/VarHandle" ∧ (parseMethodDescriptor yX7_needs.desc).map (fun d => d.parameters.length) = some 2 := by decide +kernel
theorem fl_X7_fits_7 : Cond.fieldLink RX7 7 "WhiteRiversModel" "d" "[I" ∈ wsX7_fits := by decide +kernel
theorem in_X7_fits_7 : ∀ w ∈ u_ws RX7 TX7 19, w ∈ wsX7_fits := by decide +kernel
set_option maxRecDepth 100000 in
set_option maxHeartbeats 400000 in
theorem ct_X7_fits (l : Launch) (X : Cx) (hX : Inj X) (M : Mem) (hw : WOK (M 83)) (i j : Int) (h0 : 0 ≤ i) (h1 : i ≤ j) (h2 : j ≤ M 83 0) : CtI l X yX7_fits wsX7_fits 1 [vR X 82, vI i, vI j] M (fun x M' => M' = M ∧ (x = 1 ∧ 0 ≤ exD (M 83) i j ∨ x = 0 ∧ exD (M 83) i j < 0)) := by
  refine CtI_ofZ (cc := cX7_fits) (maxL := 3) hX (by decide +kernel) rfl (Nat.le_of_ble_eq_true rfl) ?_
  intro zp ze zs zm zargs zbelow zmeth zc zQ F hret
  show J zp l ze (rm 1) zs zm zargs zbelow zmeth zc 0 0 zQ zs.heap X 3 M 0 [(0, vR X 82), (1, vI i), (2, vI j)] []
  have hnn := hw.1
  have hww := hw.2.1
  have hlen := hw.2.2
  have hxb := exD_bd hw h0 h1 h2
  refine j_aload_n (q := 1) F dX7_fits_0 rfl rfl 0 rfl ?_
  refine j_iload_n (q := 2) F dX7_fits_1 rfl rfl 1 rfl ?_
  refine j_iload_n (q := 3) F dX7_fits_2 rfl rfl 2 rfl ?_
  refine j_callVE (q := 6) F [vI i, vI j] (ct_X7_needs l X hX M hw i j (by omega) (by omega) (by omega)) gX7_fits_X7_needs rfl cd_X7_needs ⟨by first | exact Nat.le_of_ble_eq_true rfl | (simp only [rm]; omega) | (simp [rm, vI, vR, Value.category]; omega), by first | exact Nat.le_of_ble_eq_true rfl | (simp only [rm]; omega) | (simp [rm, vI, vR, Value.category]; omega), by first | exact Nat.le_of_ble_eq_true rfl | (simp only [rm]; omega) | (simp [rm, vI, vR, Value.category]; omega), by first | exact Nat.le_of_ble_eq_true rfl | (simp only [rm]; omega) | (simp [rm, vI, vR, Value.category]; omega)⟩ md82 rfl rfl rfl (Nat.le_of_ble_eq_true rfl) dX7_fits_3 rfl ?_
  refine j_aload_n (q := 7) F dX7_fits_6 rfl rfl 0 rfl ?_
  refine j_getR (q := 10) (z := 83) (index := 7) F md82 rfl in_X7_fits_7 0 (by decide) rfl fl_X7_fits_7 dX7_fits_7 rfl ?_
  refine j_iconst (q := 11) F dX7_fits_10 rfl ?_
  refine j_iald (q := 12) F ar83 (by omega) (by omega) (by decide) dX7_fits_11 rfl ?_
  refine j_icmp_gt (q := 15) (tgt := 19) F dX7_fits_12 (by decide) rfl ⟨by omega, by omega⟩ ⟨by omega, by omega⟩ (fun h12_2 => ?_) (fun h12_2 => ?_)
  · skip
    refine j_iconst (q := 20) F dX7_fits_19 rfl ?_
    exact hret _ _ _ _ dX7_fits_20 (Or.inl rfl) (by refine ⟨rfl, ?_⟩; omega)
  · skip
    refine j_iconst (q := 16) F dX7_fits_15 rfl ?_
    refine j_goto (q := 20) F dX7_fits_16 (by decide) ?_
    exact hret _ _ _ _ dX7_fits_20 (Or.inr rfl) (by refine ⟨rfl, ?_⟩; omega)
theorem cd_X7_fits : yX7_fits.cls = RX7 ∧ yX7_fits.cls ≠ "java/lang/invoke/MethodHandle" ∧ yX7_fits.cls ≠ "java/lang/invoke/VarHandle" ∧ (parseMethodDescriptor yX7_fits.desc).map (fun d => d.parameters.length) = some 2 := by decide +kernel
theorem fl_X7_mostFrom_7 : Cond.fieldLink RX7 7 "WhiteRiversModel" "d" "[I" ∈ wsX7_mostFrom := by decide +kernel
theorem in_X7_mostFrom_7 : ∀ w ∈ u_ws RX7 TX7 19, w ∈ wsX7_mostFrom := by decide +kernel
set_option maxRecDepth 100000 in
set_option maxHeartbeats 400000 in
theorem ct_X7_mostFrom (l : Launch) (X : Cx) (hX : Inj X) (M : Mem) (hw : WOK (M 83)) (i : Int) (h0 : 0 ≤ i) (h1 : i ≤ M 83 0) : CtI l X yX7_mostFrom wsX7_mostFrom 2 [vR X 82, vI i] M (fun x M' => M' = M ∧ MfP (M 83) i x) := by
  refine CtI_of (cc := cX7_mostFrom) (maxL := 3) hX (by decide +kernel) rfl (Nat.le_of_ble_eq_true rfl) ?_
  intro zp ze zs zm zargs zbelow zmeth zc zQ F hret
  show J zp l ze (rm 2) zs zm zargs zbelow zmeth zc 0 0 zQ zs.heap X 3 M 0 [(0, vR X 82), (1, vI i)] []
  have hnn := hw.1
  have hww := hw.2.1
  have hlen := hw.2.2
  refine j_iconst (q := 1) F dX7_mostFrom_0 rfl ?_
  refine j_istore_n (q := 2) (lv' := [(0, vR X 82), (1, vI i), (2, vI 0)]) F dX7_mostFrom_1 rfl rfl (by decide) rfl rfl ?_
  have LP2 : ∀ (nn : Nat) (x : Int), (0 ≤ x) → (i + x ≤ M 83 0) → (∀ k, 0 ≤ k → k < x → 0 ≤ exD (M 83) i (i + k + 1)) → (M 83 0 - i - x).toNat < nn → J zp l ze (rm 2) zs zm zargs zbelow zmeth zc 0 0 zQ zs.heap X 3 M 2 [(0, vR X 82), (1, vI i), (2, vI x)] [] := by
    intro nn
    induction nn with
    | zero => intro x g0 g1 g2 hm2; exact absurd hm2 (Nat.not_lt_zero _)
    | succ nn ih2 =>
      intro x g0 g1 g2 hm2
      refine j_iload_n (q := 3) F dX7_mostFrom_2 rfl rfl 1 rfl ?_
      refine j_iload_n (q := 4) F dX7_mostFrom_3 rfl rfl 2 rfl ?_
      refine j_iadd (q := 5) (z := i + x) F dX7_mostFrom_4 rfl rfl ?_
      refine j_aload_n (q := 6) F dX7_mostFrom_5 rfl rfl 0 rfl ?_
      refine j_getR (q := 9) (z := 83) (index := 7) F md82 rfl in_X7_mostFrom_7 0 (by decide) rfl fl_X7_mostFrom_7 dX7_mostFrom_6 rfl ?_
      refine j_iconst (q := 10) F dX7_mostFrom_9 rfl ?_
      refine j_iald (q := 11) F ar83 (by omega) (by omega) (by decide) dX7_mostFrom_10 rfl ?_
      refine j_icmp_ge (q := 14) (tgt := 33) F dX7_mostFrom_11 (by decide) rfl ⟨by omega, by omega⟩ ⟨by omega, by omega⟩ (fun h11_1 => ?_) (fun h11_1 => ?_)
      · skip
        refine j_iload_n (q := 34) F dX7_mostFrom_33 rfl rfl 2 rfl ?_
        exact hret _ _ _ _ dX7_mostFrom_34 (by exact ⟨rfl, g0, g1, g2, by first | exact Or.inl (by omega) | exact Or.inr hft⟩)
      · skip
        refine j_aload_n (q := 15) F dX7_mostFrom_14 rfl rfl 0 rfl ?_
        refine j_iload_n (q := 16) F dX7_mostFrom_15 rfl rfl 1 rfl ?_
        refine j_iload_n (q := 17) F dX7_mostFrom_16 rfl rfl 1 rfl ?_
        refine j_iload_n (q := 18) F dX7_mostFrom_17 rfl rfl 2 rfl ?_
        refine j_iadd (q := 19) (z := i + x) F dX7_mostFrom_18 rfl rfl ?_
        refine j_iconst (q := 20) F dX7_mostFrom_19 rfl ?_
        refine j_iadd (q := 21) (z := (i + x) + 1) F dX7_mostFrom_20 rfl rfl ?_
        refine j_callVZ (q := 24) F [vI i, vI ((i + x) + 1)] (ct_X7_fits l X hX M hw i ((i + x) + 1) (by omega) (by omega) (by omega)) gX7_mostFrom_X7_fits rfl cd_X7_fits ⟨by first | exact Nat.le_of_ble_eq_true rfl | (simp only [rm]; omega) | (simp [rm, vI, vR, Value.category]; omega), by first | exact Nat.le_of_ble_eq_true rfl | (simp only [rm]; omega) | (simp [rm, vI, vR, Value.category]; omega), by first | exact Nat.le_of_ble_eq_true rfl | (simp only [rm]; omega) | (simp [rm, vI, vR, Value.category]; omega), by first | exact Nat.le_of_ble_eq_true rfl | (simp only [rm]; omega) | (simp [rm, vI, vR, Value.category]; omega)⟩ md82 rfl rfl rfl (Nat.le_of_ble_eq_true rfl) dX7_mostFrom_21 rfl (fun hft => ?_) (fun hft => ?_)
        · skip
          refine j_if_eq (q := 27) (tgt := 33) F dX7_mostFrom_24 (by decide) rfl ⟨by decide, by decide⟩ (fun h => absurd h (by decide)) (fun _ => ?_)
          refine j_iinc (q := 30) (lv' := [(0, vR X 82), (1, vI i), (2, vI (x + 1))]) F dX7_mostFrom_27 rfl 2 rfl (by decide) rfl rfl ?_
          refine j_goto (q := 2) F dX7_mostFrom_30 (by decide) ?_
          refine ih2 (x + 1) (by omega) (by omega) ?_ (by omega)
          · intro k q0 q1; by_cases hk : k = x
            · subst hk; assumption
            · exact g2 k q0 (by omega)
        · skip
          refine j_if_eq (q := 27) (tgt := 33) F dX7_mostFrom_24 (by decide) rfl ⟨by decide, by decide⟩ (fun _ => ?_) (fun h => absurd h (by decide))
          refine j_iload_n (q := 34) F dX7_mostFrom_33 rfl rfl 2 rfl ?_
          exact hret _ _ _ _ dX7_mostFrom_34 (by exact ⟨rfl, g0, g1, g2, by first | exact Or.inl (by omega) | exact Or.inr hft⟩)
  exact LP2 _ 0 (by omega) (by omega) (by intro k q0 q1; omega) (by exact Nat.lt_succ_self _)
theorem fl_X7_frozen_7 : Cond.fieldLink RX7 7 "WhiteRiversModel" "d" "[I" ∈ wsX7_frozen := by decide +kernel
theorem in_X7_frozen_7 : ∀ w ∈ u_ws RX7 TX7 19, w ∈ wsX7_frozen := by decide +kernel
set_option maxRecDepth 100000 in
set_option maxHeartbeats 400000 in
theorem ct_X7_frozen (l : Launch) (X : Cx) (hX : Inj X) (M : Mem) (hL : 0 ≤ M 83 3 ∧ M 83 3 ≤ 24) : CtI l X yX7_frozen wsX7_frozen 0 [vR X 82] M (fun x M' => M' = M ∧ x = frc (M 83)) := by
  refine CtI_of (cc := cX7_frozen) (maxL := 3) hX (by decide +kernel) rfl (Nat.le_of_ble_eq_true rfl) ?_
  intro zp ze zs zm zargs zbelow zmeth zc zQ F hret
  show J zp l ze (rm 0) zs zm zargs zbelow zmeth zc 0 0 zQ zs.heap X 3 M 0 [(0, vR X 82)] []
  refine j_iconst (q := 1) F dX7_frozen_0 rfl ?_
  refine j_istore_n (q := 2) (lv' := [(0, vR X 82), (1, vI 0)]) F dX7_frozen_1 rfl rfl (by decide) rfl rfl ?_
  refine j_iconst (q := 3) F dX7_frozen_2 rfl ?_
  refine j_istore_n (q := 4) (lv' := [(0, vR X 82), (1, vI 0), (2, vI 0)]) F dX7_frozen_3 rfl rfl (by decide) rfl rfl ?_
  have LP4 : ∀ (nn : Nat) (x k : Int), (0 ≤ k) → (k ≤ M 83 3) → (x = cnt (fun l => M 83 (53 + l)) k) → (M 83 3 - k).toNat < nn → J zp l ze (rm 0) zs zm zargs zbelow zmeth zc 0 0 zQ zs.heap X 3 M 4 [(0, vR X 82), (1, vI x), (2, vI k)] [] := by
    intro nn
    induction nn with
    | zero => intro x k g0 g1 g2 hm4; exact absurd hm4 (Nat.not_lt_zero _)
    | succ nn ih4 =>
      intro x k g0 g1 g2 hm4
      refine j_iload_n (q := 5) F dX7_frozen_4 rfl rfl 2 rfl ?_
      refine j_aload_n (q := 6) F dX7_frozen_5 rfl rfl 0 rfl ?_
      refine j_getR (q := 9) (z := 83) (index := 7) F md82 rfl in_X7_frozen_7 0 (by decide) rfl fl_X7_frozen_7 dX7_frozen_6 rfl ?_
      refine j_iconst (q := 10) F dX7_frozen_9 rfl ?_
      refine j_iald (q := 11) F ar83 (by omega) (by omega) (by decide) dX7_frozen_10 rfl ?_
      refine j_icmp_ge (q := 14) (tgt := 32) F dX7_frozen_11 (by decide) rfl ⟨by omega, by omega⟩ ⟨by omega, by omega⟩ (fun h11_1 => ?_) (fun h11_1 => ?_)
      · skip
        refine j_iload_n (q := 33) F dX7_frozen_32 rfl rfl 1 rfl ?_
        exact hret _ _ _ _ dX7_frozen_33 (by refine ⟨rfl, ?_⟩; rw [g2, show k = M 83 3 by omega]; rfl)
      · skip
        refine j_iload_n (q := 15) F dX7_frozen_14 rfl rfl 1 rfl ?_
        refine j_aload_n (q := 16) F dX7_frozen_15 rfl rfl 0 rfl ?_
        refine j_getR (q := 19) (z := 83) (index := 7) F md82 rfl in_X7_frozen_7 0 (by decide) rfl fl_X7_frozen_7 dX7_frozen_16 rfl ?_
        refine j_bipush (q := 21) F dX7_frozen_19 rfl (by decide) ?_
        refine j_iload_n (q := 22) F dX7_frozen_21 rfl rfl 2 rfl ?_
        refine j_iadd (q := 23) (z := 53 + k) F dX7_frozen_22 rfl rfl ?_
        refine j_iald (q := 24) F ar83 (by omega) (by omega) (by decide) dX7_frozen_23 rfl ?_
        refine j_iadd (q := 25) (z := x + (M 83 (53 + k))) F dX7_frozen_24 rfl rfl ?_
        refine j_istore_n (q := 26) (lv' := [(0, vR X 82), (1, vI (x + (M 83 (53 + k)))), (2, vI k)]) F dX7_frozen_25 rfl rfl (by decide) rfl rfl ?_
        refine j_iinc (q := 29) (lv' := [(0, vR X 82), (1, vI (x + (M 83 (53 + k)))), (2, vI (k + 1))]) F dX7_frozen_26 rfl 2 rfl (by decide) rfl rfl ?_
        refine j_goto (q := 4) F dX7_frozen_29 (by decide) ?_
        exact ih4 (x + (M 83 (53 + k))) (k + 1) (by omega) (by omega) (by rw [cnt_s _ g0, g2]) (by omega)
  exact LP4 _ 0 0 (by omega) (by omega) (by exact (cnt_0 _).symm) (by exact Nat.lt_succ_self _)
theorem cd_X7_behind : yX7_behind.cls = RX7 ∧ yX7_behind.cls ≠ "java/lang/invoke/MethodHandle" ∧ yX7_behind.cls ≠ "java/lang/invoke/VarHandle" ∧ (parseMethodDescriptor yX7_behind.desc).map (fun d => d.parameters.length) = some 1 := by decide +kernel
set_option maxRecDepth 100000 in
set_option maxHeartbeats 400000 in
theorem ct_X7_lineOf (l : Launch) (X : Cx) (hX : Inj X) (M : Mem) (hD : DOK (M 83)) (n : Int) (h0 : 0 ≤ n) (h1 : n < M 83 0) : CtI l X yX7_lineOf wsX7_lineOf 1 [vR X 82, vI n] M (fun x M' => M' = M ∧ x = lnD (M 83) n) := by
  refine CtI_of (cc := cX7_lineOf) (maxL := 3) hX (by decide +kernel) rfl (Nat.le_of_ble_eq_true rfl) ?_
  intro zp ze zs zm zargs zbelow zmeth zc zQ F hret
  show J zp l ze (rm 1) zs zm zargs zbelow zmeth zc 0 0 zQ zs.heap X 3 M 0 [(0, vR X 82), (1, vI n)] []
  have hw := hD.w
  have hnn := hD.1
  have hww := hD.2.1
  have hlen := hw.2.2
  have hL24 := hD.L24
  have hss := hD.2.2.1
  obtain ⟨a1, a2, a3, a4⟩ := lnD_seg hD h0 h1
  refine j_iconst (q := 1) F dX7_lineOf_0 rfl ?_
  refine j_istore_n (q := 2) (lv' := [(0, vR X 82), (1, vI n), (2, vI 0)]) F dX7_lineOf_1 rfl rfl (by decide) rfl rfl ?_
  have LP2 : ∀ (nn : Nat) (k : Int), (0 ≤ k) → (k ≤ lnD (M 83) n) → (M 83 3 - k).toNat < nn → J zp l ze (rm 1) zs zm zargs zbelow zmeth zc 0 0 zQ zs.heap X 3 M 2 [(0, vR X 82), (1, vI n), (2, vI k)] [] := by
    intro nn
    induction nn with
    | zero => intro k g0 g1 hm2; exact absurd hm2 (Nat.not_lt_zero _)
    | succ nn ih2 =>
      intro k g0 g1 hm2
      have hbk := hD.bdall (l := k + 1) (by omega)
      refine j_aload_n (q := 3) F dX7_lineOf_2 rfl rfl 0 rfl ?_
      refine j_iload_n (q := 4) F dX7_lineOf_3 rfl rfl 2 rfl ?_
      refine j_callVE (q := 7) F [vI k] (ct_X7_behind l X hX M (by omega) k (by omega) (by omega)) gX7_lineOf_X7_behind rfl cd_X7_behind ⟨by first | exact Nat.le_of_ble_eq_true rfl | (simp only [rm]; omega) | (simp [rm, vI, vR, Value.category]; omega), by first | exact Nat.le_of_ble_eq_true rfl | (simp only [rm]; omega) | (simp [rm, vI, vR, Value.category]; omega), by first | exact Nat.le_of_ble_eq_true rfl | (simp only [rm]; omega) | (simp [rm, vI, vR, Value.category]; omega), by first | exact Nat.le_of_ble_eq_true rfl | (simp only [rm]; omega) | (simp [rm, vI, vR, Value.category]; omega)⟩ md82 rfl rfl rfl (Nat.le_of_ble_eq_true rfl) dX7_lineOf_4 rfl ?_
      refine j_iload_n (q := 8) F dX7_lineOf_7 rfl rfl 1 rfl ?_
      refine j_icmp_gt (q := 11) (tgt := 17) F dX7_lineOf_8 (by decide) rfl ⟨by omega, by omega⟩ ⟨by omega, by omega⟩ (fun h8_2 => ?_) (fun h8_2 => ?_)
      · skip
        refine j_iload_n (q := 18) F dX7_lineOf_17 rfl rfl 2 rfl ?_
        refine hret _ _ _ _ dX7_lineOf_18 ?_
        · refine ⟨rfl, ?_⟩
          by_cases hk : k = lnD (M 83) n
          · exact hk
          · have := hD.le (x := k + 1) (y := lnD (M 83) n) (by omega) (by omega) (by omega); omega
      · skip
        refine j_iinc (q := 14) (lv' := [(0, vR X 82), (1, vI n), (2, vI (k + 1))]) F dX7_lineOf_11 rfl 2 rfl (by decide) rfl rfl ?_
        refine j_goto (q := 2) F dX7_lineOf_14 (by decide) ?_
        refine ih2 (k + 1) (by omega) ?_ (by omega)
        · by_cases hk : k = lnD (M 83) n
          · subst hk; omega
          · omega
  exact LP2 _ 0 (by omega) (by omega) (by exact Nat.lt_succ_self _)
theorem cd_X7_first : yX7_first.cls = RX7 ∧ yX7_first.cls ≠ "java/lang/invoke/MethodHandle" ∧ yX7_first.cls ≠ "java/lang/invoke/VarHandle" ∧ (parseMethodDescriptor yX7_first.desc).map (fun d => d.parameters.length) = some 1 := by decide +kernel
theorem fl_X7_nowLine_7 : Cond.fieldLink RX7 7 "WhiteRiversModel" "d" "[I" ∈ wsX7_nowLine := by decide +kernel
theorem in_X7_nowLine_7 : ∀ w ∈ u_ws RX7 TX7 19, w ∈ wsX7_nowLine := by decide +kernel
set_option maxRecDepth 100000 in
set_option maxHeartbeats 400000 in
theorem ct_X7_nowLine (l : Launch) (X : Cx) (hX : Inj X) (M : Mem) (hD : DOK (M 83)) (i j : Int) (hi : inR i) (hj : inR j) : CtI l X yX7_nowLine wsX7_nowLine 1 [vR X 82, vI i, vI j] M (fun x M' => M' = M ∧ NlP (M 83) i j x) := by
  refine CtI_of (cc := cX7_nowLine) (maxL := 4) hX (by decide +kernel) rfl (Nat.le_of_ble_eq_true rfl) ?_
  intro zp ze zs zm zargs zbelow zmeth zc zQ F hret
  show J zp l ze (rm 1) zs zm zargs zbelow zmeth zc 0 0 zQ zs.heap X 4 M 0 [(0, vR X 82), (1, vI i), (2, vI j)] []
  have hw := hD.w
  have hnn := hD.1
  have hww := hD.2.1
  have hlen := hw.2.2
  have hL24 := hD.L24
  have hss := hD.2.2.1
  obtain ⟨hi1, hi2⟩ := hi
  obtain ⟨hj1, hj2⟩ := hj
  refine j_iconst (q := 1) F dX7_nowLine_0 rfl ?_
  refine j_istore_n (q := 2) (lv' := [(0, vR X 82), (1, vI i), (2, vI j), (3, vI 0)]) F dX7_nowLine_1 rfl rfl (by decide) rfl rfl ?_
  have LP2 : ∀ (nn : Nat) (k : Int), (0 ≤ k) → (k ≤ M 83 3) → (∀ l, 0 ≤ l → l < k → ¬ (sd (M 83) l = i ∧ sd (M 83) (l + 1) = j)) → (M 83 3 - k).toNat < nn → J zp l ze (rm 1) zs zm zargs zbelow zmeth zc 0 0 zQ zs.heap X 4 M 2 [(0, vR X 82), (1, vI i), (2, vI j), (3, vI k)] [] := by
    intro nn
    induction nn with
    | zero => intro k g0 g1 g2 hm2; exact absurd hm2 (Nat.not_lt_zero _)
    | succ nn ih2 =>
      intro k g0 g1 g2 hm2
      refine j_iload_n (q := 3) F dX7_nowLine_2 rfl rfl 3 rfl ?_
      refine j_aload_n (q := 4) F dX7_nowLine_3 rfl rfl 0 rfl ?_
      refine j_getR (q := 7) (z := 83) (index := 7) F md82 rfl in_X7_nowLine_7 0 (by decide) rfl fl_X7_nowLine_7 dX7_nowLine_4 rfl ?_
      refine j_iconst (q := 8) F dX7_nowLine_7 rfl ?_
      refine j_iald (q := 9) F ar83 (by omega) (by omega) (by decide) dX7_nowLine_8 rfl ?_
      refine j_icmp_ge (q := 12) (tgt := 38) F dX7_nowLine_9 (by decide) rfl ⟨by omega, by omega⟩ ⟨by omega, by omega⟩ (fun h9_1 => ?_) (fun h9_1 => ?_)
      · skip
        refine j_iconst (q := 39) F dX7_nowLine_38 rfl ?_
        exact hret _ _ _ _ dX7_nowLine_39 (by exact ⟨rfl, Or.inr ⟨rfl, fun z => by obtain ⟨l, q0, q1, q2, q3⟩ := z; exact g2 l q0 (by omega) ⟨q2, q3⟩⟩⟩)
      · skip
        have hbk := hD.bdall (l := k) (by omega)
        have hbk1 := hD.bdall (l := k + 1) (by omega)
        refine j_aload_n (q := 13) F dX7_nowLine_12 rfl rfl 0 rfl ?_
        refine j_iload_n (q := 14) F dX7_nowLine_13 rfl rfl 3 rfl ?_
        refine j_callVE (q := 17) F [vI k] (ct_X7_first l X hX M k (by omega) (by omega)) gX7_nowLine_X7_first rfl cd_X7_first ⟨by first | exact Nat.le_of_ble_eq_true rfl | (simp only [rm]; omega) | (simp [rm, vI, vR, Value.category]; omega), by first | exact Nat.le_of_ble_eq_true rfl | (simp only [rm]; omega) | (simp [rm, vI, vR, Value.category]; omega), by first | exact Nat.le_of_ble_eq_true rfl | (simp only [rm]; omega) | (simp [rm, vI, vR, Value.category]; omega), by first | exact Nat.le_of_ble_eq_true rfl | (simp only [rm]; omega) | (simp [rm, vI, vR, Value.category]; omega)⟩ md82 rfl rfl rfl (Nat.le_of_ble_eq_true rfl) dX7_nowLine_14 rfl ?_
        rw [show M 83 (28 + k) = sd (M 83) k from by exact (sd_in (by omega)).symm]
        refine j_iload_n (q := 18) F dX7_nowLine_17 rfl rfl 1 rfl ?_
        refine j_icmp_ne (q := 21) (tgt := 32) F dX7_nowLine_18 (by decide) rfl ⟨by omega, by omega⟩ ⟨by omega, by omega⟩ (fun h18_3 => ?_) (fun h18_3 => ?_)
        · skip
          refine j_iinc (q := 35) (lv' := [(0, vR X 82), (1, vI i), (2, vI j), (3, vI (k + 1))]) F dX7_nowLine_32 rfl 3 rfl (by decide) rfl rfl ?_
          refine j_goto (q := 2) F dX7_nowLine_35 (by decide) ?_
          refine ih2 (k + 1) (by omega) (by omega) ?_ (by omega)
          · intro l q0 q1; by_cases hl : l = k
            · subst hl; omega
            · exact g2 l q0 (by omega)
        · skip
          refine j_aload_n (q := 22) F dX7_nowLine_21 rfl rfl 0 rfl ?_
          refine j_iload_n (q := 23) F dX7_nowLine_22 rfl rfl 3 rfl ?_
          refine j_callVE (q := 26) F [vI k] (ct_X7_behind l X hX M (by omega) k (by omega) (by omega)) gX7_nowLine_X7_behind rfl cd_X7_behind ⟨by first | exact Nat.le_of_ble_eq_true rfl | (simp only [rm]; omega) | (simp [rm, vI, vR, Value.category]; omega), by first | exact Nat.le_of_ble_eq_true rfl | (simp only [rm]; omega) | (simp [rm, vI, vR, Value.category]; omega), by first | exact Nat.le_of_ble_eq_true rfl | (simp only [rm]; omega) | (simp [rm, vI, vR, Value.category]; omega), by first | exact Nat.le_of_ble_eq_true rfl | (simp only [rm]; omega) | (simp [rm, vI, vR, Value.category]; omega)⟩ md82 rfl rfl rfl (Nat.le_of_ble_eq_true rfl) dX7_nowLine_23 rfl ?_
          refine j_iload_n (q := 27) F dX7_nowLine_26 rfl rfl 2 rfl ?_
          refine j_icmp_ne (q := 30) (tgt := 32) F dX7_nowLine_27 (by decide) rfl ⟨by omega, by omega⟩ ⟨by omega, by omega⟩ (fun h27_5 => ?_) (fun h27_5 => ?_)
          · skip
            refine j_iinc (q := 35) (lv' := [(0, vR X 82), (1, vI i), (2, vI j), (3, vI (k + 1))]) F dX7_nowLine_32 rfl 3 rfl (by decide) rfl rfl ?_
            refine j_goto (q := 2) F dX7_nowLine_35 (by decide) ?_
            refine ih2 (k + 1) (by omega) (by omega) ?_ (by omega)
            · intro l q0 q1; by_cases hl : l = k
              · subst hl; omega
              · exact g2 l q0 (by omega)
          · skip
            refine j_iload_n (q := 31) F dX7_nowLine_30 rfl rfl 3 rfl ?_
            exact hret _ _ _ _ dX7_nowLine_31 (by exact ⟨rfl, Or.inl ⟨g0, by omega, by omega, by omega⟩⟩)
  exact LP2 _ 0 (by omega) (by omega) (by intro l q0 q1; omega) (by exact Nat.lt_succ_self _)
theorem cd_X7_nowLine : yX7_nowLine.cls = RX7 ∧ yX7_nowLine.cls ≠ "java/lang/invoke/MethodHandle" ∧ yX7_nowLine.cls ≠ "java/lang/invoke/VarHandle" ∧ (parseMethodDescriptor yX7_nowLine.desc).map (fun d => d.parameters.length) = some 2 := by decide +kernel
theorem fl_X7_may_7 : Cond.fieldLink RX7 7 "WhiteRiversModel" "d" "[I" ∈ wsX7_may := by decide +kernel
theorem in_X7_may_7 : ∀ w ∈ u_ws RX7 TX7 19, w ∈ wsX7_may := by decide +kernel
set_option maxRecDepth 100000 in
set_option maxHeartbeats 400000 in
theorem ct_X7_may (l : Launch) (X : Cx) (hX : Inj X) (M : Mem) (hD : DOK (M 83)) (i j : Int) (h0 : 0 ≤ i) (h1 : i < j) (h2 : j ≤ M 83 0) : CtI l X yX7_may wsX7_may 2 [vR X 82, vI i, vI j] M (fun x M' => M' = M ∧ (x = 1 ∧ mayD (M 83) i j ∨ x = 0 ∧ ¬ mayD (M 83) i j)) := by
  refine CtI_ofZ (cc := cX7_may) (maxL := 5) hX (by decide +kernel) rfl (Nat.le_of_ble_eq_true rfl) ?_
  intro zp ze zs zm zargs zbelow zmeth zc zQ F hret
  show J zp l ze (rm 2) zs zm zargs zbelow zmeth zc 0 0 zQ zs.heap X 5 M 0 [(0, vR X 82), (1, vI i), (2, vI j)] []
  have hw := hD.w
  have hnn := hD.1
  have hww := hD.2.1
  have hlen := hw.2.2
  have hL24 := hD.L24
  have hss := hD.2.2.1
  have hxb := exD_bd hw h0 (show i ≤ j by omega) h2
  refine j_aload_n (q := 1) F dX7_may_0 rfl rfl 0 rfl ?_
  refine j_iload_n (q := 2) F dX7_may_1 rfl rfl 1 rfl ?_
  refine j_iload_n (q := 3) F dX7_may_2 rfl rfl 2 rfl ?_
  refine j_callVP (q := 6) F [vI i, vI j] (ct_X7_nowLine l X hX M hD i j ⟨by omega, by omega⟩ ⟨by omega, by omega⟩) gX7_may_X7_nowLine rfl cd_X7_nowLine ⟨by first | exact Nat.le_of_ble_eq_true rfl | (simp only [rm]; omega) | (simp [rm, vI, vR, Value.category]; omega), by first | exact Nat.le_of_ble_eq_true rfl | (simp only [rm]; omega) | (simp [rm, vI, vR, Value.category]; omega), by first | exact Nat.le_of_ble_eq_true rfl | (simp only [rm]; omega) | (simp [rm, vI, vR, Value.category]; omega), by first | exact Nat.le_of_ble_eq_true rfl | (simp only [rm]; omega) | (simp [rm, vI, vR, Value.category]; omega)⟩ md82 rfl rfl rfl (Nat.le_of_ble_eq_true rfl) dX7_may_3 rfl (fun x hx => ?_)
  have hxb2 : -1 ≤ x ∧ x < 24 := by rcases hx with ⟨q0, q1, -⟩ | ⟨q0, -⟩ <;> omega
  refine j_istore_n (q := 7) (lv' := [(0, vR X 82), (1, vI i), (2, vI j), (3, vI x)]) F dX7_may_6 rfl rfl (by decide) rfl rfl ?_
  refine j_iload_n (q := 8) F dX7_may_7 rfl rfl 3 rfl ?_
  refine j_iconst (q := 9) F dX7_may_8 rfl ?_
  refine j_icmp_eq (q := 12) (tgt := 27) F dX7_may_9 (by decide) rfl ⟨by omega, by omega⟩ ⟨by decide, by decide⟩ (fun h9_2 => ?_) (fun h9_2 => ?_)
  · skip
    refine j_iconst (q := 28) F dX7_may_27 rfl ?_
    refine j_istore (q := 30) (lv' := [(0, vR X 82), (1, vI i), (2, vI j), (3, vI x), (4, vI 0)]) F dX7_may_28 rfl (by decide) rfl rfl ?_
    have LP30 : ∀ (nn : Nat) (k : Int), (0 ≤ k) → (k ≤ M 83 3) → (∀ l, 0 ≤ l → l < k → ¬ (M 83 (53 + l) = 1 ∧ sd (M 83) l < j ∧ i < sd (M 83) (l + 1))) → (M 83 3 - k).toNat < nn → J zp l ze (rm 2) zs zm zargs zbelow zmeth zc 0 0 zQ zs.heap X 5 M 30 [(0, vR X 82), (1, vI i), (2, vI j), (3, vI x), (4, vI k)] [] := by
      intro nn
      induction nn with
      | zero => intro k g0 g1 g2 hm30; exact absurd hm30 (Nat.not_lt_zero _)
      | succ nn ih30 =>
        intro k g0 g1 g2 hm30
        refine j_iload (q := 32) F dX7_may_30 rfl 4 rfl ?_
        refine j_aload_n (q := 33) F dX7_may_32 rfl rfl 0 rfl ?_
        refine j_getR (q := 36) (z := 83) (index := 7) F md82 rfl in_X7_may_7 0 (by decide) rfl fl_X7_may_7 dX7_may_33 rfl ?_
        refine j_iconst (q := 37) F dX7_may_36 rfl ?_
        refine j_iald (q := 38) F ar83 (by omega) (by omega) (by decide) dX7_may_37 rfl ?_
        refine j_icmp_ge (q := 41) (tgt := 83) F dX7_may_38 (by decide) rfl ⟨by omega, by omega⟩ ⟨by omega, by omega⟩ (fun h38_3 => ?_) (fun h38_3 => ?_)
        · skip
          refine j_iload_n (q := 84) F dX7_may_83 rfl rfl 2 rfl ?_
          refine j_aload_n (q := 85) F dX7_may_84 rfl rfl 0 rfl ?_
          refine j_getR (q := 88) (z := 83) (index := 7) F md82 rfl in_X7_may_7 0 (by decide) rfl fl_X7_may_7 dX7_may_85 rfl ?_
          refine j_iconst (q := 89) F dX7_may_88 rfl ?_
          refine j_iald (q := 90) F ar83 (by omega) (by omega) (by decide) dX7_may_89 rfl ?_
          refine j_icmp_eq (q := 93) (tgt := 115) F dX7_may_90 (by decide) rfl ⟨by omega, by omega⟩ ⟨by omega, by omega⟩ (fun h90_4 => ?_) (fun h90_4 => ?_)
          · skip
            refine j_iconst (q := 116) F dX7_may_115 rfl ?_
            refine j_goto (q := 120) F dX7_may_116 (by decide) ?_
            refine hret _ _ _ _ dX7_may_120 (Or.inr rfl) ?_
            · have hno : ¬ ∃ l, 0 ≤ l ∧ l < M 83 3 ∧ M 83 (53 + l) = 1 ∧ sd (M 83) l < j ∧ i < sd (M 83) (l + 1) := fun z => by obtain ⟨l, q0, q1, q2, q3, q4⟩ := z; exact g2 l q0 (by omega) ⟨q2, q3, q4⟩
              exact ⟨rfl, Or.inl ⟨rfl, Or.inr ⟨hno, by omega⟩⟩⟩
          · skip
            refine j_aload_n (q := 94) F dX7_may_93 rfl rfl 0 rfl ?_
            refine j_getR (q := 97) (z := 83) (index := 7) F md82 rfl in_X7_may_7 0 (by decide) rfl fl_X7_may_7 dX7_may_94 rfl ?_
            refine j_iconst (q := 98) F dX7_may_97 rfl ?_
            refine j_iald (q := 99) F ar83 (by omega) (by omega) (by decide) dX7_may_98 rfl ?_
            refine j_aload_n (q := 100) F dX7_may_99 rfl rfl 0 rfl ?_
            refine j_iload_n (q := 101) F dX7_may_100 rfl rfl 1 rfl ?_
            refine j_iload_n (q := 102) F dX7_may_101 rfl rfl 2 rfl ?_
            refine j_callVE (q := 105) F [vI i, vI j] (ct_X7_needs l X hX M hw i j (by omega) (by omega) (by omega)) gX7_may_X7_needs rfl cd_X7_needs ⟨by first | exact Nat.le_of_ble_eq_true rfl | (simp only [rm]; omega) | (simp [rm, vI, vR, Value.category]; omega), by first | exact Nat.le_of_ble_eq_true rfl | (simp only [rm]; omega) | (simp [rm, vI, vR, Value.category]; omega), by first | exact Nat.le_of_ble_eq_true rfl | (simp only [rm]; omega) | (simp [rm, vI, vR, Value.category]; omega), by first | exact Nat.le_of_ble_eq_true rfl | (simp only [rm]; omega) | (simp [rm, vI, vR, Value.category]; omega)⟩ md82 rfl rfl rfl (Nat.le_of_ble_eq_true rfl) dX7_may_102 rfl ?_
            refine j_isub (q := 106) (z := (M 83 1) - (M 83 1 - exD (M 83) i j)) F dX7_may_105 rfl rfl ?_
            refine j_aload_n (q := 107) F dX7_may_106 rfl rfl 0 rfl ?_
            refine j_getR (q := 110) (z := 83) (index := 7) F md82 rfl in_X7_may_7 0 (by decide) rfl fl_X7_may_7 dX7_may_107 rfl ?_
            refine j_iconst (q := 111) F dX7_may_110 rfl ?_
            refine j_iald (q := 112) F ar83 (by omega) (by omega) (by decide) dX7_may_111 rfl ?_
            refine j_icmp_gt (q := 115) (tgt := 119) F dX7_may_112 (by decide) rfl ⟨by omega, by omega⟩ ⟨by omega, by omega⟩ (fun h112_6 => ?_) (fun h112_6 => ?_)
            · skip
              refine j_iconst (q := 120) F dX7_may_119 rfl ?_
              refine hret _ _ _ _ dX7_may_120 (Or.inl rfl) ?_
              · have hno : ¬ ∃ l, 0 ≤ l ∧ l < M 83 3 ∧ M 83 (53 + l) = 1 ∧ sd (M 83) l < j ∧ i < sd (M 83) (l + 1) := fun z => by obtain ⟨l, q0, q1, q2, q3, q4⟩ := z; exact g2 l q0 (by omega) ⟨q2, q3, q4⟩
                refine ⟨rfl, Or.inr ⟨rfl, fun z => ?_⟩⟩
                rcases z with ⟨l, q0, q1, q2, q3, q4⟩ | ⟨-, q⟩
                · exact hno ⟨l, q0, q1, q4, by have := (hD.2.2.2.2.2.2 l q0 q1).1; omega, by have := (hD.2.2.2.2.2.2 l q0 q1).1; omega⟩
                · omega
            · skip
              refine j_iconst (q := 116) F dX7_may_115 rfl ?_
              refine j_goto (q := 120) F dX7_may_116 (by decide) ?_
              refine hret _ _ _ _ dX7_may_120 (Or.inr rfl) ?_
              · have hno : ¬ ∃ l, 0 ≤ l ∧ l < M 83 3 ∧ M 83 (53 + l) = 1 ∧ sd (M 83) l < j ∧ i < sd (M 83) (l + 1) := fun z => by obtain ⟨l, q0, q1, q2, q3, q4⟩ := z; exact g2 l q0 (by omega) ⟨q2, q3, q4⟩
                exact ⟨rfl, Or.inl ⟨rfl, Or.inr ⟨hno, by omega⟩⟩⟩
        · skip
          have hmk := (hD.2.2.2.2.2.2 k g0 (by omega)).2.1
          have hbk := hD.bdall (l := k) (by omega)
          have hbk1 := hD.bdall (l := k + 1) (by omega)
          refine j_aload_n (q := 42) F dX7_may_41 rfl rfl 0 rfl ?_
          refine j_getR (q := 45) (z := 83) (index := 7) F md82 rfl in_X7_may_7 0 (by decide) rfl fl_X7_may_7 dX7_may_42 rfl ?_
          refine j_bipush (q := 47) F dX7_may_45 rfl (by decide) ?_
          refine j_iload (q := 49) F dX7_may_47 rfl 4 rfl ?_
          refine j_iadd (q := 50) (z := 53 + k) F dX7_may_49 rfl rfl ?_
          refine j_iald (q := 51) F ar83 (by omega) (by omega) (by decide) dX7_may_50 rfl ?_
          refine j_iconst (q := 52) F dX7_may_51 rfl ?_
          refine j_icmp_ne (q := 55) (tgt := 77) F dX7_may_52 (by decide) rfl ⟨by omega, by omega⟩ ⟨by decide, by decide⟩ (fun h52_7 => ?_) (fun h52_7 => ?_)
          · skip
            refine j_iinc (q := 80) (lv' := [(0, vR X 82), (1, vI i), (2, vI j), (3, vI x), (4, vI (k + 1))]) F dX7_may_77 rfl 4 rfl (by decide) rfl rfl ?_
            refine j_goto (q := 30) F dX7_may_80 (by decide) ?_
            refine ih30 (k + 1) (by omega) (by omega) ?_ (by omega)
            · intro l q0 q1; by_cases hl : l = k
              · subst hl; omega
              · exact g2 l q0 (by omega)
          · skip
            refine j_aload_n (q := 56) F dX7_may_55 rfl rfl 0 rfl ?_
            refine j_iload (q := 58) F dX7_may_56 rfl 4 rfl ?_
            refine j_callVE (q := 61) F [vI k] (ct_X7_first l X hX M k (by omega) (by omega)) gX7_may_X7_first rfl cd_X7_first ⟨by first | exact Nat.le_of_ble_eq_true rfl | (simp only [rm]; omega) | (simp [rm, vI, vR, Value.category]; omega), by first | exact Nat.le_of_ble_eq_true rfl | (simp only [rm]; omega) | (simp [rm, vI, vR, Value.category]; omega), by first | exact Nat.le_of_ble_eq_true rfl | (simp only [rm]; omega) | (simp [rm, vI, vR, Value.category]; omega), by first | exact Nat.le_of_ble_eq_true rfl | (simp only [rm]; omega) | (simp [rm, vI, vR, Value.category]; omega)⟩ md82 rfl rfl rfl (Nat.le_of_ble_eq_true rfl) dX7_may_58 rfl ?_
            rw [show M 83 (28 + k) = sd (M 83) k from by exact (sd_in (by omega)).symm]
            refine j_iload_n (q := 62) F dX7_may_61 rfl rfl 2 rfl ?_
            refine j_icmp_ge (q := 65) (tgt := 77) F dX7_may_62 (by decide) rfl ⟨by omega, by omega⟩ ⟨by omega, by omega⟩ (fun h62_9 => ?_) (fun h62_9 => ?_)
            · skip
              refine j_iinc (q := 80) (lv' := [(0, vR X 82), (1, vI i), (2, vI j), (3, vI x), (4, vI (k + 1))]) F dX7_may_77 rfl 4 rfl (by decide) rfl rfl ?_
              refine j_goto (q := 30) F dX7_may_80 (by decide) ?_
              refine ih30 (k + 1) (by omega) (by omega) ?_ (by omega)
              · intro l q0 q1; by_cases hl : l = k
                · subst hl; omega
                · exact g2 l q0 (by omega)
            · skip
              refine j_aload_n (q := 66) F dX7_may_65 rfl rfl 0 rfl ?_
              refine j_iload (q := 68) F dX7_may_66 rfl 4 rfl ?_
              refine j_callVE (q := 71) F [vI k] (ct_X7_behind l X hX M (by omega) k (by omega) (by omega)) gX7_may_X7_behind rfl cd_X7_behind ⟨by first | exact Nat.le_of_ble_eq_true rfl | (simp only [rm]; omega) | (simp [rm, vI, vR, Value.category]; omega), by first | exact Nat.le_of_ble_eq_true rfl | (simp only [rm]; omega) | (simp [rm, vI, vR, Value.category]; omega), by first | exact Nat.le_of_ble_eq_true rfl | (simp only [rm]; omega) | (simp [rm, vI, vR, Value.category]; omega), by first | exact Nat.le_of_ble_eq_true rfl | (simp only [rm]; omega) | (simp [rm, vI, vR, Value.category]; omega)⟩ md82 rfl rfl rfl (Nat.le_of_ble_eq_true rfl) dX7_may_68 rfl ?_
              refine j_iload_n (q := 72) F dX7_may_71 rfl rfl 1 rfl ?_
              refine j_icmp_le (q := 75) (tgt := 77) F dX7_may_72 (by decide) rfl ⟨by omega, by omega⟩ ⟨by omega, by omega⟩ (fun h72_11 => ?_) (fun h72_11 => ?_)
              · skip
                refine j_iinc (q := 80) (lv' := [(0, vR X 82), (1, vI i), (2, vI j), (3, vI x), (4, vI (k + 1))]) F dX7_may_77 rfl 4 rfl (by decide) rfl rfl ?_
                refine j_goto (q := 30) F dX7_may_80 (by decide) ?_
                refine ih30 (k + 1) (by omega) (by omega) ?_ (by omega)
                · intro l q0 q1; by_cases hl : l = k
                  · subst hl; omega
                  · exact g2 l q0 (by omega)
              · skip
                refine j_iconst (q := 76) F dX7_may_75 rfl ?_
                refine hret _ _ _ _ dX7_may_76 (Or.inl rfl) ?_
                · refine ⟨rfl, Or.inr ⟨rfl, fun z => ?_⟩⟩
                  rcases z with ⟨l, q0, q1, q2, q3, q4⟩ | ⟨q, -⟩
                  · rcases hx with ⟨x0, x1, x2, x3⟩ | ⟨x0, x1⟩
                    · have := hD.segu (w := i) q0 q1 (by omega) (by omega) x0 x1 (by omega) (by omega)
                      subst this
                      omega
                    · exact x1 ⟨l, q0, q1, q2, q3⟩
                  · exact q ⟨k, by omega, by omega, by omega, by omega, by omega⟩
    exact LP30 _ 0 (by omega) (by omega) (by intro l q0 q1; omega) (by exact Nat.lt_succ_self _)
  · skip
    refine j_aload_n (q := 13) F dX7_may_12 rfl rfl 0 rfl ?_
    refine j_getR (q := 16) (z := 83) (index := 7) F md82 rfl in_X7_may_7 0 (by decide) rfl fl_X7_may_7 dX7_may_13 rfl ?_
    have hmx : M 83 (53 + x) = 0 ∨ M 83 (53 + x) = 1 := by
      rcases hx with ⟨q0, q1, -⟩ | ⟨q0, -⟩
      · exact (hD.2.2.2.2.2.2 x q0 q1).2.1
      · omega
    refine j_bipush (q := 18) F dX7_may_16 rfl (by decide) ?_
    refine j_iload_n (q := 19) F dX7_may_18 rfl rfl 3 rfl ?_
    refine j_iadd (q := 20) (z := 53 + x) F dX7_may_19 rfl rfl ?_
    refine j_iald (q := 21) F ar83 (by omega) (by omega) (by decide) dX7_may_20 rfl ?_
    refine j_iconst (q := 22) F dX7_may_21 rfl ?_
    refine j_icmp_ne (q := 25) (tgt := 27) F dX7_may_22 (by decide) rfl ⟨by omega, by omega⟩ ⟨by decide, by decide⟩ (fun h22_12 => ?_) (fun h22_12 => ?_)
    · skip
      refine j_iconst (q := 28) F dX7_may_27 rfl ?_
      refine j_istore (q := 30) (lv' := [(0, vR X 82), (1, vI i), (2, vI j), (3, vI x), (4, vI 0)]) F dX7_may_28 rfl (by decide) rfl rfl ?_
      have LP30 : ∀ (nn : Nat) (k : Int), (0 ≤ k) → (k ≤ M 83 3) → (∀ l, 0 ≤ l → l < k → ¬ (M 83 (53 + l) = 1 ∧ sd (M 83) l < j ∧ i < sd (M 83) (l + 1))) → (M 83 3 - k).toNat < nn → J zp l ze (rm 2) zs zm zargs zbelow zmeth zc 0 0 zQ zs.heap X 5 M 30 [(0, vR X 82), (1, vI i), (2, vI j), (3, vI x), (4, vI k)] [] := by
        intro nn
        induction nn with
        | zero => intro k g0 g1 g2 hm30; exact absurd hm30 (Nat.not_lt_zero _)
        | succ nn ih30 =>
          intro k g0 g1 g2 hm30
          refine j_iload (q := 32) F dX7_may_30 rfl 4 rfl ?_
          refine j_aload_n (q := 33) F dX7_may_32 rfl rfl 0 rfl ?_
          refine j_getR (q := 36) (z := 83) (index := 7) F md82 rfl in_X7_may_7 0 (by decide) rfl fl_X7_may_7 dX7_may_33 rfl ?_
          refine j_iconst (q := 37) F dX7_may_36 rfl ?_
          refine j_iald (q := 38) F ar83 (by omega) (by omega) (by decide) dX7_may_37 rfl ?_
          refine j_icmp_ge (q := 41) (tgt := 83) F dX7_may_38 (by decide) rfl ⟨by omega, by omega⟩ ⟨by omega, by omega⟩ (fun h38_13 => ?_) (fun h38_13 => ?_)
          · skip
            refine j_iload_n (q := 84) F dX7_may_83 rfl rfl 2 rfl ?_
            refine j_aload_n (q := 85) F dX7_may_84 rfl rfl 0 rfl ?_
            refine j_getR (q := 88) (z := 83) (index := 7) F md82 rfl in_X7_may_7 0 (by decide) rfl fl_X7_may_7 dX7_may_85 rfl ?_
            refine j_iconst (q := 89) F dX7_may_88 rfl ?_
            refine j_iald (q := 90) F ar83 (by omega) (by omega) (by decide) dX7_may_89 rfl ?_
            refine j_icmp_eq (q := 93) (tgt := 115) F dX7_may_90 (by decide) rfl ⟨by omega, by omega⟩ ⟨by omega, by omega⟩ (fun h90_14 => ?_) (fun h90_14 => ?_)
            · skip
              refine j_iconst (q := 116) F dX7_may_115 rfl ?_
              refine j_goto (q := 120) F dX7_may_116 (by decide) ?_
              refine hret _ _ _ _ dX7_may_120 (Or.inr rfl) ?_
              · have hno : ¬ ∃ l, 0 ≤ l ∧ l < M 83 3 ∧ M 83 (53 + l) = 1 ∧ sd (M 83) l < j ∧ i < sd (M 83) (l + 1) := fun z => by obtain ⟨l, q0, q1, q2, q3, q4⟩ := z; exact g2 l q0 (by omega) ⟨q2, q3, q4⟩
                exact ⟨rfl, Or.inl ⟨rfl, Or.inr ⟨hno, by omega⟩⟩⟩
            · skip
              refine j_aload_n (q := 94) F dX7_may_93 rfl rfl 0 rfl ?_
              refine j_getR (q := 97) (z := 83) (index := 7) F md82 rfl in_X7_may_7 0 (by decide) rfl fl_X7_may_7 dX7_may_94 rfl ?_
              refine j_iconst (q := 98) F dX7_may_97 rfl ?_
              refine j_iald (q := 99) F ar83 (by omega) (by omega) (by decide) dX7_may_98 rfl ?_
              refine j_aload_n (q := 100) F dX7_may_99 rfl rfl 0 rfl ?_
              refine j_iload_n (q := 101) F dX7_may_100 rfl rfl 1 rfl ?_
              refine j_iload_n (q := 102) F dX7_may_101 rfl rfl 2 rfl ?_
              refine j_callVE (q := 105) F [vI i, vI j] (ct_X7_needs l X hX M hw i j (by omega) (by omega) (by omega)) gX7_may_X7_needs rfl cd_X7_needs ⟨by first | exact Nat.le_of_ble_eq_true rfl | (simp only [rm]; omega) | (simp [rm, vI, vR, Value.category]; omega), by first | exact Nat.le_of_ble_eq_true rfl | (simp only [rm]; omega) | (simp [rm, vI, vR, Value.category]; omega), by first | exact Nat.le_of_ble_eq_true rfl | (simp only [rm]; omega) | (simp [rm, vI, vR, Value.category]; omega), by first | exact Nat.le_of_ble_eq_true rfl | (simp only [rm]; omega) | (simp [rm, vI, vR, Value.category]; omega)⟩ md82 rfl rfl rfl (Nat.le_of_ble_eq_true rfl) dX7_may_102 rfl ?_
              refine j_isub (q := 106) (z := (M 83 1) - (M 83 1 - exD (M 83) i j)) F dX7_may_105 rfl rfl ?_
              refine j_aload_n (q := 107) F dX7_may_106 rfl rfl 0 rfl ?_
              refine j_getR (q := 110) (z := 83) (index := 7) F md82 rfl in_X7_may_7 0 (by decide) rfl fl_X7_may_7 dX7_may_107 rfl ?_
              refine j_iconst (q := 111) F dX7_may_110 rfl ?_
              refine j_iald (q := 112) F ar83 (by omega) (by omega) (by decide) dX7_may_111 rfl ?_
              refine j_icmp_gt (q := 115) (tgt := 119) F dX7_may_112 (by decide) rfl ⟨by omega, by omega⟩ ⟨by omega, by omega⟩ (fun h112_16 => ?_) (fun h112_16 => ?_)
              · skip
                refine j_iconst (q := 120) F dX7_may_119 rfl ?_
                refine hret _ _ _ _ dX7_may_120 (Or.inl rfl) ?_
                · have hno : ¬ ∃ l, 0 ≤ l ∧ l < M 83 3 ∧ M 83 (53 + l) = 1 ∧ sd (M 83) l < j ∧ i < sd (M 83) (l + 1) := fun z => by obtain ⟨l, q0, q1, q2, q3, q4⟩ := z; exact g2 l q0 (by omega) ⟨q2, q3, q4⟩
                  refine ⟨rfl, Or.inr ⟨rfl, fun z => ?_⟩⟩
                  rcases z with ⟨l, q0, q1, q2, q3, q4⟩ | ⟨-, q⟩
                  · exact hno ⟨l, q0, q1, q4, by have := (hD.2.2.2.2.2.2 l q0 q1).1; omega, by have := (hD.2.2.2.2.2.2 l q0 q1).1; omega⟩
                  · omega
              · skip
                refine j_iconst (q := 116) F dX7_may_115 rfl ?_
                refine j_goto (q := 120) F dX7_may_116 (by decide) ?_
                refine hret _ _ _ _ dX7_may_120 (Or.inr rfl) ?_
                · have hno : ¬ ∃ l, 0 ≤ l ∧ l < M 83 3 ∧ M 83 (53 + l) = 1 ∧ sd (M 83) l < j ∧ i < sd (M 83) (l + 1) := fun z => by obtain ⟨l, q0, q1, q2, q3, q4⟩ := z; exact g2 l q0 (by omega) ⟨q2, q3, q4⟩
                  exact ⟨rfl, Or.inl ⟨rfl, Or.inr ⟨hno, by omega⟩⟩⟩
          · skip
            have hmk := (hD.2.2.2.2.2.2 k g0 (by omega)).2.1
            have hbk := hD.bdall (l := k) (by omega)
            have hbk1 := hD.bdall (l := k + 1) (by omega)
            refine j_aload_n (q := 42) F dX7_may_41 rfl rfl 0 rfl ?_
            refine j_getR (q := 45) (z := 83) (index := 7) F md82 rfl in_X7_may_7 0 (by decide) rfl fl_X7_may_7 dX7_may_42 rfl ?_
            refine j_bipush (q := 47) F dX7_may_45 rfl (by decide) ?_
            refine j_iload (q := 49) F dX7_may_47 rfl 4 rfl ?_
            refine j_iadd (q := 50) (z := 53 + k) F dX7_may_49 rfl rfl ?_
            refine j_iald (q := 51) F ar83 (by omega) (by omega) (by decide) dX7_may_50 rfl ?_
            refine j_iconst (q := 52) F dX7_may_51 rfl ?_
            refine j_icmp_ne (q := 55) (tgt := 77) F dX7_may_52 (by decide) rfl ⟨by omega, by omega⟩ ⟨by decide, by decide⟩ (fun h52_17 => ?_) (fun h52_17 => ?_)
            · skip
              refine j_iinc (q := 80) (lv' := [(0, vR X 82), (1, vI i), (2, vI j), (3, vI x), (4, vI (k + 1))]) F dX7_may_77 rfl 4 rfl (by decide) rfl rfl ?_
              refine j_goto (q := 30) F dX7_may_80 (by decide) ?_
              refine ih30 (k + 1) (by omega) (by omega) ?_ (by omega)
              · intro l q0 q1; by_cases hl : l = k
                · subst hl; omega
                · exact g2 l q0 (by omega)
            · skip
              refine j_aload_n (q := 56) F dX7_may_55 rfl rfl 0 rfl ?_
              refine j_iload (q := 58) F dX7_may_56 rfl 4 rfl ?_
              refine j_callVE (q := 61) F [vI k] (ct_X7_first l X hX M k (by omega) (by omega)) gX7_may_X7_first rfl cd_X7_first ⟨by first | exact Nat.le_of_ble_eq_true rfl | (simp only [rm]; omega) | (simp [rm, vI, vR, Value.category]; omega), by first | exact Nat.le_of_ble_eq_true rfl | (simp only [rm]; omega) | (simp [rm, vI, vR, Value.category]; omega), by first | exact Nat.le_of_ble_eq_true rfl | (simp only [rm]; omega) | (simp [rm, vI, vR, Value.category]; omega), by first | exact Nat.le_of_ble_eq_true rfl | (simp only [rm]; omega) | (simp [rm, vI, vR, Value.category]; omega)⟩ md82 rfl rfl rfl (Nat.le_of_ble_eq_true rfl) dX7_may_58 rfl ?_
              rw [show M 83 (28 + k) = sd (M 83) k from by exact (sd_in (by omega)).symm]
              refine j_iload_n (q := 62) F dX7_may_61 rfl rfl 2 rfl ?_
              refine j_icmp_ge (q := 65) (tgt := 77) F dX7_may_62 (by decide) rfl ⟨by omega, by omega⟩ ⟨by omega, by omega⟩ (fun h62_19 => ?_) (fun h62_19 => ?_)
              · skip
                refine j_iinc (q := 80) (lv' := [(0, vR X 82), (1, vI i), (2, vI j), (3, vI x), (4, vI (k + 1))]) F dX7_may_77 rfl 4 rfl (by decide) rfl rfl ?_
                refine j_goto (q := 30) F dX7_may_80 (by decide) ?_
                refine ih30 (k + 1) (by omega) (by omega) ?_ (by omega)
                · intro l q0 q1; by_cases hl : l = k
                  · subst hl; omega
                  · exact g2 l q0 (by omega)
              · skip
                refine j_aload_n (q := 66) F dX7_may_65 rfl rfl 0 rfl ?_
                refine j_iload (q := 68) F dX7_may_66 rfl 4 rfl ?_
                refine j_callVE (q := 71) F [vI k] (ct_X7_behind l X hX M (by omega) k (by omega) (by omega)) gX7_may_X7_behind rfl cd_X7_behind ⟨by first | exact Nat.le_of_ble_eq_true rfl | (simp only [rm]; omega) | (simp [rm, vI, vR, Value.category]; omega), by first | exact Nat.le_of_ble_eq_true rfl | (simp only [rm]; omega) | (simp [rm, vI, vR, Value.category]; omega), by first | exact Nat.le_of_ble_eq_true rfl | (simp only [rm]; omega) | (simp [rm, vI, vR, Value.category]; omega), by first | exact Nat.le_of_ble_eq_true rfl | (simp only [rm]; omega) | (simp [rm, vI, vR, Value.category]; omega)⟩ md82 rfl rfl rfl (Nat.le_of_ble_eq_true rfl) dX7_may_68 rfl ?_
                refine j_iload_n (q := 72) F dX7_may_71 rfl rfl 1 rfl ?_
                refine j_icmp_le (q := 75) (tgt := 77) F dX7_may_72 (by decide) rfl ⟨by omega, by omega⟩ ⟨by omega, by omega⟩ (fun h72_21 => ?_) (fun h72_21 => ?_)
                · skip
                  refine j_iinc (q := 80) (lv' := [(0, vR X 82), (1, vI i), (2, vI j), (3, vI x), (4, vI (k + 1))]) F dX7_may_77 rfl 4 rfl (by decide) rfl rfl ?_
                  refine j_goto (q := 30) F dX7_may_80 (by decide) ?_
                  refine ih30 (k + 1) (by omega) (by omega) ?_ (by omega)
                  · intro l q0 q1; by_cases hl : l = k
                    · subst hl; omega
                    · exact g2 l q0 (by omega)
                · skip
                  refine j_iconst (q := 76) F dX7_may_75 rfl ?_
                  refine hret _ _ _ _ dX7_may_76 (Or.inl rfl) ?_
                  · refine ⟨rfl, Or.inr ⟨rfl, fun z => ?_⟩⟩
                    rcases z with ⟨l, q0, q1, q2, q3, q4⟩ | ⟨q, -⟩
                    · rcases hx with ⟨x0, x1, x2, x3⟩ | ⟨x0, x1⟩
                      · have := hD.segu (w := i) q0 q1 (by omega) (by omega) x0 x1 (by omega) (by omega)
                        subst this
                        omega
                      · exact x1 ⟨l, q0, q1, q2, q3⟩
                    · exact q ⟨k, by omega, by omega, by omega, by omega, by omega⟩
      exact LP30 _ 0 (by omega) (by omega) (by intro l q0 q1; omega) (by exact Nat.lt_succ_self _)
    · skip
      refine j_iconst (q := 26) F dX7_may_25 rfl ?_
      refine hret _ _ _ _ dX7_may_26 (Or.inr rfl) ?_
      · refine ⟨rfl, Or.inl ⟨rfl, Or.inl ?_⟩⟩
        rcases hx with ⟨q0, q1, q2, q3⟩ | ⟨q0, -⟩
        · exact ⟨x, q0, q1, q2, q3, by omega⟩
        · omega
