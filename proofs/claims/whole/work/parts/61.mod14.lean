theorem fl_X7_extraOf_7 : Cond.fieldLink RX7 7 "WhiteRiversModel" "d" "[I" ∈ wsX7_extraOf := by decide +kernel
theorem in_X7_extraOf_7 : ∀ w ∈ u_ws RX7 TX7 19, w ∈ wsX7_extraOf := by decide +kernel
set_option maxRecDepth 100000 in
set_option maxHeartbeats 400000 in
theorem ct_X7_extraOf (l : Launch) (X : Cx) (hX : Inj X) (M : Mem) (hD : DOK (M 83)) (n : Int) (h0 : 0 ≤ n) (h1 : n < M 83 3) : CtI l X yX7_extraOf wsX7_extraOf 1 [vR X 82, vI n] M (fun x M' => M' = M ∧ x = exD (M 83) (sd (M 83) n) (sd (M 83) (n + 1))) := by
  refine CtI_of (cc := cX7_extraOf) (maxL := 2) hX (by decide +kernel) rfl (Nat.le_of_ble_eq_true rfl) ?_
  intro zp ze zs zm zargs zbelow zmeth zc zQ F hret
  show J zp l ze (rm 1) zs zm zargs zbelow zmeth zc 0 0 zQ zs.heap X 2 M 0 [(0, vR X 82), (1, vI n)] []
  have hw := hD.w
  have hnn := hD.1
  have hww := hD.2.1
  have hlen := hw.2.2
  have hL24 := hD.L24
  have hss := hD.2.2.1
  have hb := hD.bdall h0
  have hb1 := hD.bdall (l := n + 1) (by omega)
  have hs := (hD.2.2.2.2.2.2 n h0 h1).1
  refine j_aload_n (q := 1) F dX7_extraOf_0 rfl rfl 0 rfl ?_
  refine j_getR (q := 4) (z := 83) (index := 7) F md82 rfl in_X7_extraOf_7 0 (by decide) rfl fl_X7_extraOf_7 dX7_extraOf_1 rfl ?_
  refine j_iconst (q := 5) F dX7_extraOf_4 rfl ?_
  refine j_iald (q := 6) F ar83 (by omega) (by omega) (by decide) dX7_extraOf_5 rfl ?_
  refine j_aload_n (q := 7) F dX7_extraOf_6 rfl rfl 0 rfl ?_
  refine j_aload_n (q := 8) F dX7_extraOf_7 rfl rfl 0 rfl ?_
  refine j_iload_n (q := 9) F dX7_extraOf_8 rfl rfl 1 rfl ?_
  refine j_callVE (q := 12) F [vI n] (ct_X7_first l X hX M n (by omega) (by omega)) gX7_extraOf_X7_first rfl cd_X7_first ⟨by first | exact Nat.le_of_ble_eq_true rfl | (simp only [rm]; omega) | (simp [rm, vI, vR, Value.category]; omega), by first | exact Nat.le_of_ble_eq_true rfl | (simp only [rm]; omega) | (simp [rm, vI, vR, Value.category]; omega), by first | exact Nat.le_of_ble_eq_true rfl | (simp only [rm]; omega) | (simp [rm, vI, vR, Value.category]; omega), by first | exact Nat.le_of_ble_eq_true rfl | (simp only [rm]; omega) | (simp [rm, vI, vR, Value.category]; omega)⟩ md82 rfl rfl rfl (Nat.le_of_ble_eq_true rfl) dX7_extraOf_9 rfl ?_
  rw [show M 83 (28 + n) = sd (M 83) n from by exact (sd_in h1).symm]
  refine j_aload_n (q := 13) F dX7_extraOf_12 rfl rfl 0 rfl ?_
  refine j_iload_n (q := 14) F dX7_extraOf_13 rfl rfl 1 rfl ?_
  refine j_callVE (q := 17) F [vI n] (ct_X7_behind l X hX M (by omega) n (by omega) (by omega)) gX7_extraOf_X7_behind rfl cd_X7_behind ⟨by first | exact Nat.le_of_ble_eq_true rfl | (simp only [rm]; omega) | (simp [rm, vI, vR, Value.category]; omega), by first | exact Nat.le_of_ble_eq_true rfl | (simp only [rm]; omega) | (simp [rm, vI, vR, Value.category]; omega), by first | exact Nat.le_of_ble_eq_true rfl | (simp only [rm]; omega) | (simp [rm, vI, vR, Value.category]; omega), by first | exact Nat.le_of_ble_eq_true rfl | (simp only [rm]; omega) | (simp [rm, vI, vR, Value.category]; omega)⟩ md82 rfl rfl rfl (Nat.le_of_ble_eq_true rfl) dX7_extraOf_14 rfl ?_
  refine j_callVE (q := 20) F [vI (sd (M 83) n), vI (sd (M 83) (n + 1))] (ct_X7_needs l X hX M hw (sd (M 83) n) (sd (M 83) (n + 1)) (by omega) (by omega) (by omega)) gX7_extraOf_X7_needs rfl cd_X7_needs ⟨by first | exact Nat.le_of_ble_eq_true rfl | (simp only [rm]; omega) | (simp [rm, vI, vR, Value.category]; omega), by first | exact Nat.le_of_ble_eq_true rfl | (simp only [rm]; omega) | (simp [rm, vI, vR, Value.category]; omega), by first | exact Nat.le_of_ble_eq_true rfl | (simp only [rm]; omega) | (simp [rm, vI, vR, Value.category]; omega), by first | exact Nat.le_of_ble_eq_true rfl | (simp only [rm]; omega) | (simp [rm, vI, vR, Value.category]; omega)⟩ md82 rfl rfl rfl (Nat.le_of_ble_eq_true rfl) dX7_extraOf_17 rfl ?_
  refine j_isub (q := 21) (z := (M 83 1) - (M 83 1 - exD (M 83) (sd (M 83) n) (sd (M 83) (n + 1)))) F dX7_extraOf_20 rfl rfl ?_
  exact hret _ _ _ _ dX7_extraOf_21 (by refine ⟨rfl, ?_⟩; omega)
theorem cd_X7_extraOf : yX7_extraOf.cls = RX7 ∧ yX7_extraOf.cls ≠ "java/lang/invoke/MethodHandle" ∧ yX7_extraOf.cls ≠ "java/lang/invoke/VarHandle" ∧ (parseMethodDescriptor yX7_extraOf.desc).map (fun d => d.parameters.length) = some 1 := by decide +kernel
theorem fl_X7_badOf_7 : Cond.fieldLink RX7 7 "WhiteRiversModel" "d" "[I" ∈ wsX7_badOf := by decide +kernel
theorem in_X7_badOf_7 : ∀ w ∈ u_ws RX7 TX7 19, w ∈ wsX7_badOf := by decide +kernel
set_option maxRecDepth 100000 in
set_option maxHeartbeats 400000 in
theorem ct_X7_badOf (l : Launch) (X : Cx) (hX : Inj X) (M : Mem) (hD : DOK (M 83)) (n : Int) (h0 : 0 ≤ n) (h1 : n < M 83 3) : CtI l X yX7_badOf wsX7_badOf 2 [vR X 82, vI n] M (fun x M' => M' = M ∧ x = bdD (M 83) (sd (M 83) n) (sd (M 83) (n + 1))) := by
  refine CtI_of (cc := cX7_badOf) (maxL := 2) hX (by decide +kernel) rfl (Nat.le_of_ble_eq_true rfl) ?_
  intro zp ze zs zm zargs zbelow zmeth zc zQ F hret
  show J zp l ze (rm 2) zs zm zargs zbelow zmeth zc 0 0 zQ zs.heap X 2 M 0 [(0, vR X 82), (1, vI n)] []
  have hw := hD.w
  have hnn := hD.1
  have hww := hD.2.1
  have hlen := hw.2.2
  have hL24 := hD.L24
  have hss := hD.2.2.1
  have hsl : n + 1 < M 83 3 → sd (M 83) (n + 1) < M 83 0 := fun z => by have := hD.bd (l := n + 1) (by omega) (by omega); omega
  refine j_iload_n (q := 1) F dX7_badOf_0 rfl rfl 1 rfl ?_
  refine j_iconst (q := 2) F dX7_badOf_1 rfl ?_
  refine j_iadd (q := 3) (z := n + 1) F dX7_badOf_2 rfl rfl ?_
  refine j_aload_n (q := 4) F dX7_badOf_3 rfl rfl 0 rfl ?_
  refine j_getR (q := 7) (z := 83) (index := 7) F md82 rfl in_X7_badOf_7 0 (by decide) rfl fl_X7_badOf_7 dX7_badOf_4 rfl ?_
  refine j_iconst (q := 8) F dX7_badOf_7 rfl ?_
  refine j_iald (q := 9) F ar83 (by omega) (by omega) (by decide) dX7_badOf_8 rfl ?_
  refine j_icmp_ne (q := 12) (tgt := 16) F dX7_badOf_9 (by decide) rfl ⟨by omega, by omega⟩ ⟨by omega, by omega⟩ (fun h9_1 => ?_) (fun h9_1 => ?_)
  · skip
    refine j_aload_n (q := 17) F dX7_badOf_16 rfl rfl 0 rfl ?_
    refine j_iload_n (q := 18) F dX7_badOf_17 rfl rfl 1 rfl ?_
    refine j_callVE (q := 21) F [vI n] (ct_X7_extraOf l X hX M hD n (by omega) (by omega)) gX7_badOf_X7_extraOf rfl cd_X7_extraOf ⟨by first | exact Nat.le_of_ble_eq_true rfl | (simp only [rm]; omega) | (simp [rm, vI, vR, Value.category]; omega), by first | exact Nat.le_of_ble_eq_true rfl | (simp only [rm]; omega) | (simp [rm, vI, vR, Value.category]; omega), by first | exact Nat.le_of_ble_eq_true rfl | (simp only [rm]; omega) | (simp [rm, vI, vR, Value.category]; omega), by first | exact Nat.le_of_ble_eq_true rfl | (simp only [rm]; omega) | (simp [rm, vI, vR, Value.category]; omega)⟩ md82 rfl rfl rfl (Nat.le_of_ble_eq_true rfl) dX7_badOf_18 rfl ?_
    refine j_aload_n (q := 22) F dX7_badOf_21 rfl rfl 0 rfl ?_
    refine j_iload_n (q := 23) F dX7_badOf_22 rfl rfl 1 rfl ?_
    refine j_callVE (q := 26) F [vI n] (ct_X7_extraOf l X hX M hD n (by omega) (by omega)) gX7_badOf_X7_extraOf rfl cd_X7_extraOf ⟨by first | exact Nat.le_of_ble_eq_true rfl | (simp only [rm]; omega) | (simp [rm, vI, vR, Value.category]; omega), by first | exact Nat.le_of_ble_eq_true rfl | (simp only [rm]; omega) | (simp [rm, vI, vR, Value.category]; omega), by first | exact Nat.le_of_ble_eq_true rfl | (simp only [rm]; omega) | (simp [rm, vI, vR, Value.category]; omega), by first | exact Nat.le_of_ble_eq_true rfl | (simp only [rm]; omega) | (simp [rm, vI, vR, Value.category]; omega)⟩ md82 rfl rfl rfl (Nat.le_of_ble_eq_true rfl) dX7_badOf_23 rfl ?_
    refine j_imul (q := 27) (z := (exD (M 83) (sd (M 83) n) (sd (M 83) (n + 1))) * (exD (M 83) (sd (M 83) n) (sd (M 83) (n + 1)))) F dX7_badOf_26 rfl rfl ?_
    exact hret _ _ _ _ dX7_badOf_27 (by refine ⟨rfl, ?_⟩; unfold bdD; rw [if_neg (by have := hsl (by omega); omega)])
  · skip
    refine j_iconst (q := 13) F dX7_badOf_12 rfl ?_
    refine j_goto (q := 27) F dX7_badOf_13 (by decide) ?_
    exact hret _ _ _ _ dX7_badOf_27 (by refine ⟨rfl, ?_⟩; unfold bdD; rw [if_pos (sd_L (by omega))])
theorem cd_X7_badOf : yX7_badOf.cls = RX7 ∧ yX7_badOf.cls ≠ "java/lang/invoke/MethodHandle" ∧ yX7_badOf.cls ≠ "java/lang/invoke/VarHandle" ∧ (parseMethodDescriptor yX7_badOf.desc).map (fun d => d.parameters.length) = some 1 := by decide +kernel
theorem fl_X7_badness_7 : Cond.fieldLink RX7 7 "WhiteRiversModel" "d" "[I" ∈ wsX7_badness := by decide +kernel
theorem in_X7_badness_7 : ∀ w ∈ u_ws RX7 TX7 19, w ∈ wsX7_badness := by decide +kernel
set_option maxRecDepth 100000 in
set_option maxHeartbeats 400000 in
theorem ct_X7_badness (l : Launch) (X : Cx) (hX : Inj X) (M : Mem) (hD : DOK (M 83)) : CtI l X yX7_badness wsX7_badness 3 [vR X 82] M (fun x M' => M' = M ∧ x = badD (M 83)) := by
  refine CtI_of (cc := cX7_badness) (maxL := 3) hX (by decide +kernel) rfl (Nat.le_of_ble_eq_true rfl) ?_
  intro zp ze zs zm zargs zbelow zmeth zc zQ F hret
  show J zp l ze (rm 3) zs zm zargs zbelow zmeth zc 0 0 zQ zs.heap X 3 M 0 [(0, vR X 82)] []
  have hw := hD.w
  have hnn := hD.1
  have hww := hD.2.1
  have hlen := hw.2.2
  have hL24 := hD.L24
  have hss := hD.2.2.1
  refine j_iconst (q := 1) F dX7_badness_0 rfl ?_
  refine j_istore_n (q := 2) (lv' := [(0, vR X 82), (1, vI 0)]) F dX7_badness_1 rfl rfl (by decide) rfl rfl ?_
  refine j_iconst (q := 3) F dX7_badness_2 rfl ?_
  refine j_istore_n (q := 4) (lv' := [(0, vR X 82), (1, vI 0), (2, vI 0)]) F dX7_badness_3 rfl rfl (by decide) rfl rfl ?_
  have LP4 : ∀ (nn : Nat) (acc k : Int), (0 ≤ k) → (k ≤ M 83 3) → (acc = cnt (fun l => bdD (M 83) (sd (M 83) l) (sd (M 83) (l + 1))) k) → (M 83 3 - k).toNat < nn → J zp l ze (rm 3) zs zm zargs zbelow zmeth zc 0 0 zQ zs.heap X 3 M 4 [(0, vR X 82), (1, vI acc), (2, vI k)] [] := by
    intro nn
    induction nn with
    | zero => intro acc k g0 g1 g2 hm4; exact absurd hm4 (Nat.not_lt_zero _)
    | succ nn ih4 =>
      intro acc k g0 g1 g2 hm4
      refine j_iload_n (q := 5) F dX7_badness_4 rfl rfl 2 rfl ?_
      refine j_aload_n (q := 6) F dX7_badness_5 rfl rfl 0 rfl ?_
      refine j_getR (q := 9) (z := 83) (index := 7) F md82 rfl in_X7_badness_7 0 (by decide) rfl fl_X7_badness_7 dX7_badness_6 rfl ?_
      refine j_iconst (q := 10) F dX7_badness_9 rfl ?_
      refine j_iald (q := 11) F ar83 (by omega) (by omega) (by decide) dX7_badness_10 rfl ?_
      refine j_icmp_ge (q := 14) (tgt := 28) F dX7_badness_11 (by decide) rfl ⟨by omega, by omega⟩ ⟨by omega, by omega⟩ (fun h11_1 => ?_) (fun h11_1 => ?_)
      · skip
        refine j_iload_n (q := 29) F dX7_badness_28 rfl rfl 1 rfl ?_
        exact hret _ _ _ _ dX7_badness_29 (by refine ⟨rfl, ?_⟩; rw [g2, show k = M 83 3 by omega]; rfl)
      · skip
        refine j_iload_n (q := 15) F dX7_badness_14 rfl rfl 1 rfl ?_
        refine j_aload_n (q := 16) F dX7_badness_15 rfl rfl 0 rfl ?_
        refine j_iload_n (q := 17) F dX7_badness_16 rfl rfl 2 rfl ?_
        refine j_callVE (q := 20) F [vI k] (ct_X7_badOf l X hX M hD k (by omega) (by omega)) gX7_badness_X7_badOf rfl cd_X7_badOf ⟨by first | exact Nat.le_of_ble_eq_true rfl | (simp only [rm]; omega) | (simp [rm, vI, vR, Value.category]; omega), by first | exact Nat.le_of_ble_eq_true rfl | (simp only [rm]; omega) | (simp [rm, vI, vR, Value.category]; omega), by first | exact Nat.le_of_ble_eq_true rfl | (simp only [rm]; omega) | (simp [rm, vI, vR, Value.category]; omega), by first | exact Nat.le_of_ble_eq_true rfl | (simp only [rm]; omega) | (simp [rm, vI, vR, Value.category]; omega)⟩ md82 rfl rfl rfl (Nat.le_of_ble_eq_true rfl) dX7_badness_17 rfl ?_
        refine j_iadd (q := 21) (z := acc + (bdD (M 83) (sd (M 83) k) (sd (M 83) (k + 1)))) F dX7_badness_20 rfl rfl ?_
        refine j_istore_n (q := 22) (lv' := [(0, vR X 82), (1, vI (acc + (bdD (M 83) (sd (M 83) k) (sd (M 83) (k + 1))))), (2, vI k)]) F dX7_badness_21 rfl rfl (by decide) rfl rfl ?_
        refine j_iinc (q := 25) (lv' := [(0, vR X 82), (1, vI (acc + (bdD (M 83) (sd (M 83) k) (sd (M 83) (k + 1))))), (2, vI (k + 1))]) F dX7_badness_22 rfl 2 rfl (by decide) rfl rfl ?_
        refine j_goto (q := 4) F dX7_badness_25 (by decide) ?_
        exact ih4 (acc + (bdD (M 83) (sd (M 83) k) (sd (M 83) (k + 1)))) (k + 1) (by omega) (by omega) (by rw [cnt_s _ g0]; omega) (by omega)
  exact LP4 _ 0 0 (by omega) (by omega) (by exact (cnt_0 _).symm) (by exact Nat.lt_succ_self _)
theorem cd_X7_columnIn : yX7_columnIn.cls = RX7 ∧ yX7_columnIn.cls ≠ "java/lang/invoke/MethodHandle" ∧ yX7_columnIn.cls ≠ "java/lang/invoke/VarHandle" ∧ (parseMethodDescriptor yX7_columnIn.desc).map (fun d => d.parameters.length) = some 2 := by decide +kernel
theorem fl_X7_at_7 : Cond.fieldLink RX7 7 "WhiteRiversModel" "d" "[I" ∈ wsX7_at := by decide +kernel
theorem in_X7_at_7 : ∀ w ∈ u_ws RX7 TX7 19, w ∈ wsX7_at := by decide +kernel
set_option maxRecDepth 100000 in
set_option maxHeartbeats 1000000 in
theorem ct_X7_at (l : Launch) (X : Cx) (hX : Inj X) (M : Mem) (hD : DOK (M 83)) (n : Int) (hn0 : inR n) (c : Int) (hc0 : inR c) : CtI l X yX7_at wsX7_at 3 [vR X 82, vI n, vI c] M (fun r M' => MPO M (Oat M n c) r M') := by
  refine CtI_of (cc := cX7_at) (maxL := 4) hX (by decide +kernel) rfl (Nat.le_of_ble_eq_true rfl) ?_
  intro zp ze zs zm zargs zbelow zmeth zc zQ F hret
  show J zp l ze (rm 3) zs zm zargs zbelow zmeth zc 0 0 zQ zs.heap X 4 M 0 [(0, vR X 82), (1, vI n), (2, vI c)] []
  have hw := hD.w
  have hnn := hD.1
  have hww := hD.2.1
  have hlen := hw.2.2
  have hL24 := hD.L24
  have hss := hD.2.2.1
  obtain ⟨hn1, hn2⟩ := hn0
  obtain ⟨hc1, hc2⟩ := hc0
  refine j_aload_n (q := 1) F dX7_at_0 rfl rfl 0 rfl ?_
  refine j_iload_n (q := 2) F dX7_at_1 rfl rfl 1 rfl ?_
  refine j_callVZ (q := 5) F [vI n] (ct_X7_isLine l X hX M hD n ⟨by omega, by omega⟩) gX7_at_X7_isLine rfl cd_X7_isLine ⟨by first | exact Nat.le_of_ble_eq_true rfl | (simp only [rm]; omega) | (simp [rm, vI, vR, Value.category]; omega), by first | exact Nat.le_of_ble_eq_true rfl | (simp only [rm]; omega) | (simp [rm, vI, vR, Value.category]; omega), by first | exact Nat.le_of_ble_eq_true rfl | (simp only [rm]; omega) | (simp [rm, vI, vR, Value.category]; omega), by first | exact Nat.le_of_ble_eq_true rfl | (simp only [rm]; omega) | (simp [rm, vI, vR, Value.category]; omega)⟩ md82 rfl rfl rfl (Nat.le_of_ble_eq_true rfl) dX7_at_2 rfl (fun hli => ?_) (fun hli => ?_)
  · skip
    have hbl := hD.bd (l := n) hli.1 (by omega)
    have hbl1 := hD.bd (l := n + 1) (by omega) (by omega)
    have hseg := hD.2.2.2.2.2.2 n hli.1 hli.2
    have hfn : M 83 (28 + n) = sd (M 83) n := (sd_in hli.2).symm
    refine j_if_eq (q := 8) (tgt := 24) F dX7_at_5 (by decide) rfl ⟨by decide, by decide⟩ (fun h => absurd h (by decide)) (fun _ => ?_)
    refine j_iload_n (q := 9) F dX7_at_8 rfl rfl 2 rfl ?_
    refine j_iconst (q := 10) F dX7_at_9 rfl ?_
    refine j_aload_n (q := 11) F dX7_at_10 rfl rfl 0 rfl ?_
    refine j_getR (q := 14) (z := 83) (index := 7) F md82 rfl in_X7_at_7 0 (by decide) rfl fl_X7_at_7 dX7_at_11 rfl ?_
    refine j_iconst (q := 15) F dX7_at_14 rfl ?_
    refine j_iald (q := 16) F ar83 (by omega) (by omega) (by decide) dX7_at_15 rfl ?_
    refine j_iconst (q := 17) F dX7_at_16 rfl ?_
    refine j_isub (q := 18) (z := (M 83 1) - 1) F dX7_at_17 rfl rfl ?_
    refine j_callSZ (q := 21) F [vI c, vI 0, vI ((M 83 1) - 1)] (ct_X7_in l X hX M c 0 ((M 83 1) - 1) ⟨by omega, by omega⟩ ⟨by omega, by omega⟩ ⟨by omega, by omega⟩) gX7_at_X7_in rfl cd_X7_in ⟨by first | exact Nat.le_of_ble_eq_true rfl | (simp only [rm]; omega) | (simp [rm, vI, vR, Value.category]; omega), by first | exact Nat.le_of_ble_eq_true rfl | (simp only [rm]; omega) | (simp [rm, vI, vR, Value.category]; omega), by first | exact Nat.le_of_ble_eq_true rfl | (simp only [rm]; omega) | (simp [rm, vI, vR, Value.category]; omega), by first | exact Nat.le_of_ble_eq_true rfl | (simp only [rm]; omega) | (simp [rm, vI, vR, Value.category]; omega)⟩ rfl rfl (Nat.le_of_ble_eq_true rfl) dX7_at_18 rfl (fun hc1 => ?_) (fun hc1 => ?_)
    · skip
      refine j_if_ne (q := 24) (tgt := 26) F dX7_at_21 (by decide) rfl ⟨by decide, by decide⟩ (fun _ => ?_) (fun h => absurd h (by decide))
      refine j_aload_n (q := 27) F dX7_at_26 rfl rfl 0 rfl ?_
      refine j_callVI (q := 30) F [] (ct_X7_laysAll l X hX M hD) gX7_at_X7_laysAll rfl cd_X7_laysAll ⟨by first | exact Nat.le_of_ble_eq_true rfl | (simp only [rm]; omega) | (simp [rm, vI, vR, Value.category]; omega), by first | exact Nat.le_of_ble_eq_true rfl | (simp only [rm]; omega) | (simp [rm, vI, vR, Value.category]; omega), by first | exact Nat.le_of_ble_eq_true rfl | (simp only [rm]; omega) | (simp [rm, vI, vR, Value.category]; omega), by first | exact Nat.le_of_ble_eq_true rfl | (simp only [rm]; omega) | (simp [rm, vI, vR, Value.category]; omega)⟩ md82 rfl rfl rfl (Nat.le_of_ble_eq_true rfl) dX7_at_27 rfl (fun lr Ml hl => ?_)
      have l83 : Ml 83 = M 83 := hl.1 83 (by decide)
      have hLM : LM Ml (Ml 83) := by rw [l83]; exact hl.2.1
      have hDl : DOK (Ml 83) := by rw [l83]; exact hD
      have hlr := LR_bd hD
      have e30 : Ml 83 3 = M 83 3 := by rw [l83]
      refine j_pop (q := 31) F dX7_at_30 rfl rfl ?_
      refine j_aload_n (q := 32) F dX7_at_31 rfl rfl 0 rfl ?_
      refine j_iload_n (q := 33) F dX7_at_32 rfl rfl 1 rfl ?_
      refine j_callVE (q := 36) F [vI n] (ct_X7_first l X hX Ml n (by omega) (by omega)) gX7_at_X7_first rfl cd_X7_first ⟨by first | exact Nat.le_of_ble_eq_true rfl | (simp only [rm]; omega) | (simp [rm, vI, vR, Value.category]; omega), by first | exact Nat.le_of_ble_eq_true rfl | (simp only [rm]; omega) | (simp [rm, vI, vR, Value.category]; omega), by first | exact Nat.le_of_ble_eq_true rfl | (simp only [rm]; omega) | (simp [rm, vI, vR, Value.category]; omega), by first | exact Nat.le_of_ble_eq_true rfl | (simp only [rm]; omega) | (simp [rm, vI, vR, Value.category]; omega)⟩ md82 rfl rfl rfl (Nat.le_of_ble_eq_true rfl) dX7_at_33 rfl ?_
      rw [show Ml 83 (28 + n) = sd (M 83) n from by rw [l83]; exact hfn]
      refine j_istore_n (q := 37) (lv' := [(0, vR X 82), (1, vI n), (2, vI c), (3, vI (sd (M 83) n))]) F dX7_at_36 rfl rfl (by decide) rfl rfl ?_
      have LP37 : ∀ (nn : Nat) (k : Int), (sd (M 83) n ≤ k) → (k ≤ sd (M 83) (n + 1)) → (∀ w, sd (M 83) n ≤ w → w < k → ¬ inC (M 83) w c) → (sd (M 83) (n + 1) - k).toNat < nn → J zp l ze (rm 3) zs zm zargs zbelow zmeth zc 0 0 zQ zs.heap X 4 Ml 37 [(0, vR X 82), (1, vI n), (2, vI c), (3, vI k)] [] := by
        intro nn
        induction nn with
        | zero => intro k g0 g1 g2 hm37; exact absurd hm37 (Nat.not_lt_zero _)
        | succ nn ih37 =>
          intro k g0 g1 g2 hm37
          refine j_iload_n (q := 38) F dX7_at_37 rfl rfl 3 rfl ?_
          refine j_aload_n (q := 39) F dX7_at_38 rfl rfl 0 rfl ?_
          refine j_iload_n (q := 40) F dX7_at_39 rfl rfl 1 rfl ?_
          refine j_callVE (q := 43) F [vI n] (ct_X7_behind l X hX Ml (by rw [l83]; omega) n (by omega) (by rw [l83]; omega)) gX7_at_X7_behind rfl cd_X7_behind ⟨by first | exact Nat.le_of_ble_eq_true rfl | (simp only [rm]; omega) | (simp [rm, vI, vR, Value.category]; omega), by first | exact Nat.le_of_ble_eq_true rfl | (simp only [rm]; omega) | (simp [rm, vI, vR, Value.category]; omega), by first | exact Nat.le_of_ble_eq_true rfl | (simp only [rm]; omega) | (simp [rm, vI, vR, Value.category]; omega), by first | exact Nat.le_of_ble_eq_true rfl | (simp only [rm]; omega) | (simp [rm, vI, vR, Value.category]; omega)⟩ md82 rfl rfl rfl (Nat.le_of_ble_eq_true rfl) dX7_at_40 rfl ?_
          rw [show sd (Ml 83) (n + 1) = sd (M 83) (n + 1) from by rw [l83]]
          refine j_icmp_ge (q := 46) (tgt := 63) F dX7_at_43 (by decide) rfl ⟨by omega, by omega⟩ ⟨by omega, by omega⟩ (fun h43_6 => ?_) (fun h43_6 => ?_)
          · skip
            refine j_bipush (q := 65) F dX7_at_63 rfl (by decide) ?_
            exact hret _ _ _ _ dX7_at_65 (by refine mpo_lay hl.1 (fun hsm => ⟨hsm, Or.inr ⟨⟨hli, by omega, by omega⟩, Or.inr ⟨rfl, fun w a b => g2 w a (by omega)⟩⟩⟩))
          · skip
            refine j_aload_n (q := 47) F dX7_at_46 rfl rfl 0 rfl ?_
            refine j_iload_n (q := 48) F dX7_at_47 rfl rfl 3 rfl ?_
            refine j_iload_n (q := 49) F dX7_at_48 rfl rfl 2 rfl ?_
            refine j_callVZ (q := 52) F [vI k, vI c] (ct_X7_columnIn l X hX Ml hDl hLM k c (by omega) (by rw [l83]; omega) ⟨by omega, by omega⟩ (by rw [l83]; exact CO_bd2 hD (by omega) (by omega))) gX7_at_X7_columnIn rfl cd_X7_columnIn ⟨by first | exact Nat.le_of_ble_eq_true rfl | (simp only [rm]; omega) | (simp [rm, vI, vR, Value.category]; omega), by first | exact Nat.le_of_ble_eq_true rfl | (simp only [rm]; omega) | (simp [rm, vI, vR, Value.category]; omega), by first | exact Nat.le_of_ble_eq_true rfl | (simp only [rm]; omega) | (simp [rm, vI, vR, Value.category]; omega), by first | exact Nat.le_of_ble_eq_true rfl | (simp only [rm]; omega) | (simp [rm, vI, vR, Value.category]; omega)⟩ md82 rfl rfl rfl (Nat.le_of_ble_eq_true rfl) dX7_at_49 rfl (fun hin => ?_) (fun hin => ?_)
            · skip
              refine j_if_eq (q := 55) (tgt := 57) F dX7_at_52 (by decide) rfl ⟨by decide, by decide⟩ (fun h => absurd h (by decide)) (fun _ => ?_)
              refine j_iload_n (q := 56) F dX7_at_55 rfl rfl 3 rfl ?_
              exact hret _ _ _ _ dX7_at_56 (by refine mpo_lay hl.1 (fun hsm => ⟨hsm, Or.inr ⟨⟨hli, by omega, by omega⟩, Or.inl ⟨by omega, by omega, by rw [l83] at hin; exact hin, fun w a b => g2 w a b⟩⟩⟩))
            · skip
              refine j_if_eq (q := 55) (tgt := 57) F dX7_at_52 (by decide) rfl ⟨by decide, by decide⟩ (fun _ => ?_) (fun h => absurd h (by decide))
              refine j_iinc (q := 60) (lv' := [(0, vR X 82), (1, vI n), (2, vI c), (3, vI (k + 1))]) F dX7_at_57 rfl 3 rfl (by decide) rfl rfl ?_
              refine j_goto (q := 37) F dX7_at_60 (by decide) ?_
              refine ih37 (k + 1) (by omega) (by omega) ?_ (by omega)
              · intro w q0 q1; by_cases hw9 : w = k
                · rw [hw9]; rw [l83] at hin; exact hin
                · exact g2 w q0 (by omega)
      exact LP37 _ (sd (M 83) n) (by omega) (by omega) (by intro w q0 q1; omega) (by exact Nat.lt_succ_self _)
    · skip
      refine j_if_ne (q := 24) (tgt := 26) F dX7_at_21 (by decide) rfl ⟨by decide, by decide⟩ (fun h => absurd h (by decide)) (fun _ => ?_)
      refine j_iconst (q := 25) F dX7_at_24 rfl ?_
      exact hret _ _ _ _ dX7_at_25 (by exact mpo_of (fun _ _ _ _ => rfl) ⟨SM.rf M, Or.inl ⟨fun z => by have z1 := z.1.1; have z2 := z.1.2; have z3 := z.2.1; have z4 := z.2.2; omega, rfl⟩⟩)
  · skip
    refine j_if_eq (q := 8) (tgt := 24) F dX7_at_5 (by decide) rfl ⟨by decide, by decide⟩ (fun _ => ?_) (fun h => absurd h (by decide))
    refine j_iconst (q := 25) F dX7_at_24 rfl ?_
    exact hret _ _ _ _ dX7_at_25 (by exact mpo_of (fun _ _ _ _ => rfl) ⟨SM.rf M, Or.inl ⟨fun z => by have z1 := z.1.1; have z2 := z.1.2; have z3 := z.2.1; have z4 := z.2.2; omega, rfl⟩⟩)
