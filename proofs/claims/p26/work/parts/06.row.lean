theorem fl_X2_get_13 : Cond.fieldLink RX2 13 "WhiteRivers$Row" "cells" "[I" ∈ wsX2_get := by decide +kernel
theorem in_X2_get_2 : ∀ w ∈ u_ws RX2 TX2 1, w ∈ wsX2_get := by decide +kernel
set_option maxRecDepth 100000 in
set_option maxHeartbeats 400000 in
theorem ct_X2_get (l : Launch) (X : Cx) (hX : Inj X) (M : Mem) (r n : Nat) (hr : isRow r n) (hn : n < 2147483648) (i : Int) (hi : inR i) : CtI l X yX2_get wsX2_get 0 [vR X r, vI i] M (fun x M' => M' = M ∧ x = gt M (r + 1) n i) := by
  refine CtI_of (cc := cX2_get) (maxL := 2) hX (by decide +kernel) rfl (Nat.le_of_ble_eq_true rfl) ?_
  intro zp ze zs zm zargs zbelow zmeth zc zQ F hret
  show J zp l ze (rm 0) zs zm zargs zbelow zmeth zc 0 0 zQ zs.heap X 2 M 0 [(0, vR X r), (1, vI i)] []
  obtain ⟨hi1, hi2⟩ := hi
  refine j_iload_n (q := 1) F dX2_get_0 rfl rfl 1 rfl ?_
  refine j_if_lt (q := 4) (tgt := 22) F dX2_get_1 (by decide) rfl ⟨by omega, by omega⟩ (fun h1_1 => ?_) (fun h1_1 => ?_)
  · skip
    refine j_iconst (q := 23) F dX2_get_22 rfl ?_
    exact hret _ _ _ _ dX2_get_23 (by refine ⟨rfl, ?_⟩; unfold gt; split <;> omega)
  · skip
    refine j_iload_n (q := 5) F dX2_get_4 rfl rfl 1 rfl ?_
    refine j_aload_n (q := 6) F dX2_get_5 rfl rfl 0 rfl ?_
    refine j_getR (q := 9) (z := r + 1) (index := 13) F (hr).1 rfl in_X2_get_2 0 (by decide) rfl fl_X2_get_13 dX2_get_6 rfl ?_
    refine j_alen (q := 10) F (hr).2 (by decide) dX2_get_9 rfl rfl ?_
    refine j_icmp_ge (q := 13) (tgt := 22) F dX2_get_10 (by decide) rfl ⟨by omega, by omega⟩ ⟨by omega, by omega⟩ (fun h10_2 => ?_) (fun h10_2 => ?_)
    · skip
      refine j_iconst (q := 23) F dX2_get_22 rfl ?_
      exact hret _ _ _ _ dX2_get_23 (by refine ⟨rfl, ?_⟩; unfold gt; split <;> omega)
    · skip
      refine j_aload_n (q := 14) F dX2_get_13 rfl rfl 0 rfl ?_
      refine j_getR (q := 17) (z := r + 1) (index := 13) F (hr).1 rfl in_X2_get_2 0 (by decide) rfl fl_X2_get_13 dX2_get_14 rfl ?_
      refine j_iload_n (q := 18) F dX2_get_17 rfl rfl 1 rfl ?_
      refine j_iald (q := 19) F (hr).2 (by omega) (by omega) hn dX2_get_18 rfl ?_
      refine j_goto (q := 23) F dX2_get_19 (by decide) ?_
      exact hret _ _ _ _ dX2_get_23 (by refine ⟨rfl, ?_⟩; unfold gt; split <;> omega)
theorem fl_X2_set_13 : Cond.fieldLink RX2 13 "WhiteRivers$Row" "cells" "[I" ∈ wsX2_set := by decide +kernel
theorem in_X2_set_2 : ∀ w ∈ u_ws RX2 TX2 1, w ∈ wsX2_set := by decide +kernel
set_option maxRecDepth 100000 in
set_option maxHeartbeats 400000 in
theorem ct_X2_set (l : Launch) (X : Cx) (hX : Inj X) (M : Mem) (r n : Nat) (hr : isRow r n) (hn : n < 2147483648) (i v : Int) (hi : inR i) : CtV l X yX2_set wsX2_set 0 [vR X r, vI i, vI v] M (fun M' => M' = stt M (r + 1) n i v) := by
  refine CtV_of (cc := cX2_set) (maxL := 3) hX (by decide +kernel) rfl (Nat.le_of_ble_eq_true rfl) ?_
  intro zp ze zs zm zargs zbelow zmeth zc zQ F hret
  show J zp l ze (rm 0) zs zm zargs zbelow zmeth zc 0 0 zQ zs.heap X 3 M 0 [(0, vR X r), (1, vI i), (2, vI v)] []
  obtain ⟨hi1, hi2⟩ := hi
  refine j_iload_n (q := 1) F dX2_set_0 rfl rfl 1 rfl ?_
  refine j_if_lt (q := 4) (tgt := 20) F dX2_set_1 (by decide) rfl ⟨by omega, by omega⟩ (fun h1_1 => ?_) (fun h1_1 => ?_)
  · skip
    exact hret _ _ _ dX2_set_20 (by rw [stt_out (by omega)])
  · skip
    refine j_iload_n (q := 5) F dX2_set_4 rfl rfl 1 rfl ?_
    refine j_aload_n (q := 6) F dX2_set_5 rfl rfl 0 rfl ?_
    refine j_getR (q := 9) (z := r + 1) (index := 13) F (hr).1 rfl in_X2_set_2 0 (by decide) rfl fl_X2_set_13 dX2_set_6 rfl ?_
    refine j_alen (q := 10) F (hr).2 (by decide) dX2_set_9 rfl rfl ?_
    refine j_icmp_ge (q := 13) (tgt := 20) F dX2_set_10 (by decide) rfl ⟨by omega, by omega⟩ ⟨by omega, by omega⟩ (fun h10_2 => ?_) (fun h10_2 => ?_)
    · skip
      exact hret _ _ _ dX2_set_20 (by rw [stt_out (by omega)])
    · skip
      refine j_aload_n (q := 14) F dX2_set_13 rfl rfl 0 rfl ?_
      refine j_getR (q := 17) (z := r + 1) (index := 13) F (hr).1 rfl in_X2_set_2 0 (by decide) rfl fl_X2_set_13 dX2_set_14 rfl ?_
      refine j_iload_n (q := 18) F dX2_set_17 rfl rfl 1 rfl ?_
      refine j_iload_n (q := 19) F dX2_set_18 rfl rfl 2 rfl ?_
      refine j_iast (q := 20) F (hr).2 (by omega) (by omega) hn dX2_set_19 rfl ?_
      exact hret _ _ _ dX2_set_20 (by rw [stt_in (by omega) (by omega)])
theorem ct_X2_get_in (l : Launch) (X : Cx) (hX : Inj X) (M : Mem) (r n a : Nat) (hr : isRow r n) (hn : n < 2147483648) (ha : a = r + 1) (i : Int) (h0 : 0 ≤ i) (h1 : i < (n : Int)) : CtI l X yX2_get wsX2_get 0 [vR X r, vI i] M (fun x M' => M' = M ∧ x = M a i) := by
  subst ha
  have h := ct_X2_get l X hX M r n hr hn i ⟨by omega, by omega⟩
  rw [gt_in h0 h1] at h
  exact h
theorem ct_X2_get_out (l : Launch) (X : Cx) (hX : Inj X) (M : Mem) (r n : Nat) (hr : isRow r n) (hn : n < 2147483648) (i : Int) (hi : inR i) (h : i < 0 ∨ (n : Int) ≤ i) : CtI l X yX2_get wsX2_get 0 [vR X r, vI i] M (fun x M' => M' = M ∧ x = 0) := by
  have h2 := ct_X2_get l X hX M r n hr hn i hi
  rw [gt_out h] at h2
  exact h2
theorem ct_X2_set_in (l : Launch) (X : Cx) (hX : Inj X) (M : Mem) (r n a : Nat) (hr : isRow r n) (hn : n < 2147483648) (ha : a = r + 1) (i v : Int) (h0 : 0 ≤ i) (h1 : i < (n : Int)) : CtV l X yX2_set wsX2_set 0 [vR X r, vI i, vI v] M (fun M' => M' = mset M a i v) := by
  subst ha
  have h := ct_X2_set l X hX M r n hr hn i v ⟨by omega, by omega⟩
  rw [stt_in h0 h1] at h
  exact h
theorem fl_X2_clear_13 : Cond.fieldLink RX2 13 "WhiteRivers$Row" "cells" "[I" ∈ wsX2_clear := by decide +kernel
theorem in_X2_clear_2 : ∀ w ∈ u_ws RX2 TX2 1, w ∈ wsX2_clear := by decide +kernel
set_option maxRecDepth 100000 in
set_option maxHeartbeats 400000 in
theorem ct_X2_clear (l : Launch) (X : Cx) (hX : Inj X) (M : Mem) (r n : Nat) (hr : isRow r n) (hn : n < 2147483648) : CtV l X yX2_clear wsX2_clear 0 [vR X r] M (fun M' => M' = mclr M (r + 1) n) := by
  refine CtV_of (cc := cX2_clear) (maxL := 2) hX (by decide +kernel) rfl (Nat.le_of_ble_eq_true rfl) ?_
  intro zp ze zs zm zargs zbelow zmeth zc zQ F hret
  show J zp l ze (rm 0) zs zm zargs zbelow zmeth zc 0 0 zQ zs.heap X 2 M 0 [(0, vR X r)] []
  refine j_iconst (q := 1) F dX2_clear_0 rfl ?_
  refine j_istore_n (q := 2) (lv' := [(0, vR X r), (1, vI 0)]) F dX2_clear_1 rfl rfl (by decide) rfl rfl ?_
  have LP2 : ∀ (nn : Nat) (k : Int) (M1 : Mem), (0 ≤ k) → (k ≤ (n : Int)) → (M1 = mclr M (r + 1) k) → ((n : Int) - k).toNat < nn → J zp l ze (rm 0) zs zm zargs zbelow zmeth zc 0 0 zQ zs.heap X 2 M1 2 [(0, vR X r), (1, vI k)] [] := by
    intro nn
    induction nn with
    | zero => intro k M1 h0 h1 h2 hm2; exact absurd hm2 (Nat.not_lt_zero _)
    | succ nn ih2 =>
      intro k M1 h0 h1 h2 hm2
      refine j_iload_n (q := 3) F dX2_clear_2 rfl rfl 1 rfl ?_
      refine j_aload_n (q := 4) F dX2_clear_3 rfl rfl 0 rfl ?_
      refine j_getR (q := 7) (z := r + 1) (index := 13) F (hr).1 rfl in_X2_clear_2 0 (by decide) rfl fl_X2_clear_13 dX2_clear_4 rfl ?_
      refine j_alen (q := 8) F (hr).2 (by decide) dX2_clear_7 rfl rfl ?_
      refine j_icmp_ge (q := 11) (tgt := 24) F dX2_clear_8 (by decide) rfl ⟨by omega, by omega⟩ ⟨by omega, by omega⟩ (fun h8_1 => ?_) (fun h8_1 => ?_)
      · skip
        exact hret _ _ _ dX2_clear_24 (by rw [h2, show k = (n : Int) by omega])
      · skip
        refine j_aload_n (q := 12) F dX2_clear_11 rfl rfl 0 rfl ?_
        refine j_getR (q := 15) (z := r + 1) (index := 13) F (hr).1 rfl in_X2_clear_2 0 (by decide) rfl fl_X2_clear_13 dX2_clear_12 rfl ?_
        refine j_iload_n (q := 16) F dX2_clear_15 rfl rfl 1 rfl ?_
        refine j_iconst (q := 17) F dX2_clear_16 rfl ?_
        refine j_iast (q := 18) F (hr).2 (by omega) (by omega) hn dX2_clear_17 rfl ?_
        refine j_iinc (q := 21) (lv' := [(0, vR X r), (1, vI (k + 1))]) F dX2_clear_18 rfl 1 rfl (by decide) rfl rfl ?_
        refine j_goto (q := 2) F dX2_clear_21 (by decide) ?_
        exact ih2 (k + 1) (mset M1 (r + 1) k 0) (by omega) (by omega) (by rw [h2]; exact mclr_s M _ h0) (by omega)
  exact LP2 _ 0 M (by omega) (by omega) (by exact (mclr_0 M _).symm) (by exact Nat.lt_succ_self _)
theorem cd_X2_get : yX2_get.cls = RX2 ∧ yX2_get.cls ≠ "java/lang/invoke/MethodHandle" ∧ yX2_get.cls ≠ "java/lang/invoke/VarHandle" ∧ (parseMethodDescriptor yX2_get.desc).map (fun d => d.parameters.length) = some 1 := by decide +kernel
theorem fl_X2_copyFrom_13 : Cond.fieldLink RX2 13 "WhiteRivers$Row" "cells" "[I" ∈ wsX2_copyFrom := by decide +kernel
theorem in_X2_copyFrom_2 : ∀ w ∈ u_ws RX2 TX2 1, w ∈ wsX2_copyFrom := by decide +kernel
set_option maxRecDepth 100000 in
set_option maxHeartbeats 400000 in
theorem ct_X2_copyFrom (l : Launch) (X : Cx) (hX : Inj X) (M : Mem) (r n : Nat) (hr : isRow r n) (hn : n < 2147483648) (o : Nat) (ho : isRow o n) (hor : o ≠ r) : CtV l X yX2_copyFrom wsX2_copyFrom 1 [vR X r, vR X o] M (fun M' => M' = mcpy M (r + 1) (o + 1) n) := by
  refine CtV_of (cc := cX2_copyFrom) (maxL := 3) hX (by decide +kernel) rfl (Nat.le_of_ble_eq_true rfl) ?_
  intro zp ze zs zm zargs zbelow zmeth zc zQ F hret
  show J zp l ze (rm 1) zs zm zargs zbelow zmeth zc 0 0 zQ zs.heap X 3 M 0 [(0, vR X r), (1, vR X o)] []
  refine j_iconst (q := 1) F dX2_copyFrom_0 rfl ?_
  refine j_istore_n (q := 2) (lv' := [(0, vR X r), (1, vR X o), (2, vI 0)]) F dX2_copyFrom_1 rfl rfl (by decide) rfl rfl ?_
  have LP2 : ∀ (nn : Nat) (k : Int) (M1 : Mem), (0 ≤ k) → (k ≤ (n : Int)) → (M1 = mcpy M (r + 1) (o + 1) k) → ((n : Int) - k).toNat < nn → J zp l ze (rm 1) zs zm zargs zbelow zmeth zc 0 0 zQ zs.heap X 3 M1 2 [(0, vR X r), (1, vR X o), (2, vI k)] [] := by
    intro nn
    induction nn with
    | zero => intro k M1 h0 h1 h2 hm2; exact absurd hm2 (Nat.not_lt_zero _)
    | succ nn ih2 =>
      intro k M1 h0 h1 h2 hm2
      refine j_iload_n (q := 3) F dX2_copyFrom_2 rfl rfl 2 rfl ?_
      refine j_aload_n (q := 4) F dX2_copyFrom_3 rfl rfl 0 rfl ?_
      refine j_getR (q := 7) (z := r + 1) (index := 13) F (hr).1 rfl in_X2_copyFrom_2 0 (by decide) rfl fl_X2_copyFrom_13 dX2_copyFrom_4 rfl ?_
      refine j_alen (q := 8) F (hr).2 (by decide) dX2_copyFrom_7 rfl rfl ?_
      refine j_icmp_ge (q := 11) (tgt := 28) F dX2_copyFrom_8 (by decide) rfl ⟨by omega, by omega⟩ ⟨by omega, by omega⟩ (fun h8_1 => ?_) (fun h8_1 => ?_)
      · skip
        exact hret _ _ _ dX2_copyFrom_28 (by rw [h2, show k = (n : Int) by omega])
      · skip
        refine j_aload_n (q := 12) F dX2_copyFrom_11 rfl rfl 0 rfl ?_
        refine j_getR (q := 15) (z := r + 1) (index := 13) F (hr).1 rfl in_X2_copyFrom_2 0 (by decide) rfl fl_X2_copyFrom_13 dX2_copyFrom_12 rfl ?_
        refine j_iload_n (q := 16) F dX2_copyFrom_15 rfl rfl 2 rfl ?_
        refine j_aload_n (q := 17) F dX2_copyFrom_16 rfl rfl 1 rfl ?_
        refine j_iload_n (q := 18) F dX2_copyFrom_17 rfl rfl 2 rfl ?_
        refine j_callVE (q := 21) F [vI k] (ct_X2_get_in l X hX M1 o n (o + 1) (ho) hn rfl k (by omega) (by omega)) gX2_copyFrom_X2_get rfl cd_X2_get ⟨by first | exact Nat.le_of_ble_eq_true rfl | (simp only [rm]; omega) | (simp [rm, vI, vR, Value.category]; omega), by first | exact Nat.le_of_ble_eq_true rfl | (simp only [rm]; omega) | (simp [rm, vI, vR, Value.category]; omega), by first | exact Nat.le_of_ble_eq_true rfl | (simp only [rm]; omega) | (simp [rm, vI, vR, Value.category]; omega), by first | exact Nat.le_of_ble_eq_true rfl | (simp only [rm]; omega) | (simp [rm, vI, vR, Value.category]; omega)⟩ (ho).1 rfl rfl rfl (Nat.le_of_ble_eq_true rfl) dX2_copyFrom_18 rfl ?_
        refine j_iast (q := 22) F (hr).2 (by omega) (by omega) hn dX2_copyFrom_21 rfl ?_
        refine j_iinc (q := 25) (lv' := [(0, vR X r), (1, vR X o), (2, vI (k + 1))]) F dX2_copyFrom_22 rfl 2 rfl (by decide) rfl rfl ?_
        refine j_goto (q := 2) F dX2_copyFrom_25 (by decide) ?_
        exact ih2 (k + 1) (mset M1 (r + 1) k (M1 (o + 1) k)) (by omega) (by omega) (by rw [h2, mcpy_at M (by omega)]; exact mcpy_s M h0) (by omega)
  exact LP2 _ 0 M (by omega) (by omega) (by exact (mcpy_0 M _ _).symm) (by exact Nat.lt_succ_self _)
