theorem fl_X7_meets_23 : Cond.fieldLink RX7 23 "WhiteRiversModel" "gapAt" "[I" ∈ wsX7_meets := by decide +kernel
theorem fl_X7_meets_26 : Cond.fieldLink RX7 26 "WhiteRiversModel" "wide" "[I" ∈ wsX7_meets := by decide +kernel
theorem in_X7_meets_7 : ∀ w ∈ u_ws RX7 TX7 19, w ∈ wsX7_meets := by decide +kernel
set_option maxRecDepth 100000 in
set_option maxHeartbeats 400000 in
theorem ct_X7_meets (l : Launch) (X : Cx) (hX : Inj X) (M : Mem) (a b : Int) (ha : 0 ≤ a ∧ a < 24) (hb : 0 ≤ b ∧ b < 24) (ra : 0 ≤ M 87 a ∧ M 87 a ≤ 2000 ∧ 1 ≤ M 88 a ∧ M 88 a ≤ 2000) (rb : 0 ≤ M 87 b ∧ M 87 b ≤ 2000 ∧ 1 ≤ M 88 b ∧ M 88 b ≤ 2000) : CtI l X yX7_meets wsX7_meets 0 [vR X 82, vI a, vI b] M (fun x M' => M' = M ∧ (x = 1 ∧ mtP (M 87 a) (M 88 a) (M 87 b) (M 88 b) ∨ x = 0 ∧ ¬ mtP (M 87 a) (M 88 a) (M 87 b) (M 88 b))) := by
  refine CtI_ofZ (cc := cX7_meets) (maxL := 3) hX (by decide +kernel) rfl (Nat.le_of_ble_eq_true rfl) ?_
  intro zp ze zs zm zargs zbelow zmeth zc zQ F hret
  show J zp l ze (rm 0) zs zm zargs zbelow zmeth zc 0 0 zQ zs.heap X 3 M 0 [(0, vR X 82), (1, vI a), (2, vI b)] []
  refine j_aload_n (q := 1) F dX7_meets_0 rfl rfl 0 rfl ?_
  refine j_getR (q := 4) (z := 87) (index := 23) F md82 rfl in_X7_meets_7 6 (by decide) rfl fl_X7_meets_23 dX7_meets_1 rfl ?_
  refine j_iload_n (q := 5) F dX7_meets_4 rfl rfl 1 rfl ?_
  refine j_iald (q := 6) F ar87 (by omega) (by omega) (by decide) dX7_meets_5 rfl ?_
  refine j_aload_n (q := 7) F dX7_meets_6 rfl rfl 0 rfl ?_
  refine j_getR (q := 10) (z := 87) (index := 23) F md82 rfl in_X7_meets_7 6 (by decide) rfl fl_X7_meets_23 dX7_meets_7 rfl ?_
  refine j_iload_n (q := 11) F dX7_meets_10 rfl rfl 2 rfl ?_
  refine j_iald (q := 12) F ar87 (by omega) (by omega) (by decide) dX7_meets_11 rfl ?_
  refine j_aload_n (q := 13) F dX7_meets_12 rfl rfl 0 rfl ?_
  refine j_getR (q := 16) (z := 88) (index := 26) F md82 rfl in_X7_meets_7 7 (by decide) rfl fl_X7_meets_26 dX7_meets_13 rfl ?_
  refine j_iload_n (q := 17) F dX7_meets_16 rfl rfl 2 rfl ?_
  refine j_iald (q := 18) F ar88 (by omega) (by omega) (by decide) dX7_meets_17 rfl ?_
  refine j_iadd (q := 19) (z := (M 87 b) + (M 88 b)) F dX7_meets_18 rfl rfl ?_
  refine j_icmp_ge (q := 22) (tgt := 48) F dX7_meets_19 (by decide) rfl ⟨by omega, by omega⟩ ⟨by omega, by omega⟩ (fun h19_1 => ?_) (fun h19_1 => ?_)
  · skip
    refine j_iconst (q := 49) F dX7_meets_48 rfl ?_
    exact hret _ _ _ _ dX7_meets_49 (Or.inl rfl) (by refine ⟨rfl, ?_⟩; unfold mtP; omega)
  · skip
    refine j_aload_n (q := 23) F dX7_meets_22 rfl rfl 0 rfl ?_
    refine j_getR (q := 26) (z := 87) (index := 23) F md82 rfl in_X7_meets_7 6 (by decide) rfl fl_X7_meets_23 dX7_meets_23 rfl ?_
    refine j_iload_n (q := 27) F dX7_meets_26 rfl rfl 2 rfl ?_
    refine j_iald (q := 28) F ar87 (by omega) (by omega) (by decide) dX7_meets_27 rfl ?_
    refine j_aload_n (q := 29) F dX7_meets_28 rfl rfl 0 rfl ?_
    refine j_getR (q := 32) (z := 87) (index := 23) F md82 rfl in_X7_meets_7 6 (by decide) rfl fl_X7_meets_23 dX7_meets_29 rfl ?_
    refine j_iload_n (q := 33) F dX7_meets_32 rfl rfl 1 rfl ?_
    refine j_iald (q := 34) F ar87 (by omega) (by omega) (by decide) dX7_meets_33 rfl ?_
    refine j_aload_n (q := 35) F dX7_meets_34 rfl rfl 0 rfl ?_
    refine j_getR (q := 38) (z := 88) (index := 26) F md82 rfl in_X7_meets_7 7 (by decide) rfl fl_X7_meets_26 dX7_meets_35 rfl ?_
    refine j_iload_n (q := 39) F dX7_meets_38 rfl rfl 1 rfl ?_
    refine j_iald (q := 40) F ar88 (by omega) (by omega) (by decide) dX7_meets_39 rfl ?_
    refine j_iadd (q := 41) (z := (M 87 a) + (M 88 a)) F dX7_meets_40 rfl rfl ?_
    refine j_icmp_ge (q := 44) (tgt := 48) F dX7_meets_41 (by decide) rfl ⟨by omega, by omega⟩ ⟨by omega, by omega⟩ (fun h41_2 => ?_) (fun h41_2 => ?_)
    · skip
      refine j_iconst (q := 49) F dX7_meets_48 rfl ?_
      exact hret _ _ _ _ dX7_meets_49 (Or.inl rfl) (by refine ⟨rfl, ?_⟩; unfold mtP; omega)
    · skip
      refine j_iconst (q := 45) F dX7_meets_44 rfl ?_
      refine j_goto (q := 49) F dX7_meets_45 (by decide) ?_
      exact hret _ _ _ _ dX7_meets_49 (Or.inr rfl) (by refine ⟨rfl, ?_⟩; unfold mtP; omega)
