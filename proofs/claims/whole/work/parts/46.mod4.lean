theorem fl_X7_remove_7 : Cond.fieldLink RX7 7 "WhiteRiversModel" "d" "[I" ∈ wsX7_remove := by decide +kernel
theorem in_X7_remove_7 : ∀ w ∈ u_ws RX7 TX7 19, w ∈ wsX7_remove := by decide +kernel
set_option maxRecDepth 100000 in
set_option maxHeartbeats 400000 in
theorem ct_X7_remove (l : Launch) (X : Cx) (hX : Inj X) (M : Mem) (hD : DOK (M 83)) (hst : 0 ≤ M 82 2 ∧ M 82 2 ≤ 5) : CtI l X yX7_remove wsX7_remove 1 [vR X 82] M (fun r M' => MPO M (Oremove M) r M') := by
  refine CtI_of (cc := cX7_remove) (maxL := 2) hX (by decide +kernel) rfl (Nat.le_of_ble_eq_true rfl) ?_
  intro zp ze zs zm zargs zbelow zmeth zc zQ F hret
  show J zp l ze (rm 1) zs zm zargs zbelow zmeth zc 0 0 zQ zs.heap X 2 M 0 [(0, vR X 82)] []
  have hw := hD.w
  have hnn := hD.1
  have hww := hD.2.1
  have hlen := hw.2.2
  have hL24 := hD.L24
  have hss := hD.2.2.1
  have hdb := @DOK.bd _ hD
  refine j_aload_n (q := 1) F dX7_remove_0 rfl rfl 0 rfl ?_
  refine j_getR (q := 4) (z := 83) (index := 7) F md82 rfl in_X7_remove_7 0 (by decide) rfl fl_X7_remove_7 dX7_remove_1 rfl ?_
  refine j_iconst (q := 5) F dX7_remove_4 rfl ?_
  refine j_iald (q := 6) F ar83 (by omega) (by omega) (by decide) dX7_remove_5 rfl ?_
  refine j_iconst (q := 7) F dX7_remove_6 rfl ?_
  refine j_isub (q := 8) (z := (M 83 3) - 1) F dX7_remove_7 rfl rfl ?_
  refine j_istore_n (q := 9) (lv' := [(0, vR X 82), (1, vI ((M 83 3) - 1))]) F dX7_remove_8 rfl rfl (by decide) rfl rfl ?_
  refine j_iload_n (q := 10) F dX7_remove_9 rfl rfl 1 rfl ?_
  refine j_if_lt (q := 13) (tgt := 26) F dX7_remove_10 (by decide) rfl ⟨by omega, by omega⟩ (fun h10_1 => ?_) (fun h10_1 => ?_)
  · skip
    refine j_bipush (q := 28) F dX7_remove_26 rfl (by decide) ?_
    exact hret _ _ _ _ dX7_remove_28 (by exact mpo_of (fun _ _ _ _ => rfl) (Or.inl ⟨by first | exact Or.inl (by omega) | exact Or.inr (by assumption), rfl, SM.rf M⟩))
  · skip
    have hmk := (hD.2.2.2.2.2.2 (M 83 3 - 1) (by omega) (by omega)).2.1
    refine j_aload_n (q := 14) F dX7_remove_13 rfl rfl 0 rfl ?_
    refine j_getR (q := 17) (z := 83) (index := 7) F md82 rfl in_X7_remove_7 0 (by decide) rfl fl_X7_remove_7 dX7_remove_14 rfl ?_
    refine j_bipush (q := 19) F dX7_remove_17 rfl (by decide) ?_
    refine j_iload_n (q := 20) F dX7_remove_19 rfl rfl 1 rfl ?_
    refine j_iadd (q := 21) (z := 53 + ((M 83 3) - 1)) F dX7_remove_20 rfl rfl ?_
    refine j_iald (q := 22) F ar83 (by omega) (by omega) (by decide) dX7_remove_21 rfl ?_
    refine j_iconst (q := 23) F dX7_remove_22 rfl ?_
    refine j_icmp_ne (q := 26) (tgt := 29) F dX7_remove_23 (by decide) rfl ⟨by omega, by omega⟩ ⟨by decide, by decide⟩ (fun h23_2 => ?_) (fun h23_2 => ?_)
    · skip
      refine j_aload_n (q := 30) F dX7_remove_29 rfl rfl 0 rfl ?_
      have hfirst : M 83 (28 + (M 83 3 - 1)) = sd (M 83) (M 83 3 - 1) := (sd_in (by omega)).symm
      have hbl := hD.bd (l := M 83 3 - 1) (by omega) (by omega)
      refine j_callVV (q := 33) F [] (ct_X7_records l X hX M (by omega)) gX7_remove_X7_records rfl cd_X7_records ⟨by first | exact Nat.le_of_ble_eq_true rfl | (simp only [rm]; omega) | (simp [rm, vI, vR, Value.category]; omega), by first | exact Nat.le_of_ble_eq_true rfl | (simp only [rm]; omega) | (simp [rm, vI, vR, Value.category]; omega), by first | exact Nat.le_of_ble_eq_true rfl | (simp only [rm]; omega) | (simp [rm, vI, vR, Value.category]; omega), by first | exact Nat.le_of_ble_eq_true rfl | (simp only [rm]; omega) | (simp [rm, vI, vR, Value.category]; omega)⟩ md82 rfl rfl rfl (Nat.le_of_ble_eq_true rfl) dX7_remove_30 rfl (fun Mr hr => ?_)
      have r83 : Mr 83 = M 83 := hr.2.1 83 (by decide) (by decide)
      have r0 : Mr 83 0 = M 83 0 := by rw [r83]
      have r1 : Mr 83 1 = M 83 1 := by rw [r83]
      have r2 : Mr 83 2 = M 83 2 := by rw [r83]
      have r3 : Mr 83 3 = M 83 3 := by rw [r83]
      refine j_aload_n (q := 34) F dX7_remove_33 rfl rfl 0 rfl ?_
      refine j_getR (q := 37) (z := 83) (index := 7) F md82 rfl in_X7_remove_7 0 (by decide) rfl fl_X7_remove_7 dX7_remove_34 rfl ?_
      refine j_iconst (q := 38) F dX7_remove_37 rfl ?_
      refine j_dup2 (q := 39) F dX7_remove_38 rfl rfl rfl ?_
      refine j_iald (q := 40) F ar83 (by omega) (by omega) (by decide) dX7_remove_39 rfl ?_
      rw [show Mr 83 0 = M 83 0 from by rw [r83]]
      refine j_iconst (q := 41) F dX7_remove_40 rfl ?_
      refine j_isub (q := 42) (z := (M 83 0) - 1) F dX7_remove_41 rfl rfl ?_
      refine j_iast (q := 43) F ar83 (by omega) (by omega) (by decide) dX7_remove_42 rfl ?_
      refine j_aload_n (q := 44) F dX7_remove_43 rfl rfl 0 rfl ?_
      refine j_getR (q := 47) (z := 83) (index := 7) F md82 rfl in_X7_remove_7 0 (by decide) rfl fl_X7_remove_7 dX7_remove_44 rfl ?_
      refine j_iconst (q := 48) F dX7_remove_47 rfl ?_
      refine j_dup2 (q := 49) F dX7_remove_48 rfl rfl rfl ?_
      refine j_iald (q := 50) F ar83 (by omega) (by omega) (by decide) dX7_remove_49 rfl ?_
      rw [show (mset Mr 83 0 ((M 83 0) - 1)) 83 3 = M 83 3 from by rw [mset_ne2 (by decide), r83]]
      refine j_aload_n (q := 51) F dX7_remove_50 rfl rfl 0 rfl ?_
      refine j_iload_n (q := 52) F dX7_remove_51 rfl rfl 1 rfl ?_
      refine j_callVE (q := 55) F [vI ((M 83 3) - 1)] (ct_X7_first l X hX (mset Mr 83 0 ((M 83 0) - 1)) ((M 83 3) - 1) (by omega) (by omega)) gX7_remove_X7_first rfl cd_X7_first ⟨by first | exact Nat.le_of_ble_eq_true rfl | (simp only [rm]; omega) | (simp [rm, vI, vR, Value.category]; omega), by first | exact Nat.le_of_ble_eq_true rfl | (simp only [rm]; omega) | (simp [rm, vI, vR, Value.category]; omega), by first | exact Nat.le_of_ble_eq_true rfl | (simp only [rm]; omega) | (simp [rm, vI, vR, Value.category]; omega), by first | exact Nat.le_of_ble_eq_true rfl | (simp only [rm]; omega) | (simp [rm, vI, vR, Value.category]; omega)⟩ md82 rfl rfl rfl (Nat.le_of_ble_eq_true rfl) dX7_remove_52 rfl ?_
      rw [show (mset Mr 83 0 ((M 83 0) - 1)) 83 (28 + ((M 83 3) - 1)) = M 83 (28 + (M 83 3 - 1)) from by rw [mset_ne2 (by omega), r83]]
      refine j_aload_n (q := 56) F dX7_remove_55 rfl rfl 0 rfl ?_
      refine j_getR (q := 59) (z := 83) (index := 7) F md82 rfl in_X7_remove_7 0 (by decide) rfl fl_X7_remove_7 dX7_remove_56 rfl ?_
      refine j_iconst (q := 60) F dX7_remove_59 rfl ?_
      refine j_iald (q := 61) F ar83 (by omega) (by omega) (by decide) dX7_remove_60 rfl ?_
      rw [show (mset Mr 83 0 ((M 83 0) - 1)) 83 0 = (M 83 0) - 1 from by simp [mset]]
      refine j_icmp_ne (q := 64) (tgt := 68) F dX7_remove_61 (by decide) rfl ⟨by omega, by omega⟩ ⟨by omega, by omega⟩ (fun h61_5 => ?_) (fun h61_5 => ?_)
      · skip
        refine j_iconst (q := 69) F dX7_remove_68 rfl ?_
        refine j_isub (q := 70) (z := (M 83 3) - 0) F dX7_remove_69 rfl rfl ?_
        refine j_iast (q := 71) F ar83 (by omega) (by omega) (by decide) dX7_remove_70 rfl ?_
        refine j_aload_n (q := 72) F dX7_remove_71 rfl rfl 0 rfl ?_
        refine j_getR (q := 75) (z := 83) (index := 7) F md82 rfl in_X7_remove_7 0 (by decide) rfl fl_X7_remove_7 dX7_remove_72 rfl ?_
        refine j_iconst (q := 76) F dX7_remove_75 rfl ?_
        refine j_iald (q := 77) F ar83 (by omega) (by omega) (by decide) dX7_remove_76 rfl ?_
        rw [show (mset (mset Mr 83 0 ((M 83 0) - 1)) 83 3 ((M 83 3) - 0)) 83 0 = M 83 0 - 1 from by rw [mset_ne2 (by decide), mset_at]]
        refine hret _ _ _ _ dX7_remove_77 ?_
        · have hrec := hr.to (N := (mset (mset Mr 83 0 ((M 83 0) - 1)) 83 3 ((M 83 3) - 0))) (by rw [mset_nef (by omega), mset_nef (by omega)]) (by rw [mset_nef (by omega), mset_nef (by omega)]) (by rw [mset_nef (by omega), mset_nef (by omega)])
          refine mpo_of (fun q a b c => by rw [mset_nef (by omega), mset_nef (by omega)]; exact hr.2.1 q a c) ?_
          refine Or.inr ⟨by omega, by omega, hrec.1, hrec.2, ?_, by omega⟩
          rw [mset_d, mset_d, r83]
          have hif : (if M 83 (28 + (M 83 3 - 1)) = M 83 0 - 1 then (1 : Int) else 0) = 0 := by first | exact if_pos (by omega) | exact if_neg (by omega)
          rw [hif]
          exact fun _ _ _ => rfl
      · skip
        refine j_iconst (q := 65) F dX7_remove_64 rfl ?_
        refine j_goto (q := 69) F dX7_remove_65 (by decide) ?_
        refine j_isub (q := 70) (z := (M 83 3) - 1) F dX7_remove_69 rfl rfl ?_
        refine j_iast (q := 71) F ar83 (by omega) (by omega) (by decide) dX7_remove_70 rfl ?_
        refine j_aload_n (q := 72) F dX7_remove_71 rfl rfl 0 rfl ?_
        refine j_getR (q := 75) (z := 83) (index := 7) F md82 rfl in_X7_remove_7 0 (by decide) rfl fl_X7_remove_7 dX7_remove_72 rfl ?_
        refine j_iconst (q := 76) F dX7_remove_75 rfl ?_
        refine j_iald (q := 77) F ar83 (by omega) (by omega) (by decide) dX7_remove_76 rfl ?_
        rw [show (mset (mset Mr 83 0 ((M 83 0) - 1)) 83 3 ((M 83 3) - 1)) 83 0 = M 83 0 - 1 from by rw [mset_ne2 (by decide), mset_at]]
        refine hret _ _ _ _ dX7_remove_77 ?_
        · have hrec := hr.to (N := (mset (mset Mr 83 0 ((M 83 0) - 1)) 83 3 ((M 83 3) - 1))) (by rw [mset_nef (by omega), mset_nef (by omega)]) (by rw [mset_nef (by omega), mset_nef (by omega)]) (by rw [mset_nef (by omega), mset_nef (by omega)])
          refine mpo_of (fun q a b c => by rw [mset_nef (by omega), mset_nef (by omega)]; exact hr.2.1 q a c) ?_
          refine Or.inr ⟨by omega, by omega, hrec.1, hrec.2, ?_, by omega⟩
          rw [mset_d, mset_d, r83]
          have hif : (if M 83 (28 + (M 83 3 - 1)) = M 83 0 - 1 then (1 : Int) else 0) = 1 := by first | exact if_pos (by omega) | exact if_neg (by omega)
          rw [hif]
          exact fun _ _ _ => rfl
    · skip
      refine j_bipush (q := 28) F dX7_remove_26 rfl (by decide) ?_
      exact hret _ _ _ _ dX7_remove_28 (by exact mpo_of (fun _ _ _ _ => rfl) (Or.inl ⟨by first | exact Or.inl (by omega) | exact Or.inr (by assumption), rfl, SM.rf M⟩))
