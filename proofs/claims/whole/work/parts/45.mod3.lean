theorem cd_X7_fills : yX7_fills.cls = RX7 ∧ yX7_fills.cls ≠ "java/lang/invoke/MethodHandle" ∧ yX7_fills.cls ≠ "java/lang/invoke/VarHandle" ∧ (parseMethodDescriptor yX7_fills.desc).map (fun d => d.parameters.length) = some 0 := by decide +kernel
theorem cd_X7_frozen : yX7_frozen.cls = RX7 ∧ yX7_frozen.cls ≠ "java/lang/invoke/MethodHandle" ∧ yX7_frozen.cls ≠ "java/lang/invoke/VarHandle" ∧ (parseMethodDescriptor yX7_frozen.desc).map (fun d => d.parameters.length) = some 0 := by decide +kernel
theorem cd_X7_records : yX7_records.cls = RX7 ∧ yX7_records.cls ≠ "java/lang/invoke/MethodHandle" ∧ yX7_records.cls ≠ "java/lang/invoke/VarHandle" ∧ (parseMethodDescriptor yX7_records.desc).map (fun d => d.parameters.length) = some 0 := by decide +kernel
theorem fl_X7_setWidth_7 : Cond.fieldLink RX7 7 "WhiteRiversModel" "d" "[I" ∈ wsX7_setWidth := by decide +kernel
theorem in_X7_setWidth_7 : ∀ w ∈ u_ws RX7 TX7 19, w ∈ wsX7_setWidth := by decide +kernel
set_option maxRecDepth 100000 in
set_option maxHeartbeats 400000 in
theorem ct_X7_setWidth (l : Launch) (X : Cx) (hX : Inj X) (M : Mem) (hD : DOK (M 83)) (hst : 0 ≤ M 82 2 ∧ M 82 2 ≤ 5) (w : Int) (hw0 : inR w) : CtI l X yX7_setWidth wsX7_setWidth 4 [vR X 82, vI w] M (fun r M' => MPO M (OsetWidth M w) r M') := by
  refine CtI_of (cc := cX7_setWidth) (maxL := 2) hX (by decide +kernel) rfl (Nat.le_of_ble_eq_true rfl) ?_
  intro zp ze zs zm zargs zbelow zmeth zc zQ F hret
  show J zp l ze (rm 4) zs zm zargs zbelow zmeth zc 0 0 zQ zs.heap X 2 M 0 [(0, vR X 82), (1, vI w)] []
  have hw := hD.w
  have hnn := hD.1
  have hww := hD.2.1
  have hlen := hw.2.2
  have hL24 := hD.L24
  have hss := hD.2.2.1
  have hdb := @DOK.bd _ hD
  obtain ⟨hw1, hw2⟩ := hw0
  have hfb2 := frc_bd hD
  refine j_iload_n (q := 1) F dX7_setWidth_0 rfl rfl 1 rfl ?_
  refine j_bipush (q := 3) F dX7_setWidth_1 rfl (by decide) ?_
  refine j_bipush (q := 5) F dX7_setWidth_3 rfl (by decide) ?_
  refine j_callSZ (q := 8) F [vI w, vI 16, vI 40] (ct_X7_in l X hX M w 16 40 ⟨by omega, by omega⟩ ⟨by omega, by omega⟩ ⟨by omega, by omega⟩) gX7_setWidth_X7_in rfl cd_X7_in ⟨by first | exact Nat.le_of_ble_eq_true rfl | (simp only [rm]; omega) | (simp [rm, vI, vR, Value.category]; omega), by first | exact Nat.le_of_ble_eq_true rfl | (simp only [rm]; omega) | (simp [rm, vI, vR, Value.category]; omega), by first | exact Nat.le_of_ble_eq_true rfl | (simp only [rm]; omega) | (simp [rm, vI, vR, Value.category]; omega), by first | exact Nat.le_of_ble_eq_true rfl | (simp only [rm]; omega) | (simp [rm, vI, vR, Value.category]; omega)⟩ rfl rfl (Nat.le_of_ble_eq_true rfl) dX7_setWidth_5 rfl (fun hwi => ?_) (fun hwi => ?_)
  · skip
    refine j_if_ne (q := 11) (tgt := 13) F dX7_setWidth_8 (by decide) rfl ⟨by decide, by decide⟩ (fun _ => ?_) (fun h => absurd h (by decide))
    refine j_aload_n (q := 14) F dX7_setWidth_13 rfl rfl 0 rfl ?_
    refine j_callVE (q := 17) F [] (ct_X7_frozen l X hX M (by omega)) gX7_setWidth_X7_frozen rfl cd_X7_frozen ⟨by first | exact Nat.le_of_ble_eq_true rfl | (simp only [rm]; omega) | (simp [rm, vI, vR, Value.category]; omega), by first | exact Nat.le_of_ble_eq_true rfl | (simp only [rm]; omega) | (simp [rm, vI, vR, Value.category]; omega), by first | exact Nat.le_of_ble_eq_true rfl | (simp only [rm]; omega) | (simp [rm, vI, vR, Value.category]; omega), by first | exact Nat.le_of_ble_eq_true rfl | (simp only [rm]; omega) | (simp [rm, vI, vR, Value.category]; omega)⟩ md82 rfl rfl rfl (Nat.le_of_ble_eq_true rfl) dX7_setWidth_14 rfl ?_
    refine j_if_le (q := 20) (tgt := 23) F dX7_setWidth_17 (by decide) rfl ⟨by omega, by omega⟩ (fun h17_3 => ?_) (fun h17_3 => ?_)
    · skip
      refine j_aload_n (q := 24) F dX7_setWidth_23 rfl rfl 0 rfl ?_
      refine j_callVV (q := 27) F [] (ct_X7_records l X hX M (by omega)) gX7_setWidth_X7_records rfl cd_X7_records ⟨by first | exact Nat.le_of_ble_eq_true rfl | (simp only [rm]; omega) | (simp [rm, vI, vR, Value.category]; omega), by first | exact Nat.le_of_ble_eq_true rfl | (simp only [rm]; omega) | (simp [rm, vI, vR, Value.category]; omega), by first | exact Nat.le_of_ble_eq_true rfl | (simp only [rm]; omega) | (simp [rm, vI, vR, Value.category]; omega), by first | exact Nat.le_of_ble_eq_true rfl | (simp only [rm]; omega) | (simp [rm, vI, vR, Value.category]; omega)⟩ md82 rfl rfl rfl (Nat.le_of_ble_eq_true rfl) dX7_setWidth_24 rfl (fun Mr hr => ?_)
      have r83 : Mr 83 = M 83 := hr.2.1 83 (by decide) (by decide)
      have r0 : Mr 83 0 = M 83 0 := by rw [r83]
      have r1 : Mr 83 1 = M 83 1 := by rw [r83]
      have r2 : Mr 83 2 = M 83 2 := by rw [r83]
      have r3 : Mr 83 3 = M 83 3 := by rw [r83]
      refine j_aload_n (q := 28) F dX7_setWidth_27 rfl rfl 0 rfl ?_
      refine j_getR (q := 31) (z := 83) (index := 7) F md82 rfl in_X7_setWidth_7 0 (by decide) rfl fl_X7_setWidth_7 dX7_setWidth_28 rfl ?_
      refine j_iconst (q := 32) F dX7_setWidth_31 rfl ?_
      refine j_iload_n (q := 33) F dX7_setWidth_32 rfl rfl 1 rfl ?_
      refine j_iast (q := 34) F ar83 (by omega) (by omega) (by decide) dX7_setWidth_33 rfl ?_
      refine j_aload_n (q := 35) F dX7_setWidth_34 rfl rfl 0 rfl ?_
      refine j_callVV (q := 38) F [] (ct_X7_fills l X hX (mset Mr 83 1 w) (by rw [mset_d, r83]; exact ⟨by rw [dset_ne (by decide)]; exact hnn, by rw [dset_at]; exact hwi, fun q a b => by rw [dset_ne (by decide)] at b; rw [dset_ne (by omega)]; exact hlen q a b⟩)) gX7_setWidth_X7_fills rfl cd_X7_fills ⟨by first | exact Nat.le_of_ble_eq_true rfl | (simp only [rm]; omega) | (simp [rm, vI, vR, Value.category]; omega), by first | exact Nat.le_of_ble_eq_true rfl | (simp only [rm]; omega) | (simp [rm, vI, vR, Value.category]; omega), by first | exact Nat.le_of_ble_eq_true rfl | (simp only [rm]; omega) | (simp [rm, vI, vR, Value.category]; omega), by first | exact Nat.le_of_ble_eq_true rfl | (simp only [rm]; omega) | (simp [rm, vI, vR, Value.category]; omega)⟩ md82 rfl rfl rfl (Nat.le_of_ble_eq_true rfl) dX7_setWidth_35 rfl (fun Mf hfl => ?_)
      refine j_aload_n (q := 39) F dX7_setWidth_38 rfl rfl 0 rfl ?_
      refine j_getR (q := 42) (z := 83) (index := 7) F md82 rfl in_X7_setWidth_7 0 (by decide) rfl fl_X7_setWidth_7 dX7_setWidth_39 rfl ?_
      refine j_iconst (q := 43) F dX7_setWidth_42 rfl ?_
      refine j_iald (q := 44) F ar83 (by omega) (by omega) (by decide) dX7_setWidth_43 rfl ?_
      refine hret _ _ _ _ dX7_setWidth_44 ?_
      · have hrec := hr.to (N := Mf) (by rw [hfl.1 82 (by decide), mset_nef (by decide)]) (by rw [hfl.1 84 (by decide), mset_nef (by decide)]) (by rw [hfl.1 85 (by decide), mset_nef (by decide)])
        refine mpo_of (fun q a b c => by rw [hfl.1 q b, mset_nef b]; exact hr.2.1 q a c) (Or.inr (Or.inr ⟨hwi, by omega, hrec.1, hrec.2, ?_, rfl⟩))
        have z := hfl.2
        rw [mset_d, r83] at z
        exact z
    · skip
      refine j_bipush (q := 22) F dX7_setWidth_20 rfl (by decide) ?_
      exact hret _ _ _ _ dX7_setWidth_22 (by exact mpo_of (fun _ _ _ _ => rfl) (Or.inr (Or.inl ⟨hwi, by omega, rfl, SM.rf M⟩)))
  · skip
    refine j_if_ne (q := 11) (tgt := 13) F dX7_setWidth_8 (by decide) rfl ⟨by decide, by decide⟩ (fun h => absurd h (by decide)) (fun _ => ?_)
    refine j_iconst (q := 12) F dX7_setWidth_11 rfl ?_
    exact hret _ _ _ _ dX7_setWidth_12 (by exact mpo_of (fun _ _ _ _ => rfl) (Or.inl ⟨by omega, rfl, SM.rf M⟩))
theorem fl_X7_reflow_7 : Cond.fieldLink RX7 7 "WhiteRiversModel" "d" "[I" ∈ wsX7_reflow := by decide +kernel
theorem in_X7_reflow_7 : ∀ w ∈ u_ws RX7 TX7 19, w ∈ wsX7_reflow := by decide +kernel
set_option maxRecDepth 100000 in
set_option maxHeartbeats 400000 in
theorem ct_X7_reflow (l : Launch) (X : Cx) (hX : Inj X) (M : Mem) (hD : DOK (M 83)) (hst : 0 ≤ M 82 2 ∧ M 82 2 ≤ 5) : CtI l X yX7_reflow wsX7_reflow 4 [vR X 82] M (fun r M' => MPO M (Oreflow M) r M') := by
  refine CtI_of (cc := cX7_reflow) (maxL := 1) hX (by decide +kernel) rfl (Nat.le_of_ble_eq_true rfl) ?_
  intro zp ze zs zm zargs zbelow zmeth zc zQ F hret
  show J zp l ze (rm 4) zs zm zargs zbelow zmeth zc 0 0 zQ zs.heap X 1 M 0 [(0, vR X 82)] []
  have hw := hD.w
  have hnn := hD.1
  have hww := hD.2.1
  have hlen := hw.2.2
  have hL24 := hD.L24
  have hss := hD.2.2.1
  have hdb := @DOK.bd _ hD
  have hfb2 := frc_bd hD
  refine j_aload_n (q := 1) F dX7_reflow_0 rfl rfl 0 rfl ?_
  refine j_callVE (q := 4) F [] (ct_X7_frozen l X hX M (by omega)) gX7_reflow_X7_frozen rfl cd_X7_frozen ⟨by first | exact Nat.le_of_ble_eq_true rfl | (simp only [rm]; omega) | (simp [rm, vI, vR, Value.category]; omega), by first | exact Nat.le_of_ble_eq_true rfl | (simp only [rm]; omega) | (simp [rm, vI, vR, Value.category]; omega), by first | exact Nat.le_of_ble_eq_true rfl | (simp only [rm]; omega) | (simp [rm, vI, vR, Value.category]; omega), by first | exact Nat.le_of_ble_eq_true rfl | (simp only [rm]; omega) | (simp [rm, vI, vR, Value.category]; omega)⟩ md82 rfl rfl rfl (Nat.le_of_ble_eq_true rfl) dX7_reflow_1 rfl ?_
  refine j_if_le (q := 7) (tgt := 10) F dX7_reflow_4 (by decide) rfl ⟨by omega, by omega⟩ (fun h4_2 => ?_) (fun h4_2 => ?_)
  · skip
    refine j_aload_n (q := 11) F dX7_reflow_10 rfl rfl 0 rfl ?_
    refine j_callVV (q := 14) F [] (ct_X7_records l X hX M (by omega)) gX7_reflow_X7_records rfl cd_X7_records ⟨by first | exact Nat.le_of_ble_eq_true rfl | (simp only [rm]; omega) | (simp [rm, vI, vR, Value.category]; omega), by first | exact Nat.le_of_ble_eq_true rfl | (simp only [rm]; omega) | (simp [rm, vI, vR, Value.category]; omega), by first | exact Nat.le_of_ble_eq_true rfl | (simp only [rm]; omega) | (simp [rm, vI, vR, Value.category]; omega), by first | exact Nat.le_of_ble_eq_true rfl | (simp only [rm]; omega) | (simp [rm, vI, vR, Value.category]; omega)⟩ md82 rfl rfl rfl (Nat.le_of_ble_eq_true rfl) dX7_reflow_11 rfl (fun Mr hr => ?_)
    have r83 : Mr 83 = M 83 := hr.2.1 83 (by decide) (by decide)
    have r0 : Mr 83 0 = M 83 0 := by rw [r83]
    have r1 : Mr 83 1 = M 83 1 := by rw [r83]
    have r2 : Mr 83 2 = M 83 2 := by rw [r83]
    have r3 : Mr 83 3 = M 83 3 := by rw [r83]
    refine j_aload_n (q := 15) F dX7_reflow_14 rfl rfl 0 rfl ?_
    refine j_callVV (q := 18) F [] (ct_X7_fills l X hX Mr (by rw [r83]; exact hw)) gX7_reflow_X7_fills rfl cd_X7_fills ⟨by first | exact Nat.le_of_ble_eq_true rfl | (simp only [rm]; omega) | (simp [rm, vI, vR, Value.category]; omega), by first | exact Nat.le_of_ble_eq_true rfl | (simp only [rm]; omega) | (simp [rm, vI, vR, Value.category]; omega), by first | exact Nat.le_of_ble_eq_true rfl | (simp only [rm]; omega) | (simp [rm, vI, vR, Value.category]; omega), by first | exact Nat.le_of_ble_eq_true rfl | (simp only [rm]; omega) | (simp [rm, vI, vR, Value.category]; omega)⟩ md82 rfl rfl rfl (Nat.le_of_ble_eq_true rfl) dX7_reflow_15 rfl (fun Mf hfl => ?_)
    refine j_aload_n (q := 19) F dX7_reflow_18 rfl rfl 0 rfl ?_
    refine j_getR (q := 22) (z := 83) (index := 7) F md82 rfl in_X7_reflow_7 0 (by decide) rfl fl_X7_reflow_7 dX7_reflow_19 rfl ?_
    refine j_iconst (q := 23) F dX7_reflow_22 rfl ?_
    refine j_iald (q := 24) F ar83 (by omega) (by omega) (by decide) dX7_reflow_23 rfl ?_
    refine hret _ _ _ _ dX7_reflow_24 ?_
    · have hrec := hr.to (N := Mf) (by rw [hfl.1 82 (by decide)]) (by rw [hfl.1 84 (by decide)]) (by rw [hfl.1 85 (by decide)])
      refine mpo_of (fun q a b c => by rw [hfl.1 q b]; exact hr.2.1 q a c) (Or.inr ⟨by omega, hrec.1, hrec.2, ?_, rfl⟩)
      have z := hfl.2
      rw [r83] at z
      exact z
  · skip
    refine j_bipush (q := 9) F dX7_reflow_7 rfl (by decide) ?_
    exact hret _ _ _ _ dX7_reflow_9 (by exact mpo_of (fun _ _ _ _ => rfl) (Or.inl ⟨by omega, rfl, SM.rf M⟩))
theorem fl_X7_setSlack_7 : Cond.fieldLink RX7 7 "WhiteRiversModel" "d" "[I" ∈ wsX7_setSlack := by decide +kernel
theorem in_X7_setSlack_7 : ∀ w ∈ u_ws RX7 TX7 19, w ∈ wsX7_setSlack := by decide +kernel
set_option maxRecDepth 100000 in
set_option maxHeartbeats 400000 in
theorem ct_X7_setSlack (l : Launch) (X : Cx) (hX : Inj X) (M : Mem) (hD : DOK (M 83)) (hst : 0 ≤ M 82 2 ∧ M 82 2 ≤ 5) (v : Int) (hv0 : inR v) : CtI l X yX7_setSlack wsX7_setSlack 1 [vR X 82, vI v] M (fun r M' => MPO M (OsetSlack M v) r M') := by
  refine CtI_of (cc := cX7_setSlack) (maxL := 3) hX (by decide +kernel) rfl (Nat.le_of_ble_eq_true rfl) ?_
  intro zp ze zs zm zargs zbelow zmeth zc zQ F hret
  show J zp l ze (rm 1) zs zm zargs zbelow zmeth zc 0 0 zQ zs.heap X 3 M 0 [(0, vR X 82), (1, vI v)] []
  have hw := hD.w
  have hnn := hD.1
  have hww := hD.2.1
  have hlen := hw.2.2
  have hL24 := hD.L24
  have hss := hD.2.2.1
  have hdb := @DOK.bd _ hD
  obtain ⟨hv1, hv2⟩ := hv0
  refine j_iload_n (q := 1) F dX7_setSlack_0 rfl rfl 1 rfl ?_
  refine j_iconst (q := 2) F dX7_setSlack_1 rfl ?_
  refine j_bipush (q := 4) F dX7_setSlack_2 rfl (by decide) ?_
  refine j_callSZ (q := 7) F [vI v, vI 0, vI 8] (ct_X7_in l X hX M v 0 8 ⟨by omega, by omega⟩ ⟨by omega, by omega⟩ ⟨by omega, by omega⟩) gX7_setSlack_X7_in rfl cd_X7_in ⟨by first | exact Nat.le_of_ble_eq_true rfl | (simp only [rm]; omega) | (simp [rm, vI, vR, Value.category]; omega), by first | exact Nat.le_of_ble_eq_true rfl | (simp only [rm]; omega) | (simp [rm, vI, vR, Value.category]; omega), by first | exact Nat.le_of_ble_eq_true rfl | (simp only [rm]; omega) | (simp [rm, vI, vR, Value.category]; omega), by first | exact Nat.le_of_ble_eq_true rfl | (simp only [rm]; omega) | (simp [rm, vI, vR, Value.category]; omega)⟩ rfl rfl (Nat.le_of_ble_eq_true rfl) dX7_setSlack_4 rfl (fun hwi => ?_) (fun hwi => ?_)
  · skip
    refine j_if_ne (q := 10) (tgt := 12) F dX7_setSlack_7 (by decide) rfl ⟨by decide, by decide⟩ (fun _ => ?_) (fun h => absurd h (by decide))
    refine j_aload_n (q := 13) F dX7_setSlack_12 rfl rfl 0 rfl ?_
    refine j_callVV (q := 16) F [] (ct_X7_records l X hX M (by omega)) gX7_setSlack_X7_records rfl cd_X7_records ⟨by first | exact Nat.le_of_ble_eq_true rfl | (simp only [rm]; omega) | (simp [rm, vI, vR, Value.category]; omega), by first | exact Nat.le_of_ble_eq_true rfl | (simp only [rm]; omega) | (simp [rm, vI, vR, Value.category]; omega), by first | exact Nat.le_of_ble_eq_true rfl | (simp only [rm]; omega) | (simp [rm, vI, vR, Value.category]; omega), by first | exact Nat.le_of_ble_eq_true rfl | (simp only [rm]; omega) | (simp [rm, vI, vR, Value.category]; omega)⟩ md82 rfl rfl rfl (Nat.le_of_ble_eq_true rfl) dX7_setSlack_13 rfl (fun Mr hr => ?_)
    have r83 : Mr 83 = M 83 := hr.2.1 83 (by decide) (by decide)
    have r0 : Mr 83 0 = M 83 0 := by rw [r83]
    have r1 : Mr 83 1 = M 83 1 := by rw [r83]
    have r2 : Mr 83 2 = M 83 2 := by rw [r83]
    have r3 : Mr 83 3 = M 83 3 := by rw [r83]
    refine j_aload_n (q := 17) F dX7_setSlack_16 rfl rfl 0 rfl ?_
    refine j_getR (q := 20) (z := 83) (index := 7) F md82 rfl in_X7_setSlack_7 0 (by decide) rfl fl_X7_setSlack_7 dX7_setSlack_17 rfl ?_
    refine j_iconst (q := 21) F dX7_setSlack_20 rfl ?_
    refine j_iald (q := 22) F ar83 (by omega) (by omega) (by decide) dX7_setSlack_21 rfl ?_
    refine j_istore_n (q := 23) (lv' := [(0, vR X 82), (1, vI v), (2, vI (Mr 83 2))]) F dX7_setSlack_22 rfl rfl (by decide) rfl rfl ?_
    refine j_aload_n (q := 24) F dX7_setSlack_23 rfl rfl 0 rfl ?_
    refine j_getR (q := 27) (z := 83) (index := 7) F md82 rfl in_X7_setSlack_7 0 (by decide) rfl fl_X7_setSlack_7 dX7_setSlack_24 rfl ?_
    refine j_iconst (q := 28) F dX7_setSlack_27 rfl ?_
    refine j_iload_n (q := 29) F dX7_setSlack_28 rfl rfl 1 rfl ?_
    refine j_iast (q := 30) F ar83 (by omega) (by omega) (by decide) dX7_setSlack_29 rfl ?_
    refine j_iload_n (q := 31) F dX7_setSlack_30 rfl rfl 2 rfl ?_
    refine hret _ _ _ _ dX7_setSlack_31 ?_
    · have hrec := hr.to (N := (mset Mr 83 2 v)) (by rw [mset_nef (by omega)]) (by rw [mset_nef (by omega)]) (by rw [mset_nef (by omega)])
      refine mpo_of (fun q a b c => by rw [mset_nef (by omega)]; exact hr.2.1 q a c) ?_
      exact Or.inr ⟨hwi, hrec.1, hrec.2, by rw [mset_d, r83]; exact fun _ _ _ => rfl, r2⟩
  · skip
    refine j_if_ne (q := 10) (tgt := 12) F dX7_setSlack_7 (by decide) rfl ⟨by decide, by decide⟩ (fun h => absurd h (by decide)) (fun _ => ?_)
    refine j_iconst (q := 11) F dX7_setSlack_10 rfl ?_
    exact hret _ _ _ _ dX7_setSlack_11 (by exact mpo_of (fun _ _ _ _ => rfl) (Or.inl ⟨by omega, rfl, SM.rf M⟩))
theorem cd_X7_isLine : yX7_isLine.cls = RX7 ∧ yX7_isLine.cls ≠ "java/lang/invoke/MethodHandle" ∧ yX7_isLine.cls ≠ "java/lang/invoke/VarHandle" ∧ (parseMethodDescriptor yX7_isLine.desc).map (fun d => d.parameters.length) = some 1 := by decide +kernel
theorem fl_X7_freeze_7 : Cond.fieldLink RX7 7 "WhiteRiversModel" "d" "[I" ∈ wsX7_freeze := by decide +kernel
theorem in_X7_freeze_7 : ∀ w ∈ u_ws RX7 TX7 19, w ∈ wsX7_freeze := by decide +kernel
set_option maxRecDepth 100000 in
set_option maxHeartbeats 400000 in
theorem ct_X7_freeze (l : Launch) (X : Cx) (hX : Inj X) (M : Mem) (hD : DOK (M 83)) (hst : 0 ≤ M 82 2 ∧ M 82 2 ≤ 5) (n : Int) (hn0 : inR n) (v : Int) (hv0 : inR v) : CtI l X yX7_freeze wsX7_freeze 2 [vR X 82, vI n, vI v] M (fun r M' => MPO M (Ofreeze M n v) r M') := by
  refine CtI_of (cc := cX7_freeze) (maxL := 4) hX (by decide +kernel) rfl (Nat.le_of_ble_eq_true rfl) ?_
  intro zp ze zs zm zargs zbelow zmeth zc zQ F hret
  show J zp l ze (rm 2) zs zm zargs zbelow zmeth zc 0 0 zQ zs.heap X 4 M 0 [(0, vR X 82), (1, vI n), (2, vI v)] []
  have hw := hD.w
  have hnn := hD.1
  have hww := hD.2.1
  have hlen := hw.2.2
  have hL24 := hD.L24
  have hss := hD.2.2.1
  have hdb := @DOK.bd _ hD
  obtain ⟨hn1, hn2⟩ := hn0
  obtain ⟨hv1, hv2⟩ := hv0
  refine j_aload_n (q := 1) F dX7_freeze_0 rfl rfl 0 rfl ?_
  refine j_iload_n (q := 2) F dX7_freeze_1 rfl rfl 1 rfl ?_
  refine j_callVZ (q := 5) F [vI n] (ct_X7_isLine l X hX M hD n ⟨by omega, by omega⟩) gX7_freeze_X7_isLine rfl cd_X7_isLine ⟨by first | exact Nat.le_of_ble_eq_true rfl | (simp only [rm]; omega) | (simp [rm, vI, vR, Value.category]; omega), by first | exact Nat.le_of_ble_eq_true rfl | (simp only [rm]; omega) | (simp [rm, vI, vR, Value.category]; omega), by first | exact Nat.le_of_ble_eq_true rfl | (simp only [rm]; omega) | (simp [rm, vI, vR, Value.category]; omega), by first | exact Nat.le_of_ble_eq_true rfl | (simp only [rm]; omega) | (simp [rm, vI, vR, Value.category]; omega)⟩ md82 rfl rfl rfl (Nat.le_of_ble_eq_true rfl) dX7_freeze_2 rfl (fun hli => ?_) (fun hli => ?_)
  · skip
    refine j_if_eq (q := 8) (tgt := 17) F dX7_freeze_5 (by decide) rfl ⟨by decide, by decide⟩ (fun h => absurd h (by decide)) (fun _ => ?_)
    refine j_iload_n (q := 9) F dX7_freeze_8 rfl rfl 2 rfl ?_
    refine j_iconst (q := 10) F dX7_freeze_9 rfl ?_
    refine j_iconst (q := 11) F dX7_freeze_10 rfl ?_
    refine j_callSZ (q := 14) F [vI v, vI 0, vI 1] (ct_X7_in l X hX M v 0 1 ⟨by omega, by omega⟩ ⟨by omega, by omega⟩ ⟨by omega, by omega⟩) gX7_freeze_X7_in rfl cd_X7_in ⟨by first | exact Nat.le_of_ble_eq_true rfl | (simp only [rm]; omega) | (simp [rm, vI, vR, Value.category]; omega), by first | exact Nat.le_of_ble_eq_true rfl | (simp only [rm]; omega) | (simp [rm, vI, vR, Value.category]; omega), by first | exact Nat.le_of_ble_eq_true rfl | (simp only [rm]; omega) | (simp [rm, vI, vR, Value.category]; omega), by first | exact Nat.le_of_ble_eq_true rfl | (simp only [rm]; omega) | (simp [rm, vI, vR, Value.category]; omega)⟩ rfl rfl (Nat.le_of_ble_eq_true rfl) dX7_freeze_11 rfl (fun hwi => ?_) (fun hwi => ?_)
    · skip
      refine j_if_ne (q := 17) (tgt := 19) F dX7_freeze_14 (by decide) rfl ⟨by decide, by decide⟩ (fun _ => ?_) (fun h => absurd h (by decide))
      refine j_aload_n (q := 20) F dX7_freeze_19 rfl rfl 0 rfl ?_
      refine j_callVV (q := 23) F [] (ct_X7_records l X hX M (by omega)) gX7_freeze_X7_records rfl cd_X7_records ⟨by first | exact Nat.le_of_ble_eq_true rfl | (simp only [rm]; omega) | (simp [rm, vI, vR, Value.category]; omega), by first | exact Nat.le_of_ble_eq_true rfl | (simp only [rm]; omega) | (simp [rm, vI, vR, Value.category]; omega), by first | exact Nat.le_of_ble_eq_true rfl | (simp only [rm]; omega) | (simp [rm, vI, vR, Value.category]; omega), by first | exact Nat.le_of_ble_eq_true rfl | (simp only [rm]; omega) | (simp [rm, vI, vR, Value.category]; omega)⟩ md82 rfl rfl rfl (Nat.le_of_ble_eq_true rfl) dX7_freeze_20 rfl (fun Mr hr => ?_)
      have r83 : Mr 83 = M 83 := hr.2.1 83 (by decide) (by decide)
      have r0 : Mr 83 0 = M 83 0 := by rw [r83]
      have r1 : Mr 83 1 = M 83 1 := by rw [r83]
      have r2 : Mr 83 2 = M 83 2 := by rw [r83]
      have r3 : Mr 83 3 = M 83 3 := by rw [r83]
      refine j_aload_n (q := 24) F dX7_freeze_23 rfl rfl 0 rfl ?_
      refine j_getR (q := 27) (z := 83) (index := 7) F md82 rfl in_X7_freeze_7 0 (by decide) rfl fl_X7_freeze_7 dX7_freeze_24 rfl ?_
      refine j_bipush (q := 29) F dX7_freeze_27 rfl (by decide) ?_
      refine j_iload_n (q := 30) F dX7_freeze_29 rfl rfl 1 rfl ?_
      refine j_iadd (q := 31) (z := 53 + n) F dX7_freeze_30 rfl rfl ?_
      refine j_iald (q := 32) F ar83 (by omega) (by omega) (by decide) dX7_freeze_31 rfl ?_
      refine j_istore_n (q := 33) (lv' := [(0, vR X 82), (1, vI n), (2, vI v), (3, vI (Mr 83 (53 + n)))]) F dX7_freeze_32 rfl rfl (by decide) rfl rfl ?_
      refine j_aload_n (q := 34) F dX7_freeze_33 rfl rfl 0 rfl ?_
      refine j_getR (q := 37) (z := 83) (index := 7) F md82 rfl in_X7_freeze_7 0 (by decide) rfl fl_X7_freeze_7 dX7_freeze_34 rfl ?_
      refine j_bipush (q := 39) F dX7_freeze_37 rfl (by decide) ?_
      refine j_iload_n (q := 40) F dX7_freeze_39 rfl rfl 1 rfl ?_
      refine j_iadd (q := 41) (z := 53 + n) F dX7_freeze_40 rfl rfl ?_
      refine j_iload_n (q := 42) F dX7_freeze_41 rfl rfl 2 rfl ?_
      refine j_iast (q := 43) F ar83 (by omega) (by omega) (by decide) dX7_freeze_42 rfl ?_
      refine j_iload_n (q := 44) F dX7_freeze_43 rfl rfl 3 rfl ?_
      refine hret _ _ _ _ dX7_freeze_44 ?_
      · have hrec := hr.to (N := (mset Mr 83 (53 + n) v)) (by rw [mset_nef (by omega)]) (by rw [mset_nef (by omega)]) (by rw [mset_nef (by omega)])
        refine mpo_of (fun q a b c => by rw [mset_nef (by omega)]; exact hr.2.1 q a c) ?_
        exact Or.inr ⟨⟨hli, hwi⟩, hrec.1, hrec.2, by rw [mset_d, r83]; exact fun _ _ _ => rfl, by rw [r83]⟩
    · skip
      refine j_if_ne (q := 17) (tgt := 19) F dX7_freeze_14 (by decide) rfl ⟨by decide, by decide⟩ (fun h => absurd h (by decide)) (fun _ => ?_)
      refine j_iconst (q := 18) F dX7_freeze_17 rfl ?_
      exact hret _ _ _ _ dX7_freeze_18 (by exact mpo_of (fun _ _ _ _ => rfl) (Or.inl ⟨fun z => by have z1 := z.1.1; have z2 := z.1.2; have z3 := z.2; omega, rfl, SM.rf M⟩))
  · skip
    refine j_if_eq (q := 8) (tgt := 17) F dX7_freeze_5 (by decide) rfl ⟨by decide, by decide⟩ (fun _ => ?_) (fun h => absurd h (by decide))
    refine j_iconst (q := 18) F dX7_freeze_17 rfl ?_
    exact hret _ _ _ _ dX7_freeze_18 (by exact mpo_of (fun _ _ _ _ => rfl) (Or.inl ⟨fun z => by have z1 := z.1.1; have z2 := z.1.2; have z3 := z.2; omega, rfl, SM.rf M⟩))
