theorem cd_X7_isLength : yX7_isLength.cls ≠ "java/lang/invoke/MethodHandle" ∧ yX7_isLength.cls ≠ "java/lang/invoke/VarHandle" ∧ (parseMethodDescriptor yX7_isLength.desc).map (fun d => d.parameters.length) = some 1 := by decide +kernel
theorem cd_X7_plans : yX7_plans.cls = RX7 ∧ yX7_plans.cls ≠ "java/lang/invoke/MethodHandle" ∧ yX7_plans.cls ≠ "java/lang/invoke/VarHandle" ∧ (parseMethodDescriptor yX7_plans.desc).map (fun d => d.parameters.length) = some 1 := by decide +kernel
theorem fl_X7_plan_133 : Cond.fieldLink RX7 133 "WhiteRiversModel" "bestLines" "I" ∈ wsX7_plan := by decide +kernel
theorem fl_X7_plan_136 : Cond.fieldLink RX7 136 "WhiteRiversModel" "bestChanged" "I" ∈ wsX7_plan := by decide +kernel
theorem fl_X7_plan_139 : Cond.fieldLink RX7 139 "WhiteRiversModel" "bestBad" "I" ∈ wsX7_plan := by decide +kernel
theorem fl_X7_plan_142 : Cond.fieldLink RX7 142 "WhiteRiversModel" "bestRiver" "I" ∈ wsX7_plan := by decide +kernel
theorem in_X7_plan_7 : ∀ w ∈ u_ws RX7 TX7 19, w ∈ wsX7_plan := by decide +kernel
set_option maxRecDepth 100000 in
set_option maxHeartbeats 1000000 in
theorem ct_X7_plan (l : Launch) (X : Cx) (hX : Inj X) (M : Mem) (hD : DOK (M 83)) (hz : M 90 0 = 0 ∧ M 92 0 = 0 ∧ M 93 0 = 0 ∧ M 94 0 = 0) (D : Int) (hD0 : inR D) (w : Int) (hw0 : inR w) : CtI l X yX7_plan wsX7_plan 4 [vR X 82, vI D, vI w] M (fun r M' => MPO M (Oplan M D w) r M') := by
  refine CtI_of (cc := cX7_plan) (maxL := 3) hX (by decide +kernel) rfl (Nat.le_of_ble_eq_true rfl) ?_
  intro zp ze zs zm zargs zbelow zmeth zc zQ F hret
  show J zp l ze (rm 4) zs zm zargs zbelow zmeth zc 0 0 zQ zs.heap X 3 M 0 [(0, vR X 82), (1, vI D), (2, vI w)] []
  have hw := hD.w
  have hnn := hD.1
  have hww := hD.2.1
  have hlen := hw.2.2
  have hL24 := hD.L24
  have hss := hD.2.2.1
  obtain ⟨hD1, hD2⟩ := hD0
  obtain ⟨hw1, hw2⟩ := hw0
  refine j_iload_n (q := 1) F dX7_plan_0 rfl rfl 1 rfl ?_
  refine j_callSZ (q := 4) F [vI D] (ct_X7_isLength l X hX M D ⟨by omega, by omega⟩) gX7_plan_X7_isLength rfl cd_X7_isLength ⟨by first | exact Nat.le_of_ble_eq_true rfl | (simp only [rm]; omega) | (simp [rm, vI, vR, Value.category]; omega), by first | exact Nat.le_of_ble_eq_true rfl | (simp only [rm]; omega) | (simp [rm, vI, vR, Value.category]; omega), by first | exact Nat.le_of_ble_eq_true rfl | (simp only [rm]; omega) | (simp [rm, vI, vR, Value.category]; omega), by first | exact Nat.le_of_ble_eq_true rfl | (simp only [rm]; omega) | (simp [rm, vI, vR, Value.category]; omega)⟩ rfl rfl (Nat.le_of_ble_eq_true rfl) dX7_plan_1 rfl (fun hdl => ?_) (fun hdl => ?_)
  · skip
    refine j_if_eq (q := 7) (tgt := 16) F dX7_plan_4 (by decide) rfl ⟨by decide, by decide⟩ (fun h => absurd h (by decide)) (fun _ => ?_)
    refine j_iload_n (q := 8) F dX7_plan_7 rfl rfl 2 rfl ?_
    refine j_iconst (q := 9) F dX7_plan_8 rfl ?_
    refine j_iconst (q := 10) F dX7_plan_9 rfl ?_
    refine j_callSZ (q := 13) F [vI w, vI 0, vI 3] (ct_X7_in l X hX M w 0 3 ⟨by omega, by omega⟩ ⟨by omega, by omega⟩ ⟨by omega, by omega⟩) gX7_plan_X7_in rfl cd_X7_in ⟨by first | exact Nat.le_of_ble_eq_true rfl | (simp only [rm]; omega) | (simp [rm, vI, vR, Value.category]; omega), by first | exact Nat.le_of_ble_eq_true rfl | (simp only [rm]; omega) | (simp [rm, vI, vR, Value.category]; omega), by first | exact Nat.le_of_ble_eq_true rfl | (simp only [rm]; omega) | (simp [rm, vI, vR, Value.category]; omega), by first | exact Nat.le_of_ble_eq_true rfl | (simp only [rm]; omega) | (simp [rm, vI, vR, Value.category]; omega)⟩ rfl rfl (Nat.le_of_ble_eq_true rfl) dX7_plan_10 rfl (fun hw9 => ?_) (fun hw9 => ?_)
    · skip
      refine j_if_ne (q := 16) (tgt := 18) F dX7_plan_13 (by decide) rfl ⟨by decide, by decide⟩ (fun _ => ?_) (fun h => absurd h (by decide))
      refine j_aload_n (q := 19) F dX7_plan_18 rfl rfl 0 rfl ?_
      refine j_iload_n (q := 20) F dX7_plan_19 rfl rfl 1 rfl ?_
      refine j_callVI (q := 23) F [vI D] (ct_X7_plans l X hX M hD hz D (by omega)) gX7_plan_X7_plans rfl cd_X7_plans ⟨by first | exact Nat.le_of_ble_eq_true rfl | (simp only [rm]; omega) | (simp [rm, vI, vR, Value.category]; omega), by first | exact Nat.le_of_ble_eq_true rfl | (simp only [rm]; omega) | (simp [rm, vI, vR, Value.category]; omega), by first | exact Nat.le_of_ble_eq_true rfl | (simp only [rm]; omega) | (simp [rm, vI, vR, Value.category]; omega), by first | exact Nat.le_of_ble_eq_true rfl | (simp only [rm]; omega) | (simp [rm, vI, vR, Value.category]; omega)⟩ md82 rfl rfl rfl (Nat.le_of_ble_eq_true rfl) dX7_plan_20 rfl (fun fo Mp hp => ?_)
      have hp2 := hp.2
      refine j_if_ne (q := 26) (tgt := 29) F dX7_plan_23 (by decide) rfl ⟨by omega, by omega⟩ (fun h23_4 => ?_) (fun h23_4 => ?_)
      · skip
        obtain ⟨y0, y1, y2, y3, y4, y5⟩ := hp.1.yes (by omega)
        have hsl := sol_len hD D
        have hsb := sol_bd hD D
        refine j_iload_n (q := 30) F dX7_plan_29 rfl rfl 2 rfl ?_
        refine j_if_ne (q := 33) (tgt := 40) F dX7_plan_30 (by decide) rfl ⟨by omega, by omega⟩ (fun h30_5 => ?_) (fun h30_5 => ?_)
        · skip
          refine j_iload_n (q := 41) F dX7_plan_40 rfl rfl 2 rfl ?_
          refine j_iconst (q := 42) F dX7_plan_41 rfl ?_
          refine j_icmp_ne (q := 45) (tgt := 52) F dX7_plan_42 (by decide) rfl ⟨by omega, by omega⟩ ⟨by decide, by decide⟩ (fun h42_6 => ?_) (fun h42_6 => ?_)
          · skip
            refine j_iload_n (q := 53) F dX7_plan_52 rfl rfl 2 rfl ?_
            refine j_iconst (q := 54) F dX7_plan_53 rfl ?_
            refine j_icmp_ne (q := 57) (tgt := 64) F dX7_plan_54 (by decide) rfl ⟨by omega, by omega⟩ ⟨by decide, by decide⟩ (fun h54_7 => ?_) (fun h54_7 => ?_)
            · skip
              refine j_aload_n (q := 65) F dX7_plan_64 rfl rfl 0 rfl ?_
              refine j_getI (q := 68) (i := 18) (index := 142) F md82 rfl in_X7_plan_7 18 (by decide) rfl rfl fl_X7_plan_142 dX7_plan_65 rfl ?_
              exact hret _ _ _ _ dX7_plan_68 (by refine hp.1.pf.mpo hz (fun hsm => ⟨hsm, Or.inr (Or.inr ⟨⟨hdl, by omega, by omega⟩, y0, (fun z => by omega), (fun z => by omega), (fun z => by omega), fun z => by omega⟩)⟩))
            · skip
              refine j_aload_n (q := 58) F dX7_plan_57 rfl rfl 0 rfl ?_
              refine j_getI (q := 61) (i := 17) (index := 139) F md82 rfl in_X7_plan_7 17 (by decide) rfl rfl fl_X7_plan_139 dX7_plan_58 rfl ?_
              refine j_goto (q := 68) F dX7_plan_61 (by decide) ?_
              exact hret _ _ _ _ dX7_plan_68 (by refine hp.1.pf.mpo hz (fun hsm => ⟨hsm, Or.inr (Or.inr ⟨⟨hdl, by omega, by omega⟩, y0, (fun z => by omega), (fun z => by omega), (fun z => by omega), fun z => by omega⟩)⟩))
          · skip
            refine j_aload_n (q := 46) F dX7_plan_45 rfl rfl 0 rfl ?_
            refine j_getI (q := 49) (i := 15) (index := 133) F md82 rfl in_X7_plan_7 15 (by decide) rfl rfl fl_X7_plan_133 dX7_plan_46 rfl ?_
            refine j_goto (q := 68) F dX7_plan_49 (by decide) ?_
            exact hret _ _ _ _ dX7_plan_68 (by refine hp.1.pf.mpo hz (fun hsm => ⟨hsm, Or.inr (Or.inr ⟨⟨hdl, by omega, by omega⟩, y0, (fun z => by omega), (fun z => by omega), (fun z => by omega), fun z => by omega⟩)⟩))
        · skip
          refine j_aload_n (q := 34) F dX7_plan_33 rfl rfl 0 rfl ?_
          refine j_getI (q := 37) (i := 16) (index := 136) F md82 rfl in_X7_plan_7 16 (by decide) rfl rfl fl_X7_plan_136 dX7_plan_34 rfl ?_
          refine j_goto (q := 68) F dX7_plan_37 (by decide) ?_
          exact hret _ _ _ _ dX7_plan_68 (by refine hp.1.pf.mpo hz (fun hsm => ⟨hsm, Or.inr (Or.inr ⟨⟨hdl, by omega, by omega⟩, y0, (fun z => by omega), (fun z => by omega), (fun z => by omega), fun z => by omega⟩)⟩))
      · skip
        refine j_bipush (q := 28) F dX7_plan_26 rfl (by decide) ?_
        exact hret _ _ _ _ dX7_plan_28 (by refine hp.1.pf.mpo hz (fun hsm => ⟨hsm, Or.inr (Or.inl ⟨⟨hdl, by omega, by omega⟩, hp.1.no (by omega), rfl⟩)⟩))
    · skip
      refine j_if_ne (q := 16) (tgt := 18) F dX7_plan_13 (by decide) rfl ⟨by decide, by decide⟩ (fun h => absurd h (by decide)) (fun _ => ?_)
      refine j_iconst (q := 17) F dX7_plan_16 rfl ?_
      exact hret _ _ _ _ dX7_plan_17 (by exact mpo_of (fun _ _ _ _ => rfl) ⟨SM.rf M, Or.inl ⟨fun z => by have z1 := z.1.1; have z2 := z.1.2; have z3 := z.2.1; have z4 := z.2.2; omega, rfl⟩⟩)
  · skip
    refine j_if_eq (q := 7) (tgt := 16) F dX7_plan_4 (by decide) rfl ⟨by decide, by decide⟩ (fun _ => ?_) (fun h => absurd h (by decide))
    refine j_iconst (q := 17) F dX7_plan_16 rfl ?_
    exact hret _ _ _ _ dX7_plan_17 (by exact mpo_of (fun _ _ _ _ => rfl) ⟨SM.rf M, Or.inl ⟨fun z => by have z1 := z.1.1; have z2 := z.1.2; have z3 := z.2.1; have z4 := z.2.2; omega, rfl⟩⟩)
theorem fl_X7_planned_133 : Cond.fieldLink RX7 133 "WhiteRiversModel" "bestLines" "I" ∈ wsX7_planned := by decide +kernel
theorem fl_X7_planned_47 : Cond.fieldLink RX7 47 "WhiteRiversModel" "best" "[I" ∈ wsX7_planned := by decide +kernel
theorem in_X7_planned_7 : ∀ w ∈ u_ws RX7 TX7 19, w ∈ wsX7_planned := by decide +kernel
set_option maxRecDepth 100000 in
set_option maxHeartbeats 1000000 in
theorem ct_X7_planned (l : Launch) (X : Cx) (hX : Inj X) (M : Mem) (hD : DOK (M 83)) (hz : M 90 0 = 0 ∧ M 92 0 = 0 ∧ M 93 0 = 0 ∧ M 94 0 = 0) (D : Int) (hD0 : inR D) (k : Int) (hk0 : inR k) : CtI l X yX7_planned wsX7_planned 4 [vR X 82, vI D, vI k] M (fun r M' => MPO M (Oplanned M D k) r M') := by
  refine CtI_of (cc := cX7_planned) (maxL := 3) hX (by decide +kernel) rfl (Nat.le_of_ble_eq_true rfl) ?_
  intro zp ze zs zm zargs zbelow zmeth zc zQ F hret
  show J zp l ze (rm 4) zs zm zargs zbelow zmeth zc 0 0 zQ zs.heap X 3 M 0 [(0, vR X 82), (1, vI D), (2, vI k)] []
  have hw := hD.w
  have hnn := hD.1
  have hww := hD.2.1
  have hlen := hw.2.2
  have hL24 := hD.L24
  have hss := hD.2.2.1
  obtain ⟨hD1, hD2⟩ := hD0
  obtain ⟨hk1, hk2⟩ := hk0
  refine j_iload_n (q := 1) F dX7_planned_0 rfl rfl 1 rfl ?_
  refine j_callSZ (q := 4) F [vI D] (ct_X7_isLength l X hX M D ⟨by omega, by omega⟩) gX7_planned_X7_isLength rfl cd_X7_isLength ⟨by first | exact Nat.le_of_ble_eq_true rfl | (simp only [rm]; omega) | (simp [rm, vI, vR, Value.category]; omega), by first | exact Nat.le_of_ble_eq_true rfl | (simp only [rm]; omega) | (simp [rm, vI, vR, Value.category]; omega), by first | exact Nat.le_of_ble_eq_true rfl | (simp only [rm]; omega) | (simp [rm, vI, vR, Value.category]; omega), by first | exact Nat.le_of_ble_eq_true rfl | (simp only [rm]; omega) | (simp [rm, vI, vR, Value.category]; omega)⟩ rfl rfl (Nat.le_of_ble_eq_true rfl) dX7_planned_1 rfl (fun hdl => ?_) (fun hdl => ?_)
  · skip
    refine j_if_eq (q := 7) (tgt := 11) F dX7_planned_4 (by decide) rfl ⟨by decide, by decide⟩ (fun h => absurd h (by decide)) (fun _ => ?_)
    refine j_iload_n (q := 8) F dX7_planned_7 rfl rfl 2 rfl ?_
    refine j_if_ge (q := 11) (tgt := 13) F dX7_planned_8 (by decide) rfl ⟨by omega, by omega⟩ (fun h8_2 => ?_) (fun h8_2 => ?_)
    · skip
      refine j_aload_n (q := 14) F dX7_planned_13 rfl rfl 0 rfl ?_
      refine j_iload_n (q := 15) F dX7_planned_14 rfl rfl 1 rfl ?_
      refine j_callVI (q := 18) F [vI D] (ct_X7_plans l X hX M hD hz D (by omega)) gX7_planned_X7_plans rfl cd_X7_plans ⟨by first | exact Nat.le_of_ble_eq_true rfl | (simp only [rm]; omega) | (simp [rm, vI, vR, Value.category]; omega), by first | exact Nat.le_of_ble_eq_true rfl | (simp only [rm]; omega) | (simp [rm, vI, vR, Value.category]; omega), by first | exact Nat.le_of_ble_eq_true rfl | (simp only [rm]; omega) | (simp [rm, vI, vR, Value.category]; omega), by first | exact Nat.le_of_ble_eq_true rfl | (simp only [rm]; omega) | (simp [rm, vI, vR, Value.category]; omega)⟩ md82 rfl rfl rfl (Nat.le_of_ble_eq_true rfl) dX7_planned_15 rfl (fun fo Mp hp => ?_)
      have hp2 := hp.2
      refine j_if_eq (q := 21) (tgt := 47) F dX7_planned_18 (by decide) rfl ⟨by omega, by omega⟩ (fun h18_4 => ?_) (fun h18_4 => ?_)
      · skip
        refine j_bipush (q := 49) F dX7_planned_47 rfl (by decide) ?_
        exact hret _ _ _ _ dX7_planned_49 (by refine hp.1.pf.mpo hz (fun hsm => ⟨hsm, Or.inr (Or.inl ⟨⟨hdl, by omega⟩, by first | exact Or.inl (hp.1.no (by omega)) | exact Or.inr (by omega), rfl⟩)⟩))
      · skip
        obtain ⟨y0, y1, y2, y3, y4, y5⟩ := hp.1.yes (by omega)
        have hsl := sol_len hD D
        have hsb := sol_bd hD D
        refine j_iload_n (q := 22) F dX7_planned_21 rfl rfl 2 rfl ?_
        refine j_aload_n (q := 23) F dX7_planned_22 rfl rfl 0 rfl ?_
        refine j_getI (q := 26) (i := 15) (index := 133) F md82 rfl in_X7_planned_7 15 (by decide) rfl rfl fl_X7_planned_133 dX7_planned_23 rfl ?_
        rw [show Mp 82 15 = (SOL (M 83) D).2.1 from by exact y3.symm]
        refine j_icmp_ge (q := 29) (tgt := 47) F dX7_planned_26 (by decide) rfl ⟨by omega, by omega⟩ ⟨by omega, by omega⟩ (fun h26_5 => ?_) (fun h26_5 => ?_)
        · skip
          refine j_bipush (q := 49) F dX7_planned_47 rfl (by decide) ?_
          exact hret _ _ _ _ dX7_planned_49 (by refine hp.1.pf.mpo hz (fun hsm => ⟨hsm, Or.inr (Or.inl ⟨⟨hdl, by omega⟩, by first | exact Or.inl (hp.1.no (by omega)) | exact Or.inr (by omega), rfl⟩)⟩))
        · skip
          refine j_aload_n (q := 30) F dX7_planned_29 rfl rfl 0 rfl ?_
          refine j_getR (q := 33) (z := 95) (index := 47) F md82 rfl in_X7_planned_7 14 (by decide) rfl fl_X7_planned_47 dX7_planned_30 rfl ?_
          refine j_iload_n (q := 34) F dX7_planned_33 rfl rfl 2 rfl ?_
          refine j_iconst (q := 35) F dX7_planned_34 rfl ?_
          refine j_iadd (q := 36) (z := k + 1) F dX7_planned_35 rfl rfl ?_
          refine j_iald (q := 37) F ar95 (by omega) (by omega) (by decide) dX7_planned_36 rfl ?_
          rw [show Mp 95 (k + 1) = (SOL (M 83) D).2.2.2 (k + 1) from by exact y5 _ (by omega) (by omega)]
          refine j_aload_n (q := 38) F dX7_planned_37 rfl rfl 0 rfl ?_
          refine j_getR (q := 41) (z := 95) (index := 47) F md82 rfl in_X7_planned_7 14 (by decide) rfl fl_X7_planned_47 dX7_planned_38 rfl ?_
          refine j_iload_n (q := 42) F dX7_planned_41 rfl rfl 2 rfl ?_
          refine j_iald (q := 43) F ar95 (by omega) (by omega) (by decide) dX7_planned_42 rfl ?_
          rw [show Mp 95 k = (SOL (M 83) D).2.2.2 k from by exact y5 _ (by omega) (by omega)]
          refine j_isub (q := 44) (z := ((SOL (M 83) D).2.2.2 (k + 1)) - ((SOL (M 83) D).2.2.2 k)) F dX7_planned_43 rfl rfl ?_
          refine j_goto (q := 49) F dX7_planned_44 (by decide) ?_
          exact hret _ _ _ _ dX7_planned_49 (by refine hp.1.pf.mpo hz (fun hsm => ⟨hsm, Or.inr (Or.inr ⟨⟨hdl, by omega⟩, y0, by omega, rfl⟩)⟩))
    · skip
      refine j_iconst (q := 12) F dX7_planned_11 rfl ?_
      exact hret _ _ _ _ dX7_planned_12 (by exact mpo_of (fun _ _ _ _ => rfl) ⟨SM.rf M, Or.inl ⟨fun z => by have z1 := z.1.1; have z2 := z.1.2; have z3 := z.2; omega, rfl⟩⟩)
  · skip
    refine j_if_eq (q := 7) (tgt := 11) F dX7_planned_4 (by decide) rfl ⟨by decide, by decide⟩ (fun _ => ?_) (fun h => absurd h (by decide))
    refine j_iconst (q := 12) F dX7_planned_11 rfl ?_
    exact hret _ _ _ _ dX7_planned_12 (by exact mpo_of (fun _ _ _ _ => rfl) ⟨SM.rf M, Or.inl ⟨fun z => by have z1 := z.1.1; have z2 := z.1.2; have z3 := z.2; omega, rfl⟩⟩)
set_option maxRecDepth 100000 in
set_option maxHeartbeats 1000000 in
theorem ct_X7_leastRiver (l : Launch) (X : Cx) (hX : Inj X) (M : Mem) (hD : DOK (M 83)) (hz : M 90 0 = 0 ∧ M 92 0 = 0 ∧ M 93 0 = 0 ∧ M 94 0 = 0) : CtI l X yX7_leastRiver wsX7_leastRiver 4 [vR X 82] M (fun r M' => MPO M (Oleast M) r M') := by
  refine CtI_of (cc := cX7_leastRiver) (maxL := 2) hX (by decide +kernel) rfl (Nat.le_of_ble_eq_true rfl) ?_
  intro zp ze zs zm zargs zbelow zmeth zc zQ F hret
  show J zp l ze (rm 4) zs zm zargs zbelow zmeth zc 0 0 zQ zs.heap X 2 M 0 [(0, vR X 82)] []
  have hw := hD.w
  have hnn := hD.1
  have hww := hD.2.1
  have hlen := hw.2.2
  have hL24 := hD.L24
  have hss := hD.2.2.1
  refine j_iconst (q := 1) F dX7_leastRiver_0 rfl ?_
  refine j_istore_n (q := 2) (lv' := [(0, vR X 82), (1, vI 1)]) F dX7_leastRiver_1 rfl rfl (by decide) rfl rfl ?_
  have LP2 : ∀ (nn : Nat) (k : Int) (Mq : Mem), (1 ≤ k) → (k ≤ 25) → (PF M Mq) → (∀ D, 1 ≤ D → D < k → (SOL (M 83) D).1 = 1000000000) → (25 - k).toNat < nn → J zp l ze (rm 4) zs zm zargs zbelow zmeth zc 0 0 zQ zs.heap X 2 Mq 2 [(0, vR X 82), (1, vI k)] [] := by
    intro nn
    induction nn with
    | zero => intro k Mq g0 g1 hPF hno hm2; exact absurd hm2 (Nat.not_lt_zero _)
    | succ nn ih2 =>
      intro k Mq g0 g1 hPF hno hm2
      have q83 : Mq 83 = M 83 := hPF.1 83 (by decide)
      refine j_iload_n (q := 3) F dX7_leastRiver_2 rfl rfl 1 rfl ?_
      refine j_bipush (q := 5) F dX7_leastRiver_3 rfl (by decide) ?_
      refine j_icmp_gt (q := 8) (tgt := 24) F dX7_leastRiver_5 (by decide) rfl ⟨by omega, by omega⟩ ⟨by decide, by decide⟩ (fun h5_1 => ?_) (fun h5_1 => ?_)
      · skip
        refine j_bipush (q := 26) F dX7_leastRiver_24 rfl (by decide) ?_
        exact hret _ _ _ _ dX7_leastRiver_26 (by exact hPF.mpo hz (fun hsm => ⟨hsm, Or.inr ⟨rfl, fun D a b => hno D a (by omega)⟩⟩))
      · skip
        refine j_aload_n (q := 9) F dX7_leastRiver_8 rfl rfl 0 rfl ?_
        refine j_iload_n (q := 10) F dX7_leastRiver_9 rfl rfl 1 rfl ?_
        refine j_callVI (q := 13) F [vI k] (ct_X7_plans l X hX Mq (by rw [q83]; exact hD) hPF.2.2 k (by omega)) gX7_leastRiver_X7_plans rfl cd_X7_plans ⟨by first | exact Nat.le_of_ble_eq_true rfl | (simp only [rm]; omega) | (simp [rm, vI, vR, Value.category]; omega), by first | exact Nat.le_of_ble_eq_true rfl | (simp only [rm]; omega) | (simp [rm, vI, vR, Value.category]; omega), by first | exact Nat.le_of_ble_eq_true rfl | (simp only [rm]; omega) | (simp [rm, vI, vR, Value.category]; omega), by first | exact Nat.le_of_ble_eq_true rfl | (simp only [rm]; omega) | (simp [rm, vI, vR, Value.category]; omega)⟩ md82 rfl rfl rfl (Nat.le_of_ble_eq_true rfl) dX7_leastRiver_10 rfl (fun fo Mp hp => ?_)
        have hp2 := hp.2
        have hpf := hPF.trans hp.1.pf
        refine j_if_eq (q := 16) (tgt := 18) F dX7_leastRiver_13 (by decide) rfl ⟨by omega, by omega⟩ (fun h13_3 => ?_) (fun h13_3 => ?_)
        · skip
          refine j_iinc (q := 21) (lv' := [(0, vR X 82), (1, vI (k + 1))]) F dX7_leastRiver_18 rfl 1 rfl (by decide) rfl rfl ?_
          refine j_goto (q := 2) F dX7_leastRiver_21 (by decide) ?_
          refine ih2 (k + 1) Mp (by omega) (by omega) (by exact hpf) ?_ (by omega)
          · intro D a b
            by_cases z : D = k
            · rw [z]; have hn9 := hp.1.no (by omega); rw [q83] at hn9; exact hn9
            · exact hno D a (by omega)
        · skip
          refine j_iload_n (q := 17) F dX7_leastRiver_16 rfl rfl 1 rfl ?_
          refine hret _ _ _ _ dX7_leastRiver_17 ?_
          · have hy := (hp.1.yes (by omega)).1
            rw [q83] at hy
            exact hpf.mpo hz (fun hsm => ⟨hsm, Or.inl ⟨by omega, by omega, hy, hno⟩⟩)
  exact LP2 _ 1 M (by omega) (by omega) (by exact PF.rf hz) (by intro D a b; omega) (by exact Nat.lt_succ_self _)
theorem fl_X7_dam_133 : Cond.fieldLink RX7 133 "WhiteRiversModel" "bestLines" "I" ∈ wsX7_dam := by decide +kernel
theorem fl_X7_dam_136 : Cond.fieldLink RX7 136 "WhiteRiversModel" "bestChanged" "I" ∈ wsX7_dam := by decide +kernel
theorem fl_X7_dam_35 : Cond.fieldLink RX7 35 "WhiteRiversModel" "next" "[I" ∈ wsX7_dam := by decide +kernel
theorem fl_X7_dam_47 : Cond.fieldLink RX7 47 "WhiteRiversModel" "best" "[I" ∈ wsX7_dam := by decide +kernel
theorem fl_X7_dam_7 : Cond.fieldLink RX7 7 "WhiteRiversModel" "d" "[I" ∈ wsX7_dam := by decide +kernel
theorem in_X7_dam_7 : ∀ w ∈ u_ws RX7 TX7 19, w ∈ wsX7_dam := by decide +kernel
set_option maxRecDepth 100000 in
set_option maxHeartbeats 2000000 in
theorem ct_X7_dam (l : Launch) (X : Cx) (hX : Inj X) (M : Mem) (hD : DOK (M 83)) (hst : 0 ≤ M 82 2 ∧ M 82 2 ≤ 5) (hz : M 90 0 = 0 ∧ M 92 0 = 0 ∧ M 93 0 = 0 ∧ M 94 0 = 0) (D : Int) (hD0 : inR D) : CtI l X yX7_dam wsX7_dam 4 [vR X 82, vI D] M (fun r M' => MPO M (Odam M D) r M') := by
  refine CtI_of (cc := cX7_dam) (maxL := 4) hX (by decide +kernel) rfl (Nat.le_of_ble_eq_true rfl) ?_
  intro zp ze zs zm zargs zbelow zmeth zc zQ F hret
  show J zp l ze (rm 4) zs zm zargs zbelow zmeth zc 0 0 zQ zs.heap X 4 M 0 [(0, vR X 82), (1, vI D)] []
  have hw := hD.w
  have hnn := hD.1
  have hww := hD.2.1
  have hlen := hw.2.2
  have hL24 := hD.L24
  have hss := hD.2.2.1
  obtain ⟨hD1, hD2⟩ := hD0
  refine j_iload_n (q := 1) F dX7_dam_0 rfl rfl 1 rfl ?_
  refine j_callSZ (q := 4) F [vI D] (ct_X7_isLength l X hX M D ⟨by omega, by omega⟩) gX7_dam_X7_isLength rfl cd_X7_isLength ⟨by first | exact Nat.le_of_ble_eq_true rfl | (simp only [rm]; omega) | (simp [rm, vI, vR, Value.category]; omega), by first | exact Nat.le_of_ble_eq_true rfl | (simp only [rm]; omega) | (simp [rm, vI, vR, Value.category]; omega), by first | exact Nat.le_of_ble_eq_true rfl | (simp only [rm]; omega) | (simp [rm, vI, vR, Value.category]; omega), by first | exact Nat.le_of_ble_eq_true rfl | (simp only [rm]; omega) | (simp [rm, vI, vR, Value.category]; omega)⟩ rfl rfl (Nat.le_of_ble_eq_true rfl) dX7_dam_1 rfl (fun hdl => ?_) (fun hdl => ?_)
  · skip
    refine j_if_ne (q := 7) (tgt := 9) F dX7_dam_4 (by decide) rfl ⟨by decide, by decide⟩ (fun _ => ?_) (fun h => absurd h (by decide))
    refine j_aload_n (q := 10) F dX7_dam_9 rfl rfl 0 rfl ?_
    refine j_iload_n (q := 11) F dX7_dam_10 rfl rfl 1 rfl ?_
    refine j_callVI (q := 14) F [vI D] (ct_X7_plans l X hX M hD hz D (by omega)) gX7_dam_X7_plans rfl cd_X7_plans ⟨by first | exact Nat.le_of_ble_eq_true rfl | (simp only [rm]; omega) | (simp [rm, vI, vR, Value.category]; omega), by first | exact Nat.le_of_ble_eq_true rfl | (simp only [rm]; omega) | (simp [rm, vI, vR, Value.category]; omega), by first | exact Nat.le_of_ble_eq_true rfl | (simp only [rm]; omega) | (simp [rm, vI, vR, Value.category]; omega), by first | exact Nat.le_of_ble_eq_true rfl | (simp only [rm]; omega) | (simp [rm, vI, vR, Value.category]; omega)⟩ md82 rfl rfl rfl (Nat.le_of_ble_eq_true rfl) dX7_dam_11 rfl (fun fo Mp hp => ?_)
    have hp2 := hp.2
    refine j_if_ne (q := 17) (tgt := 20) F dX7_dam_14 (by decide) rfl ⟨by omega, by omega⟩ (fun h14_3 => ?_) (fun h14_3 => ?_)
    · skip
      obtain ⟨y0, y1, y2, y3, y4, y5⟩ := hp.1.yes (by omega)
      have hsl := sol_len hD D
      have hsb := sol_bd hD D
      obtain ⟨m, hm⟩ : ∃ m, m = (SOL (M 83) D).2.1 := ⟨_, rfl⟩
      obtain ⟨Q, hQ⟩ : ∃ Q, Q = (SOL (M 83) D).2.2.2 := ⟨_, rfl⟩
      have hpa : PathOK (M 83) Q m (M 83 0) (SOL (M 83) D).1 := by
        rw [hm, hQ]
        rcases sol_ok hD D with ⟨z, -⟩ | z
        · omega
        · exact z
      refine j_aload_n (q := 21) F dX7_dam_20 rfl rfl 0 rfl ?_
      refine j_callVV (q := 24) F [] (ct_X7_records l X hX Mp (by rw [hp.1.pf.2.1 2 (by decide)]; exact hst)) gX7_dam_X7_records rfl cd_X7_records ⟨by first | exact Nat.le_of_ble_eq_true rfl | (simp only [rm]; omega) | (simp [rm, vI, vR, Value.category]; omega), by first | exact Nat.le_of_ble_eq_true rfl | (simp only [rm]; omega) | (simp [rm, vI, vR, Value.category]; omega), by first | exact Nat.le_of_ble_eq_true rfl | (simp only [rm]; omega) | (simp [rm, vI, vR, Value.category]; omega), by first | exact Nat.le_of_ble_eq_true rfl | (simp only [rm]; omega) | (simp [rm, vI, vR, Value.category]; omega)⟩ md82 rfl rfl rfl (Nat.le_of_ble_eq_true rfl) dX7_dam_21 rfl (fun Mr hr => ?_)
      have r83 : Mr 83 = M 83 := by rw [hr.2.1 83 (by decide) (by decide)]; exact hp.1.pf.1 83 (by decide)
      have e15 : Mr 82 15 = m := by rw [hr.2.2 15 (by decide), hm]; exact y3.symm
      have e16 : Mr 82 16 = (SOL (M 83) D).1 / 100000 := by rw [hr.2.2 16 (by decide)]; exact y1.symm
      have e95 : ∀ y, 0 ≤ y → y ≤ m → Mr 95 y = Q y := fun y a b => by rw [hr.2.1 95 (by decide) (by decide), hQ]; exact y5 y a (by omega)
      refine j_iconst (q := 25) F dX7_dam_24 rfl ?_
      refine j_istore_n (q := 26) (lv' := [(0, vR X 82), (1, vI D), (2, vI 0)]) F dX7_dam_25 rfl rfl (by decide) rfl rfl ?_
      refine j_sub (lv' := [(0, vR X 82), (1, vI D), (2, vI 0)]) [0, 1, 2] rfl ?_
      have LP26 : ∀ (nn : Nat) (k : Int) (Mq : Mem), (0 ≤ k) → (k ≤ m) → (∀ q, q ≠ 91 → Mq q = Mr q) → (∀ y, 0 ≤ y → y < k → Mq 91 y = frM (M 83) (Q y) (Q (y + 1))) → (m - k).toNat < nn → J zp l ze (rm 4) zs zm zargs zbelow zmeth zc 0 0 zQ zs.heap X 4 Mq 26 [(0, vR X 82), (1, vI D), (2, vI k)] [] := by
        intro nn
        induction nn with
        | zero => intro k Mq g0 g1 hq hx hm26; exact absurd hm26 (Nat.not_lt_zero _)
        | succ nn ih26 =>
          intro k Mq g0 g1 hq hx hm26
          have q83 : Mq 83 = M 83 := by rw [hq 83 (by decide)]; exact r83
          refine j_iload_n (q := 27) F dX7_dam_26 rfl rfl 2 rfl ?_
          refine j_aload_n (q := 28) F dX7_dam_27 rfl rfl 0 rfl ?_
          refine j_getI (q := 31) (i := 15) (index := 133) F md82 rfl in_X7_dam_7 15 (by decide) rfl rfl fl_X7_dam_133 dX7_dam_28 rfl ?_
          rw [show Mq 82 15 = m from by rw [hq 82 (by decide)]; exact e15]
          refine j_icmp_ge (q := 34) (tgt := 83) F dX7_dam_31 (by decide) rfl ⟨by omega, by omega⟩ ⟨by omega, by omega⟩ (fun h31_5 => ?_) (fun h31_5 => ?_)
          · skip
            refine j_aload_n (q := 84) F dX7_dam_83 rfl rfl 0 rfl ?_
            refine j_getR (q := 87) (z := 83) (index := 7) F md82 rfl in_X7_dam_7 0 (by decide) rfl fl_X7_dam_7 dX7_dam_84 rfl ?_
            refine j_iconst (q := 88) F dX7_dam_87 rfl ?_
            refine j_aload_n (q := 89) F dX7_dam_88 rfl rfl 0 rfl ?_
            refine j_getI (q := 92) (i := 15) (index := 133) F md82 rfl in_X7_dam_7 15 (by decide) rfl rfl fl_X7_dam_133 dX7_dam_89 rfl ?_
            rw [show Mq 82 15 = m from by rw [hq 82 (by decide)]; exact e15]
            refine j_iast (q := 93) F ar83 (by omega) (by omega) (by decide) dX7_dam_92 rfl ?_
            refine j_iconst (q := 94) F dX7_dam_93 rfl ?_
            refine j_istore_n (q := 95) (lv' := [(0, vR X 82), (1, vI D), (2, vI 0)]) F dX7_dam_94 rfl rfl (by decide) rfl rfl ?_
            refine j_sub (lv' := [(0, vR X 82), (1, vI D), (2, vI 0)]) [0, 1, 2] rfl ?_
            have LP95 : ∀ (nn : Nat) (k2 : Int) (Mw : Mem), (0 ≤ k2) → (k2 ≤ m) → (∀ q, q ≠ 83 → Mw q = Mq q) → (∀ j, 0 ≤ j → j < 77 → Mw 83 j = damK (M 83) m k2 Q j) → (m - k2).toNat < nn → J zp l ze (rm 4) zs zm zargs zbelow zmeth zc 0 0 zQ zs.heap X 4 Mw 95 [(0, vR X 82), (1, vI D), (2, vI k2)] [] := by
              intro nn
              induction nn with
              | zero => intro k2 Mw g2 g3 hw1 hA hm95; exact absurd hm95 (Nat.not_lt_zero _)
              | succ nn ih95 =>
                intro k2 Mw g2 g3 hw1 hA hm95
                refine j_iload_n (q := 96) F dX7_dam_95 rfl rfl 2 rfl ?_
                refine j_aload_n (q := 97) F dX7_dam_96 rfl rfl 0 rfl ?_
                refine j_getI (q := 100) (i := 15) (index := 133) F md82 rfl in_X7_dam_7 15 (by decide) rfl rfl fl_X7_dam_133 dX7_dam_97 rfl ?_
                rw [show Mw 82 15 = m from by rw [hw1 82 (by decide), hq 82 (by decide)]; exact e15]
                refine j_icmp_ge (q := 103) (tgt := 139) F dX7_dam_100 (by decide) rfl ⟨by omega, by omega⟩ ⟨by omega, by omega⟩ (fun h100_6 => ?_) (fun h100_6 => ?_)
                · skip
                  refine j_aload_n (q := 140) F dX7_dam_139 rfl rfl 0 rfl ?_
                  refine j_getI (q := 143) (i := 16) (index := 136) F md82 rfl in_X7_dam_7 16 (by decide) rfl rfl fl_X7_dam_136 dX7_dam_140 rfl ?_
                  rw [show Mw 82 16 = (SOL (M 83) D).1 / 100000 from by rw [hw1 82 (by decide), hq 82 (by decide)]; exact e16]
                  refine hret _ _ _ _ dX7_dam_143 ?_
                  · have hkm : k2 = m := by omega
                    rw [hkm] at hA
                    have g82 : Mw 82 = Mr 82 := by rw [hw1 82 (by decide), hq 82 (by decide)]
                    have g84 : Mw 84 = Mr 84 := by rw [hw1 84 (by decide), hq 84 (by decide)]
                    have gq : ∀ q, q ≠ 82 → q ≠ 83 → q ≠ 84 → q ≠ 91 → Mw q = Mp q := fun q a b c d => by rw [hw1 q b, hq q d, hr.2.1 q a c]
                    have gpf := hp.1.pf
                    obtain ⟨z0, z2, z3, z4⟩ := hz
                    obtain ⟨n0, n2, n3, n4⟩ := gpf.2.2
                    refine ⟨fun q hq9 => by rw [gq q (by omega) (by omega) (by omega) (by omega)]; exact gpf.1 q (by omega), ⟨by rw [gq 90 (by decide) (by decide) (by decide) (by decide), n0, z0], by rw [gq 92 (by decide) (by decide) (by decide) (by decide), n2, z2], by rw [gq 93 (by decide) (by decide) (by decide) (by decide), n3, z3], by rw [gq 94 (by decide) (by decide) (by decide) (by decide), n4, z4]⟩, Or.inr (Or.inr ⟨hdl, y0, hr.1.cg (gpf.2.1 2 (by decide)) (gpf.1 83 (by decide)) (gpf.1 84 (by decide)) (by rw [g82]) g84, ⟨by rw [gq 85 (by decide) (by decide) (by decide) (by decide)]; exact gpf.1 85 (by decide), by rw [g82, hr.2.2 4 (by decide)]; exact gpf.2.1 4 (by decide)⟩, fun j a b => ?_, rfl⟩)⟩
                    rw [← hm, ← hQ]
                    exact (hA j a b).symm
                · skip
                  refine j_aload_n (q := 104) F dX7_dam_103 rfl rfl 0 rfl ?_
                  refine j_getR (q := 107) (z := 83) (index := 7) F md82 rfl in_X7_dam_7 0 (by decide) rfl fl_X7_dam_7 dX7_dam_104 rfl ?_
                  refine j_bipush (q := 109) F dX7_dam_107 rfl (by decide) ?_
                  refine j_iload_n (q := 110) F dX7_dam_109 rfl rfl 2 rfl ?_
                  refine j_iadd (q := 111) (z := 28 + k2) F dX7_dam_110 rfl rfl ?_
                  refine j_aload_n (q := 112) F dX7_dam_111 rfl rfl 0 rfl ?_
                  refine j_getR (q := 115) (z := 95) (index := 47) F md82 rfl in_X7_dam_7 14 (by decide) rfl fl_X7_dam_47 dX7_dam_112 rfl ?_
                  refine j_iload_n (q := 116) F dX7_dam_115 rfl rfl 2 rfl ?_
                  refine j_iald (q := 117) F ar95 (by omega) (by omega) (by decide) dX7_dam_116 rfl ?_
                  rw [show Mw 95 k2 = Q k2 from by rw [hw1 95 (by decide), hq 95 (by decide)]; exact e95 _ (by omega) (by omega)]
                  refine j_iast (q := 118) F ar83 (by omega) (by omega) (by decide) dX7_dam_117 rfl ?_
                  refine j_aload_n (q := 119) F dX7_dam_118 rfl rfl 0 rfl ?_
                  refine j_getR (q := 122) (z := 83) (index := 7) F md82 rfl in_X7_dam_7 0 (by decide) rfl fl_X7_dam_7 dX7_dam_119 rfl ?_
                  refine j_bipush (q := 124) F dX7_dam_122 rfl (by decide) ?_
                  refine j_iload_n (q := 125) F dX7_dam_124 rfl rfl 2 rfl ?_
                  refine j_iadd (q := 126) (z := 53 + k2) F dX7_dam_125 rfl rfl ?_
                  refine j_aload_n (q := 127) F dX7_dam_126 rfl rfl 0 rfl ?_
                  refine j_getR (q := 130) (z := 91) (index := 35) F md82 rfl in_X7_dam_7 10 (by decide) rfl fl_X7_dam_35 dX7_dam_127 rfl ?_
                  refine j_iload_n (q := 131) F dX7_dam_130 rfl rfl 2 rfl ?_
                  refine j_iald (q := 132) F ar91 (by omega) (by omega) (by decide) dX7_dam_131 rfl ?_
                  rw [show (mset Mw 83 (28 + k2) (Q k2)) 91 k2 = frM (M 83) (Q k2) (Q (k2 + 1)) from by rw [mset_nef (by decide), hw1 91 (by decide)]; exact hx k2 (by omega) (by omega)]
                  refine j_iast (q := 133) F ar83 (by omega) (by omega) (by decide) dX7_dam_132 rfl ?_
                  refine j_iinc (q := 136) (lv' := [(0, vR X 82), (1, vI D), (2, vI (k2 + 1))]) F dX7_dam_133 rfl 2 rfl (by decide) rfl rfl ?_
                  refine j_goto (q := 95) F dX7_dam_136 (by decide) ?_
                  exact ih95 (k2 + 1) (mset (mset Mw 83 (28 + k2) (Q k2)) 83 (53 + k2) (frM (M 83) (Q k2) (Q (k2 + 1)))) (by omega) (by omega) (by exact fun q a => by rw [mset_nef a, mset_nef a]; exact hw1 q a) (by rw [mset_d, mset_d]; exact damK_s g2 hA (by omega)) (by omega)
            exact LP95 _ 0 (mset Mq 83 3 m) (by omega) (by omega) (by exact fun q a => mset_nef a) (by intro j a b; rw [mset_d, damK_0, q83]) (by exact Nat.lt_succ_self _)
          · skip
            have b0 := hpa.mono (x := 0) (y := k) (by omega) g0 (by omega)
            have b1 := hpa.mono (x := k) (y := k + 1) g0 (by omega) (by omega)
            have b2 := hpa.mono (x := k + 1) (y := m) (by omega) (by omega) (by omega)
            rw [hpa.2.1] at b0
            rw [hpa.2.2.1] at b2
            refine j_aload_n (q := 35) F dX7_dam_34 rfl rfl 0 rfl ?_
            refine j_aload_n (q := 36) F dX7_dam_35 rfl rfl 0 rfl ?_
            refine j_getR (q := 39) (z := 95) (index := 47) F md82 rfl in_X7_dam_7 14 (by decide) rfl fl_X7_dam_47 dX7_dam_36 rfl ?_
            refine j_iload_n (q := 40) F dX7_dam_39 rfl rfl 2 rfl ?_
            refine j_iald (q := 41) F ar95 (by omega) (by omega) (by decide) dX7_dam_40 rfl ?_
            rw [show Mq 95 k = Q k from by rw [hq 95 (by decide)]; exact e95 _ (by omega) (by omega)]
            refine j_aload_n (q := 42) F dX7_dam_41 rfl rfl 0 rfl ?_
            refine j_getR (q := 45) (z := 95) (index := 47) F md82 rfl in_X7_dam_7 14 (by decide) rfl fl_X7_dam_47 dX7_dam_42 rfl ?_
            refine j_iload_n (q := 46) F dX7_dam_45 rfl rfl 2 rfl ?_
            refine j_iconst (q := 47) F dX7_dam_46 rfl ?_
            refine j_iadd (q := 48) (z := k + 1) F dX7_dam_47 rfl rfl ?_
            refine j_iald (q := 49) F ar95 (by omega) (by omega) (by decide) dX7_dam_48 rfl ?_
            rw [show Mq 95 (k + 1) = Q (k + 1) from by rw [hq 95 (by decide)]; exact e95 _ (by omega) (by omega)]
            refine j_callVP (q := 52) F [vI (Q k), vI (Q (k + 1))] (ct_X7_nowLine l X hX Mq (by rw [q83]; exact hD) (Q k) (Q (k + 1)) ⟨by omega, by omega⟩ ⟨by omega, by omega⟩) gX7_dam_X7_nowLine rfl cd_X7_nowLine ⟨by first | exact Nat.le_of_ble_eq_true rfl | (simp only [rm]; omega) | (simp [rm, vI, vR, Value.category]; omega), by first | exact Nat.le_of_ble_eq_true rfl | (simp only [rm]; omega) | (simp [rm, vI, vR, Value.category]; omega), by first | exact Nat.le_of_ble_eq_true rfl | (simp only [rm]; omega) | (simp [rm, vI, vR, Value.category]; omega), by first | exact Nat.le_of_ble_eq_true rfl | (simp only [rm]; omega) | (simp [rm, vI, vR, Value.category]; omega)⟩ md82 rfl rfl rfl (Nat.le_of_ble_eq_true rfl) dX7_dam_49 rfl (fun nl hnl => ?_)
            rw [q83] at hnl
            have hnb : -1 ≤ nl ∧ nl < 24 := by rcases hnl with ⟨q0, q1, -⟩ | ⟨q0, -⟩ <;> omega
            refine j_istore_n (q := 53) (lv' := [(0, vR X 82), (1, vI D), (2, vI k), (3, vI nl)]) F dX7_dam_52 rfl rfl (by decide) rfl rfl ?_
            refine j_aload_n (q := 54) F dX7_dam_53 rfl rfl 0 rfl ?_
            refine j_getR (q := 57) (z := 91) (index := 35) F md82 rfl in_X7_dam_7 10 (by decide) rfl fl_X7_dam_35 dX7_dam_54 rfl ?_
            refine j_iload_n (q := 58) F dX7_dam_57 rfl rfl 2 rfl ?_
            refine j_iload_n (q := 59) F dX7_dam_58 rfl rfl 3 rfl ?_
            refine j_iconst (q := 60) F dX7_dam_59 rfl ?_
            refine j_icmp_ne (q := 63) (tgt := 67) F dX7_dam_60 (by decide) rfl ⟨by omega, by omega⟩ ⟨by decide, by decide⟩ (fun h60_8 => ?_) (fun h60_8 => ?_)
            · skip
              refine j_aload_n (q := 68) F dX7_dam_67 rfl rfl 0 rfl ?_
              refine j_getR (q := 71) (z := 83) (index := 7) F md82 rfl in_X7_dam_7 0 (by decide) rfl fl_X7_dam_7 dX7_dam_68 rfl ?_
              refine j_bipush (q := 73) F dX7_dam_71 rfl (by decide) ?_
              refine j_iload_n (q := 74) F dX7_dam_73 rfl rfl 3 rfl ?_
              refine j_iadd (q := 75) (z := 53 + nl) F dX7_dam_74 rfl rfl ?_
              refine j_iald (q := 76) F ar83 (by omega) (by omega) (by decide) dX7_dam_75 rfl ?_
              rw [show Mq 83 (53 + nl) = M 83 (53 + nl) from by rw [q83]]
              refine j_iast (q := 77) F ar91 (by omega) (by omega) (by decide) dX7_dam_76 rfl ?_
              refine j_iinc (q := 80) (lv' := [(0, vR X 82), (1, vI D), (2, vI (k + 1)), (3, vI nl)]) F dX7_dam_77 rfl 2 rfl (by decide) rfl rfl ?_
              refine j_goto (q := 26) F dX7_dam_80 (by decide) ?_
              refine j_sub (lv' := [(0, vR X 82), (1, vI D), (2, vI (k + 1))]) [0, 1, 2] rfl ?_
              refine ih26 (k + 1) (mset Mq 91 k (M 83 (53 + nl))) (by omega) (by omega) (by exact fun q a => by rw [mset_nef a]; exact hq q a) ?_ (by omega)
              · intro y a b; rw [mset_if]
                by_cases hy : y = k
                · rw [if_pos hy, hy]; exact (frM_some hD hnl (by omega)).symm
                · rw [if_neg hy]; exact hx y a (by omega)
            · skip
              refine j_iconst (q := 64) F dX7_dam_63 rfl ?_
              refine j_goto (q := 76) F dX7_dam_64 (by decide) ?_
              refine j_iast (q := 77) F ar91 (by omega) (by omega) (by decide) dX7_dam_76 rfl ?_
              refine j_iinc (q := 80) (lv' := [(0, vR X 82), (1, vI D), (2, vI (k + 1)), (3, vI nl)]) F dX7_dam_77 rfl 2 rfl (by decide) rfl rfl ?_
              refine j_goto (q := 26) F dX7_dam_80 (by decide) ?_
              refine j_sub (lv' := [(0, vR X 82), (1, vI D), (2, vI (k + 1))]) [0, 1, 2] rfl ?_
              refine ih26 (k + 1) (mset Mq 91 k 0) (by omega) (by omega) (by exact fun q a => by rw [mset_nef a]; exact hq q a) ?_ (by omega)
              · intro y a b; rw [mset_if]
                by_cases hy : y = k
                · rw [if_pos hy, hy]; exact (frM_none hnl (by omega)).symm
                · rw [if_neg hy]; exact hx y a (by omega)
      exact LP26 _ 0 Mr (by omega) (by omega) (by exact fun _ _ => rfl) (by intro y a b; omega) (by exact Nat.lt_succ_self _)
    · skip
      refine j_bipush (q := 19) F dX7_dam_17 rfl (by decide) ?_
      exact hret _ _ _ _ dX7_dam_19 (by exact hp.1.pf.mpo hz (fun hsm => Or.inr (Or.inl ⟨hdl, hp.1.no (by omega), rfl, hsm⟩)))
  · skip
    refine j_if_ne (q := 7) (tgt := 9) F dX7_dam_4 (by decide) rfl ⟨by decide, by decide⟩ (fun h => absurd h (by decide)) (fun _ => ?_)
    refine j_iconst (q := 8) F dX7_dam_7 rfl ?_
    exact hret _ _ _ _ dX7_dam_8 (by exact mpo_of (fun _ _ _ _ => rfl) (Or.inl ⟨fun z => by have z1 := z.1; have z2 := z.2; omega, rfl, SM.rf M⟩))
