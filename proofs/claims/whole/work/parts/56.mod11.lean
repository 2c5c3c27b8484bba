theorem cd_X7_lays : yX7_lays.cls = RX7 ∧ yX7_lays.cls ≠ "java/lang/invoke/MethodHandle" ∧ yX7_lays.cls ≠ "java/lang/invoke/VarHandle" ∧ (parseMethodDescriptor yX7_lays.desc).map (fun d => d.parameters.length) = some 3 := by decide +kernel
theorem fl_X7_laysAll_7 : Cond.fieldLink RX7 7 "WhiteRiversModel" "d" "[I" ∈ wsX7_laysAll := by decide +kernel
theorem in_X7_laysAll_7 : ∀ w ∈ u_ws RX7 TX7 19, w ∈ wsX7_laysAll := by decide +kernel
set_option maxRecDepth 100000 in
set_option maxHeartbeats 1000000 in
theorem ct_X7_laysAll (l : Launch) (X : Cx) (hX : Inj X) (M : Mem) (hD : DOK (M 83)) : CtI l X yX7_laysAll wsX7_laysAll 2 [vR X 82] M (fun x M' => (∀ q, q < 86 ∨ 89 < q → M' q = M q) ∧ LM M' (M 83) ∧ x = LR (M 83)) := by
  refine CtI_of (cc := cX7_laysAll) (maxL := 4) hX (by decide +kernel) rfl (Nat.le_of_ble_eq_true rfl) ?_
  intro zp ze zs zm zargs zbelow zmeth zc zQ F hret
  show J zp l ze (rm 2) zs zm zargs zbelow zmeth zc 0 0 zQ zs.heap X 4 M 0 [(0, vR X 82)] []
  have hw := hD.w
  have hnn := hD.1
  have hww := hD.2.1
  have hlen := hw.2.2
  have hL24 := hD.L24
  have hss := hD.2.2.1
  refine j_iconst (q := 1) F dX7_laysAll_0 rfl ?_
  refine j_istore_n (q := 2) (lv' := [(0, vR X 82), (1, vI 0)]) F dX7_laysAll_1 rfl rfl (by decide) rfl rfl ?_
  refine j_iconst (q := 3) F dX7_laysAll_2 rfl ?_
  refine j_istore_n (q := 4) (lv' := [(0, vR X 82), (1, vI 0), (2, vI 0)]) F dX7_laysAll_3 rfl rfl (by decide) rfl rfl ?_
  refine j_sub (lv' := [(0, vR X 82), (1, vI 0), (2, vI 0)]) [0, 1, 2] rfl ?_
  have LP4 : ∀ (nn : Nat) (acc k : Int) (Mq : Mem), (0 ≤ k) → (k ≤ M 83 3) → (∀ q, q < 86 ∨ 89 < q → Mq q = M q) → (LA Mq (M 83) k) → (acc = mx (fun _ => true) (RD (M 83)) 0 (sd (M 83) k)) → (0 ≤ acc ∧ acc ≤ 51) → (M 83 3 - k).toNat < nn → J zp l ze (rm 2) zs zm zargs zbelow zmeth zc 0 0 zQ zs.heap X 4 Mq 4 [(0, vR X 82), (1, vI acc), (2, vI k)] [] := by
    intro nn
    induction nn with
    | zero => intro acc k Mq g0 g1 hq hA hacc hab hm4; exact absurd hm4 (Nat.not_lt_zero _)
    | succ nn ih4 =>
      intro acc k Mq g0 g1 hq hA hacc hab hm4
      have q83 : Mq 83 = M 83 := hq 83 (by decide)
      refine j_iload_n (q := 5) F dX7_laysAll_4 rfl rfl 2 rfl ?_
      refine j_aload_n (q := 6) F dX7_laysAll_5 rfl rfl 0 rfl ?_
      refine j_getR (q := 9) (z := 83) (index := 7) F md82 rfl in_X7_laysAll_7 0 (by decide) rfl fl_X7_laysAll_7 dX7_laysAll_6 rfl ?_
      refine j_iconst (q := 10) F dX7_laysAll_9 rfl ?_
      refine j_iald (q := 11) F ar83 (by omega) (by omega) (by decide) dX7_laysAll_10 rfl ?_
      rw [show Mq 83 3 = M 83 3 from by rw [q83]]
      refine j_icmp_ge (q := 14) (tgt := 61) F dX7_laysAll_11 (by decide) rfl ⟨by omega, by omega⟩ ⟨by omega, by omega⟩ (fun h11_1 => ?_) (fun h11_1 => ?_)
      · skip
        refine j_iload_n (q := 62) F dX7_laysAll_61 rfl rfl 1 rfl ?_
        refine hret _ _ _ _ dX7_laysAll_62 ?_
        · have hk : k = M 83 3 := by omega
          rw [hk] at hA hacc
          rw [sd_L (Int.le_refl _)] at hacc
          exact ⟨hq, hA.done hD, hacc⟩
      · skip
        have hsg := hD.2.2.2.2.2.2 k g0 (by omega)
        have hpr := hD.prvle g0 (show k < M 83 3 by omega)
        have hb1 := hD.bdall (l := k + 1) (by omega)
        have hb0 := hD.bdall g0
        have hxa : prv (M 83) k < sd (M 83) k → 0 ≤ exD (M 83) (prv (M 83) k) (sd (M 83) k) := fun z => by
          by_cases hz : k = 0
          · unfold prv at z
            rw [if_pos hz, hz, hD.2.2.2.2.2.1] at z
            omega
          · have e : prv (M 83) k = sd (M 83) (k - 1) := if_neg hz
            have h2 := (hD.2.2.2.2.2.2 (k - 1) (by omega) (by omega)).2.2
            rw [show k - 1 + 1 = k by omega] at h2
            rw [e]; exact h2
        refine j_aload_n (q := 15) F dX7_laysAll_14 rfl rfl 0 rfl ?_
        refine j_iload_n (q := 16) F dX7_laysAll_15 rfl rfl 2 rfl ?_
        refine j_if_ne (q := 19) (tgt := 23) F dX7_laysAll_16 (by decide) rfl ⟨by omega, by omega⟩ (fun h16_2 => ?_) (fun h16_2 => ?_)
        · skip
          have epr : prv (M 83) k = prv (M 83) k := rfl
          refine j_aload_n (q := 24) F dX7_laysAll_23 rfl rfl 0 rfl ?_
          refine j_iload_n (q := 25) F dX7_laysAll_24 rfl rfl 2 rfl ?_
          refine j_iconst (q := 26) F dX7_laysAll_25 rfl ?_
          refine j_isub (q := 27) (z := k - 1) F dX7_laysAll_26 rfl rfl ?_
          refine j_callVE (q := 30) F [vI (k - 1)] (ct_X7_first l X hX Mq (k - 1) (by omega) (by omega)) gX7_laysAll_X7_first rfl cd_X7_first ⟨by first | exact Nat.le_of_ble_eq_true rfl | (simp only [rm]; omega) | (simp [rm, vI, vR, Value.category]; omega), by first | exact Nat.le_of_ble_eq_true rfl | (simp only [rm]; omega) | (simp [rm, vI, vR, Value.category]; omega), by first | exact Nat.le_of_ble_eq_true rfl | (simp only [rm]; omega) | (simp [rm, vI, vR, Value.category]; omega), by first | exact Nat.le_of_ble_eq_true rfl | (simp only [rm]; omega) | (simp [rm, vI, vR, Value.category]; omega)⟩ md82 rfl rfl rfl (Nat.le_of_ble_eq_true rfl) dX7_laysAll_27 rfl ?_
          rw [show Mq 83 (28 + (k - 1)) = prv (M 83) k from by rw [q83]; unfold prv; rw [if_neg (by omega), sd_in (by omega)]]
          refine j_aload_n (q := 31) F dX7_laysAll_30 rfl rfl 0 rfl ?_
          refine j_iload_n (q := 32) F dX7_laysAll_31 rfl rfl 2 rfl ?_
          refine j_callVE (q := 35) F [vI k] (ct_X7_first l X hX Mq k (by omega) (by omega)) gX7_laysAll_X7_first rfl cd_X7_first ⟨by first | exact Nat.le_of_ble_eq_true rfl | (simp only [rm]; omega) | (simp [rm, vI, vR, Value.category]; omega), by first | exact Nat.le_of_ble_eq_true rfl | (simp only [rm]; omega) | (simp [rm, vI, vR, Value.category]; omega), by first | exact Nat.le_of_ble_eq_true rfl | (simp only [rm]; omega) | (simp [rm, vI, vR, Value.category]; omega), by first | exact Nat.le_of_ble_eq_true rfl | (simp only [rm]; omega) | (simp [rm, vI, vR, Value.category]; omega)⟩ md82 rfl rfl rfl (Nat.le_of_ble_eq_true rfl) dX7_laysAll_32 rfl ?_
          rw [show Mq 83 (28 + k) = sd (M 83) k from by rw [q83]; exact (sd_in (by omega)).symm]
          refine j_aload_n (q := 36) F dX7_laysAll_35 rfl rfl 0 rfl ?_
          refine j_iload_n (q := 37) F dX7_laysAll_36 rfl rfl 2 rfl ?_
          refine j_callVE (q := 40) F [vI k] (ct_X7_behind l X hX Mq (by rw [q83]; omega) k (by omega) (by rw [q83]; omega)) gX7_laysAll_X7_behind rfl cd_X7_behind ⟨by first | exact Nat.le_of_ble_eq_true rfl | (simp only [rm]; omega) | (simp [rm, vI, vR, Value.category]; omega), by first | exact Nat.le_of_ble_eq_true rfl | (simp only [rm]; omega) | (simp [rm, vI, vR, Value.category]; omega), by first | exact Nat.le_of_ble_eq_true rfl | (simp only [rm]; omega) | (simp [rm, vI, vR, Value.category]; omega), by first | exact Nat.le_of_ble_eq_true rfl | (simp only [rm]; omega) | (simp [rm, vI, vR, Value.category]; omega)⟩ md82 rfl rfl rfl (Nat.le_of_ble_eq_true rfl) dX7_laysAll_37 rfl ?_
          rw [show sd (Mq 83) (k + 1) = sd (M 83) (k + 1) from by rw [q83]]
          refine j_callVI (q := 43) F [vI (prv (M 83) k), vI (sd (M 83) k), vI (sd (M 83) (k + 1))] (ct_X7_lays l X hX Mq (by rw [q83]; exact hw) (prv (M 83) k) (sd (M 83) k) (sd (M 83) (k + 1)) (RD (M 83)) (by omega) (by omega) (by omega) (by rw [q83]; omega) (Or.inr (by rw [q83]; exact hsg.2.2)) (fun z => by rw [q83]; first | exact hxa z | (exfalso; rw [show k = 0 by omega, hD.2.2.2.2.2.1] at z; omega)) (by rw [q83, epr]; exact hA.gp hD g0 (by omega))) gX7_laysAll_X7_lays rfl cd_X7_lays ⟨by first | exact Nat.le_of_ble_eq_true rfl | (simp only [rm]; omega) | (simp [rm, vI, vR, Value.category]; omega), by first | exact Nat.le_of_ble_eq_true rfl | (simp only [rm]; omega) | (simp [rm, vI, vR, Value.category]; omega), by first | exact Nat.le_of_ble_eq_true rfl | (simp only [rm]; omega) | (simp [rm, vI, vR, Value.category]; omega), by first | exact Nat.le_of_ble_eq_true rfl | (simp only [rm]; omega) | (simp [rm, vI, vR, Value.category]; omega)⟩ md82 rfl rfl rfl (Nat.le_of_ble_eq_true rfl) dX7_laysAll_40 rfl (fun x Ml hly => ?_)
          rw [q83] at hly
          have est : LA Ml (M 83) (k + 1) := hA.step hD g0 (by omega) (by rw [← epr]; exact hly.1)
          have emo := LA.most hD g0 (show k < M 83 3 by omega) (x := x) (by rw [← epr]; exact hly.2)
          have hxn : 0 ≤ x := by rw [hly.2]; exact mx_nn
          have hbm : 0 ≤ mx (fun _ => true) (RD (M 83)) 0 (sd (M 83) (k + 1)) ∧ mx (fun _ => true) (RD (M 83)) 0 (sd (M 83) (k + 1)) ≤ 24 := mx_bd (by omega) (fun w a b _ => (RD_bd (M 83) ⟨hL24.1, hL24.2.2⟩ w).2)
          have hxb : 0 ≤ x ∧ x ≤ 51 := by rw [emo, ← hacc] at hbm; split at hbm <;> omega
          refine j_istore_n (q := 44) (lv' := [(0, vR X 82), (1, vI acc), (2, vI k), (3, vI x)]) F dX7_laysAll_43 rfl rfl (by decide) rfl rfl ?_
          refine j_iload_n (q := 45) F dX7_laysAll_44 rfl rfl 3 rfl ?_
          refine j_iload_n (q := 46) F dX7_laysAll_45 rfl rfl 1 rfl ?_
          refine j_icmp_le (q := 49) (tgt := 53) F dX7_laysAll_46 (by decide) rfl ⟨by omega, by omega⟩ ⟨by omega, by omega⟩ (fun h46_7 => ?_) (fun h46_7 => ?_)
          · skip
            refine j_iload_n (q := 54) F dX7_laysAll_53 rfl rfl 1 rfl ?_
            refine j_istore_n (q := 55) (lv' := [(0, vR X 82), (1, vI acc), (2, vI k), (3, vI x)]) F dX7_laysAll_54 rfl rfl (by decide) rfl rfl ?_
            refine j_iinc (q := 58) (lv' := [(0, vR X 82), (1, vI acc), (2, vI (k + 1)), (3, vI x)]) F dX7_laysAll_55 rfl 2 rfl (by decide) rfl rfl ?_
            refine j_goto (q := 4) F dX7_laysAll_58 (by decide) ?_
            refine j_sub (lv' := [(0, vR X 82), (1, vI acc), (2, vI (k + 1))]) [0, 1, 2] rfl ?_
            exact ih4 acc (k + 1) Ml (by omega) (by omega) (by exact fun q a => by rw [hly.1.1 q a]; exact hq q a) (by exact est) (by rw [emo, ← hacc]; split <;> omega) (by omega) (by omega)
          · skip
            refine j_iload_n (q := 50) F dX7_laysAll_49 rfl rfl 3 rfl ?_
            refine j_goto (q := 54) F dX7_laysAll_50 (by decide) ?_
            refine j_istore_n (q := 55) (lv' := [(0, vR X 82), (1, vI x), (2, vI k), (3, vI x)]) F dX7_laysAll_54 rfl rfl (by decide) rfl rfl ?_
            refine j_iinc (q := 58) (lv' := [(0, vR X 82), (1, vI x), (2, vI (k + 1)), (3, vI x)]) F dX7_laysAll_55 rfl 2 rfl (by decide) rfl rfl ?_
            refine j_goto (q := 4) F dX7_laysAll_58 (by decide) ?_
            refine j_sub (lv' := [(0, vR X 82), (1, vI x), (2, vI (k + 1))]) [0, 1, 2] rfl ?_
            exact ih4 x (k + 1) Ml (by omega) (by omega) (by exact fun q a => by rw [hly.1.1 q a]; exact hq q a) (by exact est) (by rw [emo, ← hacc]; split <;> omega) (by omega) (by omega)
        · skip
          have epr : (0 : Int) = prv (M 83) k := (if_pos (by omega)).symm
          refine j_iconst (q := 20) F dX7_laysAll_19 rfl ?_
          refine j_goto (q := 30) F dX7_laysAll_20 (by decide) ?_
          refine j_aload_n (q := 31) F dX7_laysAll_30 rfl rfl 0 rfl ?_
          refine j_iload_n (q := 32) F dX7_laysAll_31 rfl rfl 2 rfl ?_
          refine j_callVE (q := 35) F [vI k] (ct_X7_first l X hX Mq k (by omega) (by omega)) gX7_laysAll_X7_first rfl cd_X7_first ⟨by first | exact Nat.le_of_ble_eq_true rfl | (simp only [rm]; omega) | (simp [rm, vI, vR, Value.category]; omega), by first | exact Nat.le_of_ble_eq_true rfl | (simp only [rm]; omega) | (simp [rm, vI, vR, Value.category]; omega), by first | exact Nat.le_of_ble_eq_true rfl | (simp only [rm]; omega) | (simp [rm, vI, vR, Value.category]; omega), by first | exact Nat.le_of_ble_eq_true rfl | (simp only [rm]; omega) | (simp [rm, vI, vR, Value.category]; omega)⟩ md82 rfl rfl rfl (Nat.le_of_ble_eq_true rfl) dX7_laysAll_32 rfl ?_
          rw [show Mq 83 (28 + k) = sd (M 83) k from by rw [q83]; exact (sd_in (by omega)).symm]
          refine j_aload_n (q := 36) F dX7_laysAll_35 rfl rfl 0 rfl ?_
          refine j_iload_n (q := 37) F dX7_laysAll_36 rfl rfl 2 rfl ?_
          refine j_callVE (q := 40) F [vI k] (ct_X7_behind l X hX Mq (by rw [q83]; omega) k (by omega) (by rw [q83]; omega)) gX7_laysAll_X7_behind rfl cd_X7_behind ⟨by first | exact Nat.le_of_ble_eq_true rfl | (simp only [rm]; omega) | (simp [rm, vI, vR, Value.category]; omega), by first | exact Nat.le_of_ble_eq_true rfl | (simp only [rm]; omega) | (simp [rm, vI, vR, Value.category]; omega), by first | exact Nat.le_of_ble_eq_true rfl | (simp only [rm]; omega) | (simp [rm, vI, vR, Value.category]; omega), by first | exact Nat.le_of_ble_eq_true rfl | (simp only [rm]; omega) | (simp [rm, vI, vR, Value.category]; omega)⟩ md82 rfl rfl rfl (Nat.le_of_ble_eq_true rfl) dX7_laysAll_37 rfl ?_
          rw [show sd (Mq 83) (k + 1) = sd (M 83) (k + 1) from by rw [q83]]
          refine j_callVI (q := 43) F [vI 0, vI (sd (M 83) k), vI (sd (M 83) (k + 1))] (ct_X7_lays l X hX Mq (by rw [q83]; exact hw) 0 (sd (M 83) k) (sd (M 83) (k + 1)) (RD (M 83)) (by omega) (by omega) (by omega) (by rw [q83]; omega) (Or.inr (by rw [q83]; exact hsg.2.2)) (fun z => by rw [q83]; first | exact hxa z | (exfalso; rw [show k = 0 by omega, hD.2.2.2.2.2.1] at z; omega)) (by rw [q83, epr]; exact hA.gp hD g0 (by omega))) gX7_laysAll_X7_lays rfl cd_X7_lays ⟨by first | exact Nat.le_of_ble_eq_true rfl | (simp only [rm]; omega) | (simp [rm, vI, vR, Value.category]; omega), by first | exact Nat.le_of_ble_eq_true rfl | (simp only [rm]; omega) | (simp [rm, vI, vR, Value.category]; omega), by first | exact Nat.le_of_ble_eq_true rfl | (simp only [rm]; omega) | (simp [rm, vI, vR, Value.category]; omega), by first | exact Nat.le_of_ble_eq_true rfl | (simp only [rm]; omega) | (simp [rm, vI, vR, Value.category]; omega)⟩ md82 rfl rfl rfl (Nat.le_of_ble_eq_true rfl) dX7_laysAll_40 rfl (fun x Ml hly => ?_)
          rw [q83] at hly
          have est : LA Ml (M 83) (k + 1) := hA.step hD g0 (by omega) (by rw [← epr]; exact hly.1)
          have emo := LA.most hD g0 (show k < M 83 3 by omega) (x := x) (by rw [← epr]; exact hly.2)
          have hxn : 0 ≤ x := by rw [hly.2]; exact mx_nn
          have hbm : 0 ≤ mx (fun _ => true) (RD (M 83)) 0 (sd (M 83) (k + 1)) ∧ mx (fun _ => true) (RD (M 83)) 0 (sd (M 83) (k + 1)) ≤ 24 := mx_bd (by omega) (fun w a b _ => (RD_bd (M 83) ⟨hL24.1, hL24.2.2⟩ w).2)
          have hxb : 0 ≤ x ∧ x ≤ 51 := by rw [emo, ← hacc] at hbm; split at hbm <;> omega
          refine j_istore_n (q := 44) (lv' := [(0, vR X 82), (1, vI acc), (2, vI k), (3, vI x)]) F dX7_laysAll_43 rfl rfl (by decide) rfl rfl ?_
          refine j_iload_n (q := 45) F dX7_laysAll_44 rfl rfl 3 rfl ?_
          refine j_iload_n (q := 46) F dX7_laysAll_45 rfl rfl 1 rfl ?_
          refine j_icmp_le (q := 49) (tgt := 53) F dX7_laysAll_46 (by decide) rfl ⟨by omega, by omega⟩ ⟨by omega, by omega⟩ (fun h46_11 => ?_) (fun h46_11 => ?_)
          · skip
            refine j_iload_n (q := 54) F dX7_laysAll_53 rfl rfl 1 rfl ?_
            refine j_istore_n (q := 55) (lv' := [(0, vR X 82), (1, vI acc), (2, vI k), (3, vI x)]) F dX7_laysAll_54 rfl rfl (by decide) rfl rfl ?_
            refine j_iinc (q := 58) (lv' := [(0, vR X 82), (1, vI acc), (2, vI (k + 1)), (3, vI x)]) F dX7_laysAll_55 rfl 2 rfl (by decide) rfl rfl ?_
            refine j_goto (q := 4) F dX7_laysAll_58 (by decide) ?_
            refine j_sub (lv' := [(0, vR X 82), (1, vI acc), (2, vI (k + 1))]) [0, 1, 2] rfl ?_
            exact ih4 acc (k + 1) Ml (by omega) (by omega) (by exact fun q a => by rw [hly.1.1 q a]; exact hq q a) (by exact est) (by rw [emo, ← hacc]; split <;> omega) (by omega) (by omega)
          · skip
            refine j_iload_n (q := 50) F dX7_laysAll_49 rfl rfl 3 rfl ?_
            refine j_goto (q := 54) F dX7_laysAll_50 (by decide) ?_
            refine j_istore_n (q := 55) (lv' := [(0, vR X 82), (1, vI x), (2, vI k), (3, vI x)]) F dX7_laysAll_54 rfl rfl (by decide) rfl rfl ?_
            refine j_iinc (q := 58) (lv' := [(0, vR X 82), (1, vI x), (2, vI (k + 1)), (3, vI x)]) F dX7_laysAll_55 rfl 2 rfl (by decide) rfl rfl ?_
            refine j_goto (q := 4) F dX7_laysAll_58 (by decide) ?_
            refine j_sub (lv' := [(0, vR X 82), (1, vI x), (2, vI (k + 1))]) [0, 1, 2] rfl ?_
            exact ih4 x (k + 1) Ml (by omega) (by omega) (by exact fun q a => by rw [hly.1.1 q a]; exact hq q a) (by exact est) (by rw [emo, ← hacc]; split <;> omega) (by omega) (by omega)
  exact LP4 _ 0 0 M (by omega) (by omega) (by exact fun _ _ => rfl) (by intro l q0 q1; omega) (by rw [hD.2.2.2.2.2.1]; exact (mx_0 _ _ (Int.le_refl _)).symm) (by omega) (by exact Nat.lt_succ_self _)
