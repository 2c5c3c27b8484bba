theorem fl_X7_gapsWith_29 : Cond.fieldLink RX7 29 "WhiteRiversModel" "reach" "[I" ∈ wsX7_gapsWith := by decide +kernel
theorem fl_X7_gapsWith_7 : Cond.fieldLink RX7 7 "WhiteRiversModel" "d" "[I" ∈ wsX7_gapsWith := by decide +kernel
theorem in_X7_gapsWith_7 : ∀ w ∈ u_ws RX7 TX7 19, w ∈ wsX7_gapsWith := by decide +kernel
set_option maxRecDepth 100000 in
set_option maxHeartbeats 1000000 in
theorem ct_X7_gapsWith (l : Launch) (X : Cx) (hX : Inj X) (M : Mem) (hD : DOK (M 83)) (a : Int) (ha : 0 ≤ a ∧ a ≤ 50) : CtI l X yX7_gapsWith wsX7_gapsWith 3 [vR X 82, vI a] M (fun x M' => (∀ q, q < 86 ∨ 89 < q → M' q = M q) ∧ x = cnt (gwD (M 83) a) (M 83 0)) := by
  refine CtI_of (cc := cX7_gapsWith) (maxL := 5) hX (by decide +kernel) rfl (Nat.le_of_ble_eq_true rfl) ?_
  intro zp ze zs zm zargs zbelow zmeth zc zQ F hret
  show J zp l ze (rm 3) zs zm zargs zbelow zmeth zc 0 0 zQ zs.heap X 5 M 0 [(0, vR X 82), (1, vI a)] []
  have hw := hD.w
  have hnn := hD.1
  have hww := hD.2.1
  have hlen := hw.2.2
  have hL24 := hD.L24
  have hss := hD.2.2.1
  refine j_aload_n (q := 1) F dX7_gapsWith_0 rfl rfl 0 rfl ?_
  refine j_callVI (q := 4) F [] (ct_X7_laysAll l X hX M hD) gX7_gapsWith_X7_laysAll rfl cd_X7_laysAll ⟨by first | exact Nat.le_of_ble_eq_true rfl | (simp only [rm]; omega) | (simp [rm, vI, vR, Value.category]; omega), by first | exact Nat.le_of_ble_eq_true rfl | (simp only [rm]; omega) | (simp [rm, vI, vR, Value.category]; omega), by first | exact Nat.le_of_ble_eq_true rfl | (simp only [rm]; omega) | (simp [rm, vI, vR, Value.category]; omega), by first | exact Nat.le_of_ble_eq_true rfl | (simp only [rm]; omega) | (simp [rm, vI, vR, Value.category]; omega)⟩ md82 rfl rfl rfl (Nat.le_of_ble_eq_true rfl) dX7_gapsWith_1 rfl (fun lr Ml hl => ?_)
  have l83 : Ml 83 = M 83 := hl.1 83 (by decide)
  have hLM : LM Ml (Ml 83) := by rw [l83]; exact hl.2.1
  have hDl : DOK (Ml 83) := by rw [l83]; exact hD
  have hlr := LR_bd hD
  have e30 : Ml 83 3 = M 83 3 := by rw [l83]
  refine j_pop (q := 5) F dX7_gapsWith_4 rfl rfl ?_
  refine j_iconst (q := 6) F dX7_gapsWith_5 rfl ?_
  refine j_istore_n (q := 7) (lv' := [(0, vR X 82), (1, vI a), (2, vI 0)]) F dX7_gapsWith_6 rfl rfl (by decide) rfl rfl ?_
  refine j_iconst (q := 8) F dX7_gapsWith_7 rfl ?_
  refine j_istore_n (q := 9) (lv' := [(0, vR X 82), (1, vI a), (2, vI 0), (3, vI 0)]) F dX7_gapsWith_8 rfl rfl (by decide) rfl rfl ?_
  refine j_sub (lv' := [(0, vR X 82), (1, vI a), (2, vI 0), (3, vI 0)]) [0, 1, 2, 3] rfl ?_
  have LP9 : ∀ (nn : Nat) (acc k : Int), (0 ≤ k) → (k ≤ M 83 3) → (acc = cnt (gwD (M 83) a) (sd (M 83) k)) → (M 83 3 - k).toNat < nn → J zp l ze (rm 3) zs zm zargs zbelow zmeth zc 0 0 zQ zs.heap X 5 Ml 9 [(0, vR X 82), (1, vI a), (2, vI acc), (3, vI k)] [] := by
    intro nn
    induction nn with
    | zero => intro acc k g0 g1 g2 hm9; exact absurd hm9 (Nat.not_lt_zero _)
    | succ nn ih9 =>
      intro acc k g0 g1 g2 hm9
      refine j_iload_n (q := 10) F dX7_gapsWith_9 rfl rfl 3 rfl ?_
      refine j_aload_n (q := 11) F dX7_gapsWith_10 rfl rfl 0 rfl ?_
      refine j_getR (q := 14) (z := 83) (index := 7) F md82 rfl in_X7_gapsWith_7 0 (by decide) rfl fl_X7_gapsWith_7 dX7_gapsWith_11 rfl ?_
      refine j_iconst (q := 15) F dX7_gapsWith_14 rfl ?_
      refine j_iald (q := 16) F ar83 (by omega) (by omega) (by decide) dX7_gapsWith_15 rfl ?_
      refine j_icmp_ge (q := 19) (tgt := 92) F dX7_gapsWith_16 (by decide) rfl ⟨by omega, by omega⟩ ⟨by omega, by omega⟩ (fun h16_2 => ?_) (fun h16_2 => ?_)
      · skip
        refine j_iload_n (q := 93) F dX7_gapsWith_92 rfl rfl 2 rfl ?_
        exact hret _ _ _ _ dX7_gapsWith_93 (by exact ⟨hl.1, by rw [g2, show k = M 83 3 by omega, sd_L (Int.le_refl _)]⟩)
      · skip
        have hsk := (hD.2.2.2.2.2.2 k g0 (by omega)).1
        have hbk := hD.bdall g0
        have hbk1 := hD.bdall (l := k + 1) (by omega)
        refine j_aload_n (q := 20) F dX7_gapsWith_19 rfl rfl 0 rfl ?_
        refine j_iload_n (q := 21) F dX7_gapsWith_20 rfl rfl 3 rfl ?_
        refine j_callVE (q := 24) F [vI k] (ct_X7_first l X hX Ml k (by omega) (by omega)) gX7_gapsWith_X7_first rfl cd_X7_first ⟨by first | exact Nat.le_of_ble_eq_true rfl | (simp only [rm]; omega) | (simp [rm, vI, vR, Value.category]; omega), by first | exact Nat.le_of_ble_eq_true rfl | (simp only [rm]; omega) | (simp [rm, vI, vR, Value.category]; omega), by first | exact Nat.le_of_ble_eq_true rfl | (simp only [rm]; omega) | (simp [rm, vI, vR, Value.category]; omega), by first | exact Nat.le_of_ble_eq_true rfl | (simp only [rm]; omega) | (simp [rm, vI, vR, Value.category]; omega)⟩ md82 rfl rfl rfl (Nat.le_of_ble_eq_true rfl) dX7_gapsWith_21 rfl ?_
        rw [show Ml 83 (28 + k) = sd (M 83) k from by rw [l83]; exact (sd_in (by omega)).symm]
        refine j_istore (q := 26) (lv' := [(0, vR X 82), (1, vI a), (2, vI acc), (3, vI k), (4, vI (sd (M 83) k))]) F dX7_gapsWith_24 rfl (by decide) rfl rfl ?_
        have LP26 : ∀ (nn : Nat) (ac g : Int), (sd (M 83) k ≤ g) → (g ≤ sd (M 83) (k + 1) - 1) → (ac = cnt (gwD (M 83) a) g) → (sd (M 83) (k + 1) - g).toNat < nn → J zp l ze (rm 3) zs zm zargs zbelow zmeth zc 0 0 zQ zs.heap X 5 Ml 26 [(0, vR X 82), (1, vI a), (2, vI ac), (3, vI k), (4, vI g)] [] := by
          intro nn
          induction nn with
          | zero => intro ac g k0 k1 k2 hm26; exact absurd hm26 (Nat.not_lt_zero _)
          | succ nn ih26 =>
            intro ac g k0 k1 k2 hm26
            refine j_iload (q := 28) F dX7_gapsWith_26 rfl 4 rfl ?_
            refine j_iconst (q := 29) F dX7_gapsWith_28 rfl ?_
            refine j_iadd (q := 30) (z := g + 1) F dX7_gapsWith_29 rfl rfl ?_
            refine j_aload_n (q := 31) F dX7_gapsWith_30 rfl rfl 0 rfl ?_
            refine j_iload_n (q := 32) F dX7_gapsWith_31 rfl rfl 3 rfl ?_
            refine j_callVE (q := 35) F [vI k] (ct_X7_behind l X hX Ml (by rw [l83]; omega) k (by omega) (by rw [l83]; omega)) gX7_gapsWith_X7_behind rfl cd_X7_behind ⟨by first | exact Nat.le_of_ble_eq_true rfl | (simp only [rm]; omega) | (simp [rm, vI, vR, Value.category]; omega), by first | exact Nat.le_of_ble_eq_true rfl | (simp only [rm]; omega) | (simp [rm, vI, vR, Value.category]; omega), by first | exact Nat.le_of_ble_eq_true rfl | (simp only [rm]; omega) | (simp [rm, vI, vR, Value.category]; omega), by first | exact Nat.le_of_ble_eq_true rfl | (simp only [rm]; omega) | (simp [rm, vI, vR, Value.category]; omega)⟩ md82 rfl rfl rfl (Nat.le_of_ble_eq_true rfl) dX7_gapsWith_32 rfl ?_
            rw [show sd (Ml 83) (k + 1) = sd (M 83) (k + 1) from by rw [l83]]
            refine j_icmp_ge (q := 38) (tgt := 86) F dX7_gapsWith_35 (by decide) rfl ⟨by omega, by omega⟩ ⟨by omega, by omega⟩ (fun h35_5 => ?_) (fun h35_5 => ?_)
            · skip
              refine j_iinc (q := 89) (lv' := [(0, vR X 82), (1, vI a), (2, vI ac), (3, vI (k + 1)), (4, vI g)]) F dX7_gapsWith_86 rfl 3 rfl (by decide) rfl rfl ?_
              refine j_goto (q := 9) F dX7_gapsWith_89 (by decide) ?_
              refine j_sub (lv' := [(0, vR X 82), (1, vI a), (2, vI ac), (3, vI (k + 1))]) [0, 1, 2, 3] rfl ?_
              refine ih9 ac (k + 1) (by omega) (by omega) ?_ (by omega)
              · have hz := cnt_s (gwD (M 83) a) (show 0 ≤ sd (M 83) (k + 1) - 1 by omega)
                rw [show sd (M 83) (k + 1) - 1 + 1 = sd (M 83) (k + 1) by omega, gw_last hD g0 (by omega)] at hz
                rw [hz, k2, show g = sd (M 83) (k + 1) - 1 by omega]; omega
            · skip
              have elg : lnD (M 83) g = k := lnD_eq hD g0 (by omega) k0 (by omega)
              have hab9 := ab_bd (M 83) hD (show 0 ≤ g by omega) (by omega)
              have hrd9 := RD_bd (M 83) ⟨hL24.1, hL24.2.2⟩ g
              refine j_iload_n (q := 39) F dX7_gapsWith_38 rfl rfl 2 rfl ?_
              refine j_iload_n (q := 40) F dX7_gapsWith_39 rfl rfl 1 rfl ?_
              refine j_if_ne (q := 43) (tgt := 62) F dX7_gapsWith_40 (by decide) rfl ⟨by omega, by omega⟩ (fun h40_6 => ?_) (fun h40_6 => ?_)
              · skip
                refine j_aload_n (q := 63) F dX7_gapsWith_62 rfl rfl 0 rfl ?_
                refine j_getR (q := 66) (z := 89) (index := 29) F md82 rfl in_X7_gapsWith_7 8 (by decide) rfl fl_X7_gapsWith_29 dX7_gapsWith_63 rfl ?_
                refine j_iload (q := 68) F dX7_gapsWith_66 rfl 4 rfl ?_
                refine j_iald (q := 69) F ar89 (by omega) (by omega) (by decide) dX7_gapsWith_68 rfl ?_
                rw [show Ml 89 g = RD (M 83) g from by exact ((hl.2.1 g (by omega) (by omega)).2 (by rw [elg]; omega)).2.2]
                refine j_iload_n (q := 70) F dX7_gapsWith_69 rfl rfl 1 rfl ?_
                refine j_icmp_ne (q := 73) (tgt := 77) F dX7_gapsWith_70 (by decide) rfl ⟨by omega, by omega⟩ ⟨by omega, by omega⟩ (fun h70_7 => ?_) (fun h70_7 => ?_)
                · skip
                  refine j_iconst (q := 78) F dX7_gapsWith_77 rfl ?_
                  refine j_iadd (q := 79) (z := ac + 0) F dX7_gapsWith_78 rfl rfl ?_
                  refine j_istore_n (q := 80) (lv' := [(0, vR X 82), (1, vI a), (2, vI (ac + 0)), (3, vI k), (4, vI g)]) F dX7_gapsWith_79 rfl rfl (by decide) rfl rfl ?_
                  refine j_iinc (q := 83) (lv' := [(0, vR X 82), (1, vI a), (2, vI (ac + 0)), (3, vI k), (4, vI (g + 1))]) F dX7_gapsWith_80 rfl 4 rfl (by decide) rfl rfl ?_
                  refine j_goto (q := 26) F dX7_gapsWith_83 (by decide) ?_
                  exact ih26 (ac + 0) (g + 1) (by omega) (by omega) (by rw [cnt_s _ (by omega), ← k2]; unfold gwD; split <;> first | omega | (split <;> omega)) (by omega)
                · skip
                  refine j_iconst (q := 74) F dX7_gapsWith_73 rfl ?_
                  refine j_goto (q := 78) F dX7_gapsWith_74 (by decide) ?_
                  refine j_iadd (q := 79) (z := ac + 1) F dX7_gapsWith_78 rfl rfl ?_
                  refine j_istore_n (q := 80) (lv' := [(0, vR X 82), (1, vI a), (2, vI (ac + 1)), (3, vI k), (4, vI g)]) F dX7_gapsWith_79 rfl rfl (by decide) rfl rfl ?_
                  refine j_iinc (q := 83) (lv' := [(0, vR X 82), (1, vI a), (2, vI (ac + 1)), (3, vI k), (4, vI (g + 1))]) F dX7_gapsWith_80 rfl 4 rfl (by decide) rfl rfl ?_
                  refine j_goto (q := 26) F dX7_gapsWith_83 (by decide) ?_
                  exact ih26 (ac + 1) (g + 1) (by omega) (by omega) (by rw [cnt_s _ (by omega), ← k2]; unfold gwD; split <;> first | omega | (split <;> omega)) (by omega)
              · skip
                refine j_aload_n (q := 44) F dX7_gapsWith_43 rfl rfl 0 rfl ?_
                refine j_iload (q := 46) F dX7_gapsWith_44 rfl 4 rfl ?_
                refine j_iload_n (q := 47) F dX7_gapsWith_46 rfl rfl 3 rfl ?_
                refine j_callVE (q := 50) F [vI g, vI k] (ct_X7_above l X hX Ml hDl hLM g k (by omega) (by rw [l83]; omega) (by rw [l83, elg]; omega) (by rw [l83, elg])) gX7_gapsWith_X7_above rfl cd_X7_above ⟨by first | exact Nat.le_of_ble_eq_true rfl | (simp only [rm]; omega) | (simp [rm, vI, vR, Value.category]; omega), by first | exact Nat.le_of_ble_eq_true rfl | (simp only [rm]; omega) | (simp [rm, vI, vR, Value.category]; omega), by first | exact Nat.le_of_ble_eq_true rfl | (simp only [rm]; omega) | (simp [rm, vI, vR, Value.category]; omega), by first | exact Nat.le_of_ble_eq_true rfl | (simp only [rm]; omega) | (simp [rm, vI, vR, Value.category]; omega)⟩ md82 rfl rfl rfl (Nat.le_of_ble_eq_true rfl) dX7_gapsWith_47 rfl ?_
                rw [show abD (Ml 83) g = abD (M 83) g from by rw [l83]]
                refine j_iconst (q := 51) F dX7_gapsWith_50 rfl ?_
                refine j_icmp_le (q := 54) (tgt := 58) F dX7_gapsWith_51 (by decide) rfl ⟨by omega, by omega⟩ ⟨by decide, by decide⟩ (fun h51_9 => ?_) (fun h51_9 => ?_)
                · skip
                  refine j_iconst (q := 59) F dX7_gapsWith_58 rfl ?_
                  refine j_goto (q := 78) F dX7_gapsWith_59 (by decide) ?_
                  refine j_iadd (q := 79) (z := ac + 0) F dX7_gapsWith_78 rfl rfl ?_
                  refine j_istore_n (q := 80) (lv' := [(0, vR X 82), (1, vI a), (2, vI (ac + 0)), (3, vI k), (4, vI g)]) F dX7_gapsWith_79 rfl rfl (by decide) rfl rfl ?_
                  refine j_iinc (q := 83) (lv' := [(0, vR X 82), (1, vI a), (2, vI (ac + 0)), (3, vI k), (4, vI (g + 1))]) F dX7_gapsWith_80 rfl 4 rfl (by decide) rfl rfl ?_
                  refine j_goto (q := 26) F dX7_gapsWith_83 (by decide) ?_
                  exact ih26 (ac + 0) (g + 1) (by omega) (by omega) (by rw [cnt_s _ (by omega), ← k2]; unfold gwD; split <;> first | omega | (split <;> omega)) (by omega)
                · skip
                  refine j_iconst (q := 55) F dX7_gapsWith_54 rfl ?_
                  refine j_goto (q := 78) F dX7_gapsWith_55 (by decide) ?_
                  refine j_iadd (q := 79) (z := ac + 1) F dX7_gapsWith_78 rfl rfl ?_
                  refine j_istore_n (q := 80) (lv' := [(0, vR X 82), (1, vI a), (2, vI (ac + 1)), (3, vI k), (4, vI g)]) F dX7_gapsWith_79 rfl rfl (by decide) rfl rfl ?_
                  refine j_iinc (q := 83) (lv' := [(0, vR X 82), (1, vI a), (2, vI (ac + 1)), (3, vI k), (4, vI (g + 1))]) F dX7_gapsWith_80 rfl 4 rfl (by decide) rfl rfl ?_
                  refine j_goto (q := 26) F dX7_gapsWith_83 (by decide) ?_
                  exact ih26 (ac + 1) (g + 1) (by omega) (by omega) (by rw [cnt_s _ (by omega), ← k2]; unfold gwD; split <;> first | omega | (split <;> omega)) (by omega)
        exact LP26 _ acc (sd (M 83) k) (by omega) (by omega) (by exact g2) (by exact Nat.lt_succ_self _)
  exact LP9 _ 0 0 (by omega) (by omega) (by rw [hD.2.2.2.2.2.1]; exact (cnt_0 _).symm) (by exact Nat.lt_succ_self _)
