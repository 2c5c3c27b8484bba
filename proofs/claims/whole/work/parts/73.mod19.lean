theorem fl_X7_river_29 : Cond.fieldLink RX7 29 "WhiteRiversModel" "reach" "[I" ∈ wsX7_river := by decide +kernel
theorem in_X7_river_7 : ∀ w ∈ u_ws RX7 TX7 19, w ∈ wsX7_river := by decide +kernel
set_option maxRecDepth 100000 in
set_option maxHeartbeats 1000000 in
theorem ct_X7_river (l : Launch) (X : Cx) (hX : Inj X) (M : Mem) (hD : DOK (M 83)) (i : Int) (hi0 : inR i) (w : Int) (hw0 : inR w) : CtI l X yX7_river wsX7_river 3 [vR X 82, vI i, vI w] M (fun r M' => MPO M (Oriver M i w) r M') := by
  refine CtI_of (cc := cX7_river) (maxL := 8) hX (by decide +kernel) rfl (Nat.le_of_ble_eq_true rfl) ?_
  intro zp ze zs zm zargs zbelow zmeth zc zQ F hret
  show J zp l ze (rm 3) zs zm zargs zbelow zmeth zc 0 0 zQ zs.heap X 8 M 0 [(0, vR X 82), (1, vI i), (2, vI w)] []
  have hw := hD.w
  have hnn := hD.1
  have hww := hD.2.1
  have hlen := hw.2.2
  have hL24 := hD.L24
  have hss := hD.2.2.1
  obtain ⟨hi1, hi2⟩ := hi0
  obtain ⟨hw1, hw2⟩ := hw0
  refine j_iload_n (q := 1) F dX7_river_0 rfl rfl 1 rfl ?_
  refine j_if_lt (q := 4) (tgt := 13) F dX7_river_1 (by decide) rfl ⟨by omega, by omega⟩ (fun h1_1 => ?_) (fun h1_1 => ?_)
  · skip
    refine j_iconst (q := 14) F dX7_river_13 rfl ?_
    exact hret _ _ _ _ dX7_river_14 (by refine mpo_of (fun _ _ _ _ => rfl) ⟨SM.rf M, Or.inl ⟨fun z => by have z1 := z.1; have z2 := z.2.1; have z3 := z.2.2; omega, rfl⟩⟩)
  · skip
    refine j_iload_n (q := 5) F dX7_river_4 rfl rfl 2 rfl ?_
    refine j_iconst (q := 6) F dX7_river_5 rfl ?_
    refine j_iconst (q := 7) F dX7_river_6 rfl ?_
    refine j_callSZ (q := 10) F [vI w, vI 0, vI 1] (ct_X7_in l X hX M w 0 1 ⟨by omega, by omega⟩ ⟨by omega, by omega⟩ ⟨by omega, by omega⟩) gX7_river_X7_in rfl cd_X7_in ⟨by first | exact Nat.le_of_ble_eq_true rfl | (simp only [rm]; omega) | (simp [rm, vI, vR, Value.category]; omega), by first | exact Nat.le_of_ble_eq_true rfl | (simp only [rm]; omega) | (simp [rm, vI, vR, Value.category]; omega), by first | exact Nat.le_of_ble_eq_true rfl | (simp only [rm]; omega) | (simp [rm, vI, vR, Value.category]; omega), by first | exact Nat.le_of_ble_eq_true rfl | (simp only [rm]; omega) | (simp [rm, vI, vR, Value.category]; omega)⟩ rfl rfl (Nat.le_of_ble_eq_true rfl) dX7_river_7 rfl (fun hw9 => ?_) (fun hw9 => ?_)
    · skip
      refine j_if_ne (q := 13) (tgt := 15) F dX7_river_10 (by decide) rfl ⟨by decide, by decide⟩ (fun _ => ?_) (fun h => absurd h (by decide))
      refine j_aload_n (q := 16) F dX7_river_15 rfl rfl 0 rfl ?_
      refine j_callVI (q := 19) F [] (ct_X7_laysAll l X hX M hD) gX7_river_X7_laysAll rfl cd_X7_laysAll ⟨by first | exact Nat.le_of_ble_eq_true rfl | (simp only [rm]; omega) | (simp [rm, vI, vR, Value.category]; omega), by first | exact Nat.le_of_ble_eq_true rfl | (simp only [rm]; omega) | (simp [rm, vI, vR, Value.category]; omega), by first | exact Nat.le_of_ble_eq_true rfl | (simp only [rm]; omega) | (simp [rm, vI, vR, Value.category]; omega), by first | exact Nat.le_of_ble_eq_true rfl | (simp only [rm]; omega) | (simp [rm, vI, vR, Value.category]; omega)⟩ md82 rfl rfl rfl (Nat.le_of_ble_eq_true rfl) dX7_river_16 rfl (fun lr Ml hl => ?_)
      have l83 : Ml 83 = M 83 := hl.1 83 (by decide)
      have hLM : LM Ml (Ml 83) := by rw [l83]; exact hl.2.1
      have hDl : DOK (Ml 83) := by rw [l83]; exact hD
      have hlr := LR_bd hD
      have e30 : Ml 83 3 = M 83 3 := by rw [l83]
      refine j_istore_n (q := 20) (lv' := [(0, vR X 82), (1, vI i), (2, vI w), (3, vI lr)]) F dX7_river_19 rfl rfl (by decide) rfl rfl ?_
      refine j_iload_n (q := 21) F dX7_river_20 rfl rfl 1 rfl ?_
      refine j_iload_n (q := 22) F dX7_river_21 rfl rfl 3 rfl ?_
      refine j_icmp_lt (q := 25) (tgt := 28) F dX7_river_22 (by decide) rfl ⟨by omega, by omega⟩ ⟨by omega, by omega⟩ (fun h22_4 => ?_) (fun h22_4 => ?_)
      · skip
        obtain ⟨b0, hF0⟩ := fst_ex (d := M 83) (by omega)
        have hF1 := hF0.1
        have hF2 := hF0.2.1
        have hF3 := hF0.2.2.1
        refine j_iconst (q := 29) F dX7_river_28 rfl ?_
        refine j_istore (q := 31) (lv' := [(0, vR X 82), (1, vI i), (2, vI w), (3, vI lr), (4, vI 0)]) F dX7_river_29 rfl (by decide) rfl rfl ?_
        refine j_sub (lv' := [(0, vR X 82), (1, vI i), (2, vI w), (3, vI lr), (4, vI 0)]) [0, 1, 2, 3, 4] rfl ?_
        have LP31 : ∀ (nn : Nat) (g : Int), (0 ≤ g) → (g ≤ b0) → (b0 - g).toNat < nn → J zp l ze (rm 3) zs zm zargs zbelow zmeth zc 0 0 zQ zs.heap X 8 Ml 31 [(0, vR X 82), (1, vI i), (2, vI w), (3, vI lr), (4, vI g)] [] := by
          intro nn
          induction nn with
          | zero => intro g g0 g1 hm31; exact absurd hm31 (Nat.not_lt_zero _)
          | succ nn ih31 =>
            intro g g0 g1 hm31
            obtain ⟨a1, a2, a3, a4⟩ := lnD_seg hD g0 (show g < M 83 0 by omega)
            have hb1 := hD.bdall (l := lnD (M 83) g + 1) (by omega)
            have hrd9 := RD_bd (M 83) ⟨hL24.1, hL24.2.2⟩ g
            refine j_iload (q := 33) F dX7_river_31 rfl 4 rfl ?_
            refine j_iconst (q := 34) F dX7_river_33 rfl ?_
            refine j_iadd (q := 35) (z := g + 1) F dX7_river_34 rfl rfl ?_
            refine j_aload_n (q := 36) F dX7_river_35 rfl rfl 0 rfl ?_
            refine j_aload_n (q := 37) F dX7_river_36 rfl rfl 0 rfl ?_
            refine j_iload (q := 39) F dX7_river_37 rfl 4 rfl ?_
            refine j_callVE (q := 42) F [vI g] (ct_X7_lineOf l X hX Ml hDl g (by omega) (by rw [l83]; omega)) gX7_river_X7_lineOf rfl cd_X7_lineOf ⟨by first | exact Nat.le_of_ble_eq_true rfl | (simp only [rm]; omega) | (simp [rm, vI, vR, Value.category]; omega), by first | exact Nat.le_of_ble_eq_true rfl | (simp only [rm]; omega) | (simp [rm, vI, vR, Value.category]; omega), by first | exact Nat.le_of_ble_eq_true rfl | (simp only [rm]; omega) | (simp [rm, vI, vR, Value.category]; omega), by first | exact Nat.le_of_ble_eq_true rfl | (simp only [rm]; omega) | (simp [rm, vI, vR, Value.category]; omega)⟩ md82 rfl rfl rfl (Nat.le_of_ble_eq_true rfl) dX7_river_39 rfl ?_
            rw [show lnD (Ml 83) g = lnD (M 83) g from by rw [l83]]
            refine j_callVE (q := 45) F [vI (lnD (M 83) g)] (ct_X7_behind l X hX Ml (by rw [l83]; omega) (lnD (M 83) g) (by omega) (by rw [l83]; omega)) gX7_river_X7_behind rfl cd_X7_behind ⟨by first | exact Nat.le_of_ble_eq_true rfl | (simp only [rm]; omega) | (simp [rm, vI, vR, Value.category]; omega), by first | exact Nat.le_of_ble_eq_true rfl | (simp only [rm]; omega) | (simp [rm, vI, vR, Value.category]; omega), by first | exact Nat.le_of_ble_eq_true rfl | (simp only [rm]; omega) | (simp [rm, vI, vR, Value.category]; omega), by first | exact Nat.le_of_ble_eq_true rfl | (simp only [rm]; omega) | (simp [rm, vI, vR, Value.category]; omega)⟩ md82 rfl rfl rfl (Nat.le_of_ble_eq_true rfl) dX7_river_42 rfl ?_
            rw [show sd (Ml 83) ((lnD (M 83) g) + 1) = sd (M 83) (lnD (M 83) g + 1) from by rw [l83]]
            refine j_icmp_ge (q := 48) (tgt := 59) F dX7_river_45 (by decide) rfl ⟨by omega, by omega⟩ ⟨by omega, by omega⟩ (fun h45_7 => ?_) (fun h45_7 => ?_)
            · skip
              have hne : g ≠ b0 := fun z => by
                rw [← z] at hF3
                first | omega | (have z2 := RD_last hD a1 a2; rw [show sd (M 83) (lnD (M 83) g + 1) - 1 = g by omega] at z2; omega)
              refine j_iinc (q := 62) (lv' := [(0, vR X 82), (1, vI i), (2, vI w), (3, vI lr), (4, vI (g + 1))]) F dX7_river_59 rfl 4 rfl (by decide) rfl rfl ?_
              refine j_goto (q := 31) F dX7_river_62 (by decide) ?_
              exact ih31 (g + 1) (by omega) (by omega) (by omega)
            · skip
              refine j_aload_n (q := 49) F dX7_river_48 rfl rfl 0 rfl ?_
              refine j_getR (q := 52) (z := 89) (index := 29) F md82 rfl in_X7_river_7 8 (by decide) rfl fl_X7_river_29 dX7_river_49 rfl ?_
              refine j_iload (q := 54) F dX7_river_52 rfl 4 rfl ?_
              refine j_iald (q := 55) F ar89 (by omega) (by omega) (by decide) dX7_river_54 rfl ?_
              rw [show Ml 89 g = RD (M 83) g from by exact ((hl.2.1 g (by omega) (by omega)).2 (by omega)).2.2]
              refine j_iload_n (q := 56) F dX7_river_55 rfl rfl 3 rfl ?_
              refine j_icmp_eq (q := 59) (tgt := 65) F dX7_river_56 (by decide) rfl ⟨by omega, by omega⟩ ⟨by omega, by omega⟩ (fun h56_8 => ?_) (fun h56_8 => ?_)
              · skip
                have hgb : g = b0 := by
                  by_cases z : g = b0
                  · exact z
                  · exact absurd (show RD (M 83) g = LR (M 83) by omega) (hF0.2.2.2 g g0 (by omega))
                have hFg : FstR (M 83) g := by rw [hgb]; exact hF0
                refine j_iconst (q := 66) F dX7_river_65 rfl ?_
                refine j_istore (q := 68) (lv' := [(0, vR X 82), (1, vI i), (2, vI w), (3, vI lr), (4, vI g), (5, vI 0)]) F dX7_river_66 rfl (by decide) rfl rfl ?_
                refine j_sub (lv' := [(0, vR X 82), (1, vI i), (2, vI w), (3, vI lr), (4, vI g), (5, vI 0)]) [0, 1, 2, 3, 4, 5] rfl ?_
                have LP68 : ∀ (nn : Nat) (y k : Int), (0 ≤ k) → (k ≤ i) → (RivR (M 83) k y) → (i - k).toNat < nn → J zp l ze (rm 3) zs zm zargs zbelow zmeth zc 0 0 zQ zs.heap X 8 Ml 68 [(0, vR X 82), (1, vI i), (2, vI w), (3, vI lr), (4, vI y), (5, vI k)] [] := by
                  intro nn
                  induction nn with
                  | zero => intro y k k0 k1 hRv hm68; exact absurd hm68 (Nat.not_lt_zero _)
                  | succ nn ih68 =>
                    intro y k k0 k1 hRv hm68
                    have hry := riv_bd hD k0 hRv
                    have hry1 := hry.1
                    have hry2 := hry.2.1
                    have hry3 := hry.2.2
                    obtain ⟨c1, c2, c3, c4⟩ := lnD_seg hD hry1 hry2
                    have hby := hD.bdall c1
                    have hby1 := hD.bdall (l := lnD (M 83) y + 1) (by omega)
                    refine j_iload (q := 70) F dX7_river_68 rfl 5 rfl ?_
                    refine j_iload_n (q := 71) F dX7_river_70 rfl rfl 1 rfl ?_
                    refine j_icmp_ge (q := 74) (tgt := 151) F dX7_river_71 (by decide) rfl ⟨by omega, by omega⟩ ⟨by omega, by omega⟩ (fun h71_9 => ?_) (fun h71_9 => ?_)
                    · skip
                      have hRi : RivR (M 83) i y := by rw [show i = k by omega]; exact hRv
                      refine j_iload_n (q := 152) F dX7_river_151 rfl rfl 2 rfl ?_
                      refine j_if_ne (q := 155) (tgt := 164) F dX7_river_152 (by decide) rfl ⟨by omega, by omega⟩ (fun h152_10 => ?_) (fun h152_10 => ?_)
                      · skip
                        refine j_iload (q := 166) F dX7_river_164 rfl 4 rfl ?_
                        refine j_aload_n (q := 167) F dX7_river_166 rfl rfl 0 rfl ?_
                        refine j_aload_n (q := 168) F dX7_river_167 rfl rfl 0 rfl ?_
                        refine j_iload (q := 170) F dX7_river_168 rfl 4 rfl ?_
                        refine j_callVE (q := 173) F [vI y] (ct_X7_lineOf l X hX Ml hDl y (by omega) (by rw [l83]; omega)) gX7_river_X7_lineOf rfl cd_X7_lineOf ⟨by first | exact Nat.le_of_ble_eq_true rfl | (simp only [rm]; omega) | (simp [rm, vI, vR, Value.category]; omega), by first | exact Nat.le_of_ble_eq_true rfl | (simp only [rm]; omega) | (simp [rm, vI, vR, Value.category]; omega), by first | exact Nat.le_of_ble_eq_true rfl | (simp only [rm]; omega) | (simp [rm, vI, vR, Value.category]; omega), by first | exact Nat.le_of_ble_eq_true rfl | (simp only [rm]; omega) | (simp [rm, vI, vR, Value.category]; omega)⟩ md82 rfl rfl rfl (Nat.le_of_ble_eq_true rfl) dX7_river_170 rfl ?_
                        rw [show lnD (Ml 83) y = lnD (M 83) y from by rw [l83]]
                        refine j_callVE (q := 176) F [vI (lnD (M 83) y)] (ct_X7_first l X hX Ml (lnD (M 83) y) (by omega) (by omega)) gX7_river_X7_first rfl cd_X7_first ⟨by first | exact Nat.le_of_ble_eq_true rfl | (simp only [rm]; omega) | (simp [rm, vI, vR, Value.category]; omega), by first | exact Nat.le_of_ble_eq_true rfl | (simp only [rm]; omega) | (simp [rm, vI, vR, Value.category]; omega), by first | exact Nat.le_of_ble_eq_true rfl | (simp only [rm]; omega) | (simp [rm, vI, vR, Value.category]; omega), by first | exact Nat.le_of_ble_eq_true rfl | (simp only [rm]; omega) | (simp [rm, vI, vR, Value.category]; omega)⟩ md82 rfl rfl rfl (Nat.le_of_ble_eq_true rfl) dX7_river_173 rfl ?_
                        rw [show Ml 83 (28 + (lnD (M 83) y)) = sd (M 83) (lnD (M 83) y) from by rw [l83]; exact (sd_in (by omega)).symm]
                        refine j_isub (q := 177) (z := y - (sd (M 83) (lnD (M 83) y))) F dX7_river_176 rfl rfl ?_
                        exact hret _ _ _ _ dX7_river_177 (by refine mpo_lay hl.1 (fun hsm => ⟨hsm, Or.inr (Or.inr ⟨⟨by omega, by omega, by omega⟩, by omega, y, hRi, (if_neg (by omega)).symm⟩)⟩))
                      · skip
                        refine j_aload_n (q := 156) F dX7_river_155 rfl rfl 0 rfl ?_
                        refine j_iload (q := 158) F dX7_river_156 rfl 4 rfl ?_
                        refine j_callVE (q := 161) F [vI y] (ct_X7_lineOf l X hX Ml hDl y (by omega) (by rw [l83]; omega)) gX7_river_X7_lineOf rfl cd_X7_lineOf ⟨by first | exact Nat.le_of_ble_eq_true rfl | (simp only [rm]; omega) | (simp [rm, vI, vR, Value.category]; omega), by first | exact Nat.le_of_ble_eq_true rfl | (simp only [rm]; omega) | (simp [rm, vI, vR, Value.category]; omega), by first | exact Nat.le_of_ble_eq_true rfl | (simp only [rm]; omega) | (simp [rm, vI, vR, Value.category]; omega), by first | exact Nat.le_of_ble_eq_true rfl | (simp only [rm]; omega) | (simp [rm, vI, vR, Value.category]; omega)⟩ md82 rfl rfl rfl (Nat.le_of_ble_eq_true rfl) dX7_river_158 rfl ?_
                        rw [show lnD (Ml 83) y = lnD (M 83) y from by rw [l83]]
                        refine j_goto (q := 177) F dX7_river_161 (by decide) ?_
                        exact hret _ _ _ _ dX7_river_177 (by refine mpo_lay hl.1 (fun hsm => ⟨hsm, Or.inr (Or.inr ⟨⟨by omega, by omega, by omega⟩, by omega, y, hRi, (if_pos (by omega)).symm⟩)⟩))
                    · skip
                      obtain ⟨t0, ht0, hln1⟩ := step_fst hD hry1 hry2 (by omega)
                      have ht1 := ht0.1
                      have ht2 := ht0.2.1
                      have ht3 := step_gap hD hry1 hry2 hln1 ht0
                      have hyg := rd_gap hD hry1 hry2 (by omega)
                      have hryy := (hl.2.1 y hry1 hry2).2 hyg
                      have hpe : prv (M 83) (lnD (M 83) y) = sd (M 83) (lnD (M 83) y - 1) := if_neg (by omega)
                      have hbp := hD.bdall (l := lnD (M 83) y - 1) (by omega)
                      refine j_aload_n (q := 75) F dX7_river_74 rfl rfl 0 rfl ?_
                      refine j_iload (q := 77) F dX7_river_75 rfl 4 rfl ?_
                      refine j_callVE (q := 80) F [vI y] (ct_X7_lineOf l X hX Ml hDl y (by omega) (by rw [l83]; omega)) gX7_river_X7_lineOf rfl cd_X7_lineOf ⟨by first | exact Nat.le_of_ble_eq_true rfl | (simp only [rm]; omega) | (simp [rm, vI, vR, Value.category]; omega), by first | exact Nat.le_of_ble_eq_true rfl | (simp only [rm]; omega) | (simp [rm, vI, vR, Value.category]; omega), by first | exact Nat.le_of_ble_eq_true rfl | (simp only [rm]; omega) | (simp [rm, vI, vR, Value.category]; omega), by first | exact Nat.le_of_ble_eq_true rfl | (simp only [rm]; omega) | (simp [rm, vI, vR, Value.category]; omega)⟩ md82 rfl rfl rfl (Nat.le_of_ble_eq_true rfl) dX7_river_77 rfl ?_
                      rw [show lnD (Ml 83) y = lnD (M 83) y from by rw [l83]]
                      refine j_istore (q := 82) (lv' := [(0, vR X 82), (1, vI i), (2, vI w), (3, vI lr), (4, vI y), (5, vI k), (6, vI (lnD (M 83) y))]) F dX7_river_80 rfl (by decide) rfl rfl ?_
                      refine j_aload_n (q := 83) F dX7_river_82 rfl rfl 0 rfl ?_
                      refine j_iload (q := 85) F dX7_river_83 rfl 6 rfl ?_
                      refine j_iconst (q := 86) F dX7_river_85 rfl ?_
                      refine j_isub (q := 87) (z := (lnD (M 83) y) - 1) F dX7_river_86 rfl rfl ?_
                      refine j_callVE (q := 90) F [vI ((lnD (M 83) y) - 1)] (ct_X7_first l X hX Ml ((lnD (M 83) y) - 1) (by omega) (by omega)) gX7_river_X7_first rfl cd_X7_first ⟨by first | exact Nat.le_of_ble_eq_true rfl | (simp only [rm]; omega) | (simp [rm, vI, vR, Value.category]; omega), by first | exact Nat.le_of_ble_eq_true rfl | (simp only [rm]; omega) | (simp [rm, vI, vR, Value.category]; omega), by first | exact Nat.le_of_ble_eq_true rfl | (simp only [rm]; omega) | (simp [rm, vI, vR, Value.category]; omega), by first | exact Nat.le_of_ble_eq_true rfl | (simp only [rm]; omega) | (simp [rm, vI, vR, Value.category]; omega)⟩ md82 rfl rfl rfl (Nat.le_of_ble_eq_true rfl) dX7_river_87 rfl ?_
                      rw [show Ml 83 (28 + ((lnD (M 83) y) - 1)) = prv (M 83) (lnD (M 83) y) from by rw [l83]; unfold prv; rw [if_neg (by omega), sd_in (by omega)]]
                      refine j_istore (q := 92) (lv' := [(0, vR X 82), (1, vI i), (2, vI w), (3, vI lr), (4, vI y), (5, vI k), (6, vI (lnD (M 83) y)), (7, vI (prv (M 83) (lnD (M 83) y)))]) F dX7_river_90 rfl (by decide) rfl rfl ?_
                      have LP92 : ∀ (nn : Nat) (u : Int), (prv (M 83) (lnD (M 83) y) ≤ u) → (u ≤ t0) → (t0 - u).toNat < nn → J zp l ze (rm 3) zs zm zargs zbelow zmeth zc 0 0 zQ zs.heap X 8 Ml 92 [(0, vR X 82), (1, vI i), (2, vI w), (3, vI lr), (4, vI y), (5, vI k), (6, vI (lnD (M 83) y)), (7, vI u)] [] := by
                        intro nn
                        induction nn with
                        | zero => intro u u0 u1 hm92; exact absurd hm92 (Nat.not_lt_zero _)
                        | succ nn ih92 =>
                          intro u u0 u1 hm92
                          refine j_iload (q := 94) F dX7_river_92 rfl 7 rfl ?_
                          refine j_iconst (q := 95) F dX7_river_94 rfl ?_
                          refine j_iadd (q := 96) (z := u + 1) F dX7_river_95 rfl rfl ?_
                          refine j_aload_n (q := 97) F dX7_river_96 rfl rfl 0 rfl ?_
                          refine j_iload (q := 99) F dX7_river_97 rfl 6 rfl ?_
                          refine j_callVE (q := 102) F [vI (lnD (M 83) y)] (ct_X7_first l X hX Ml (lnD (M 83) y) (by omega) (by omega)) gX7_river_X7_first rfl cd_X7_first ⟨by first | exact Nat.le_of_ble_eq_true rfl | (simp only [rm]; omega) | (simp [rm, vI, vR, Value.category]; omega), by first | exact Nat.le_of_ble_eq_true rfl | (simp only [rm]; omega) | (simp [rm, vI, vR, Value.category]; omega), by first | exact Nat.le_of_ble_eq_true rfl | (simp only [rm]; omega) | (simp [rm, vI, vR, Value.category]; omega), by first | exact Nat.le_of_ble_eq_true rfl | (simp only [rm]; omega) | (simp [rm, vI, vR, Value.category]; omega)⟩ md82 rfl rfl rfl (Nat.le_of_ble_eq_true rfl) dX7_river_99 rfl ?_
                          rw [show Ml 83 (28 + (lnD (M 83) y)) = sd (M 83) (lnD (M 83) y) from by rw [l83]; exact (sd_in (by omega)).symm]
                          refine j_icmp_ge (q := 105) (tgt := 135) F dX7_river_102 (by decide) rfl ⟨by omega, by omega⟩ ⟨by omega, by omega⟩ (fun h102_17 => ?_) (fun h102_17 => ?_)
                          · skip
                            have hne : u ≠ t0 := fun z => by
                              first | omega | (rw [z] at hm; exact hm ht0.2.2.1.1) | (have z2 := ht0.2.2.1.2; rw [← z] at z2; omega)
                            refine j_iinc (q := 138) (lv' := [(0, vR X 82), (1, vI i), (2, vI w), (3, vI lr), (4, vI y), (5, vI k), (6, vI (lnD (M 83) y)), (7, vI (u + 1))]) F dX7_river_135 rfl 7 rfl (by decide) rfl rfl ?_
                            refine j_goto (q := 92) F dX7_river_138 (by decide) ?_
                            exact ih92 (u + 1) (by omega) (by omega) (by omega)
                          · skip
                            have elu : lnD (M 83) u = lnD (M 83) y - 1 := lnD_eq hD (by omega) (by omega) (by omega) (by rw [show lnD (M 83) y - 1 + 1 = lnD (M 83) y by omega]; omega)
                            have hug : u < sd (M 83) (lnD (M 83) u + 1) - 1 := by rw [elu, show lnD (M 83) y - 1 + 1 = lnD (M 83) y by omega]; omega
                            have hru := (hl.2.1 u (by omega) (by omega)).2 hug
                            have hrdu := RD_bd (M 83) ⟨hL24.1, hL24.2.2⟩ u
                            refine j_aload_n (q := 106) F dX7_river_105 rfl rfl 0 rfl ?_
                            refine j_iload (q := 108) F dX7_river_106 rfl 4 rfl ?_
                            refine j_iload (q := 110) F dX7_river_108 rfl 7 rfl ?_
                            refine j_callVZ (q := 113) F [vI y, vI u] (ct_X7_meets l X hX Ml y u (by omega) (by omega) (by rw [hryy.1, hryy.2.1]; exact gapv_bd hD hry.1 hry.2.1 hyg) (by rw [hru.1, hru.2.1]; exact gapv_bd hD (by omega) (by omega) hug)) gX7_river_X7_meets rfl cd_X7_meets ⟨by first | exact Nat.le_of_ble_eq_true rfl | (simp only [rm]; omega) | (simp [rm, vI, vR, Value.category]; omega), by first | exact Nat.le_of_ble_eq_true rfl | (simp only [rm]; omega) | (simp [rm, vI, vR, Value.category]; omega), by first | exact Nat.le_of_ble_eq_true rfl | (simp only [rm]; omega) | (simp [rm, vI, vR, Value.category]; omega), by first | exact Nat.le_of_ble_eq_true rfl | (simp only [rm]; omega) | (simp [rm, vI, vR, Value.category]; omega)⟩ md82 rfl rfl rfl (Nat.le_of_ble_eq_true rfl) dX7_river_110 rfl (fun hm => ?_) (fun hm => ?_)
                            · skip
                              have hm : mtD (M 83) u y = true := by
                                unfold mtD
                                rw [← hru.1, ← hru.2.1, ← hryy.1, ← hryy.2.1]
                                exact mtB_iff.mpr (mtP_comm.mp hm)
                              refine j_if_eq (q := 116) (tgt := 135) F dX7_river_113 (by decide) rfl ⟨by decide, by decide⟩ (fun h => absurd h (by decide)) (fun _ => ?_)
                              refine j_aload_n (q := 117) F dX7_river_116 rfl rfl 0 rfl ?_
                              refine j_getR (q := 120) (z := 89) (index := 29) F md82 rfl in_X7_river_7 8 (by decide) rfl fl_X7_river_29 dX7_river_117 rfl ?_
                              refine j_iload (q := 122) F dX7_river_120 rfl 7 rfl ?_
                              refine j_iald (q := 123) F ar89 (by omega) (by omega) (by decide) dX7_river_122 rfl ?_
                              rw [show Ml 89 u = RD (M 83) u from by exact ((hl.2.1 u (by omega) (by omega)).2 hug).2.2]
                              refine j_aload_n (q := 124) F dX7_river_123 rfl rfl 0 rfl ?_
                              refine j_getR (q := 127) (z := 89) (index := 29) F md82 rfl in_X7_river_7 8 (by decide) rfl fl_X7_river_29 dX7_river_124 rfl ?_
                              refine j_iload (q := 129) F dX7_river_127 rfl 4 rfl ?_
                              refine j_iald (q := 130) F ar89 (by omega) (by omega) (by decide) dX7_river_129 rfl ?_
                              rw [show Ml 89 y = RD (M 83) y from by exact ((hl.2.1 y (by omega) (by omega)).2 hyg).2.2]
                              refine j_iconst (q := 131) F dX7_river_130 rfl ?_
                              refine j_isub (q := 132) (z := (RD (M 83) y) - 1) F dX7_river_131 rfl rfl ?_
                              refine j_icmp_eq (q := 135) (tgt := 141) F dX7_river_132 (by decide) rfl ⟨by omega, by omega⟩ ⟨by omega, by omega⟩ (fun h132_19 => ?_) (fun h132_19 => ?_)
                              · skip
                                have hut : u = t0 := by
                                  by_cases z : u = t0
                                  · exact z
                                  · exact absurd (show nxD (M 83) y u from ⟨hm, by omega⟩) (ht0.2.2.2 u (by omega) (by omega))
                                have hSt : StepR (M 83) y u := by rw [hut]; exact ht0
                                refine j_iload (q := 143) F dX7_river_141 rfl 7 rfl ?_
                                refine j_istore (q := 145) (lv' := [(0, vR X 82), (1, vI i), (2, vI w), (3, vI lr), (4, vI u), (5, vI k), (6, vI (lnD (M 83) y)), (7, vI u)]) F dX7_river_143 rfl (by decide) rfl rfl ?_
                                refine j_iinc (q := 148) (lv' := [(0, vR X 82), (1, vI i), (2, vI w), (3, vI lr), (4, vI u), (5, vI (k + 1)), (6, vI (lnD (M 83) y)), (7, vI u)]) F dX7_river_145 rfl 5 rfl (by decide) rfl rfl ?_
                                refine j_goto (q := 68) F dX7_river_148 (by decide) ?_
                                refine j_sub (lv' := [(0, vR X 82), (1, vI i), (2, vI w), (3, vI lr), (4, vI u), (5, vI (k + 1))]) [0, 1, 2, 3, 4, 5] rfl ?_
                                exact ih68 u (k + 1) (by omega) (by omega) (by exact riv_next k0 hRv hSt) (by omega)
                              · skip
                                have hne : u ≠ t0 := fun z => by
                                  first | omega | (rw [z] at hm; exact hm ht0.2.2.1.1) | (have z2 := ht0.2.2.1.2; rw [← z] at z2; omega)
                                refine j_iinc (q := 138) (lv' := [(0, vR X 82), (1, vI i), (2, vI w), (3, vI lr), (4, vI y), (5, vI k), (6, vI (lnD (M 83) y)), (7, vI (u + 1))]) F dX7_river_135 rfl 7 rfl (by decide) rfl rfl ?_
                                refine j_goto (q := 92) F dX7_river_138 (by decide) ?_
                                exact ih92 (u + 1) (by omega) (by omega) (by omega)
                            · skip
                              have hm : ¬ mtD (M 83) u y = true := by
                                unfold mtD
                                rw [← hru.1, ← hru.2.1, ← hryy.1, ← hryy.2.1]
                                exact fun z => hm (mtP_comm.mp (mtB_iff.mp z))
                              refine j_if_eq (q := 116) (tgt := 135) F dX7_river_113 (by decide) rfl ⟨by decide, by decide⟩ (fun _ => ?_) (fun h => absurd h (by decide))
                              have hne : u ≠ t0 := fun z => by
                                first | omega | (rw [z] at hm; exact hm ht0.2.2.1.1) | (have z2 := ht0.2.2.1.2; rw [← z] at z2; omega)
                              refine j_iinc (q := 138) (lv' := [(0, vR X 82), (1, vI i), (2, vI w), (3, vI lr), (4, vI y), (5, vI k), (6, vI (lnD (M 83) y)), (7, vI (u + 1))]) F dX7_river_135 rfl 7 rfl (by decide) rfl rfl ?_
                              refine j_goto (q := 92) F dX7_river_138 (by decide) ?_
                              exact ih92 (u + 1) (by omega) (by omega) (by omega)
                      exact LP92 _ (prv (M 83) (lnD (M 83) y)) (by omega) (by omega) (by exact Nat.lt_succ_self _)
                exact LP68 _ g 0 (by omega) (by omega) (by exact riv_0 hFg) (by exact Nat.lt_succ_self _)
              · skip
                have hne : g ≠ b0 := fun z => by
                  rw [← z] at hF3
                  first | omega | (have z2 := RD_last hD a1 a2; rw [show sd (M 83) (lnD (M 83) g + 1) - 1 = g by omega] at z2; omega)
                refine j_iinc (q := 62) (lv' := [(0, vR X 82), (1, vI i), (2, vI w), (3, vI lr), (4, vI (g + 1))]) F dX7_river_59 rfl 4 rfl (by decide) rfl rfl ?_
                refine j_goto (q := 31) F dX7_river_62 (by decide) ?_
                exact ih31 (g + 1) (by omega) (by omega) (by omega)
        exact LP31 _ 0 (by omega) (by omega) (by exact Nat.lt_succ_self _)
      · skip
        refine j_bipush (q := 27) F dX7_river_25 rfl (by decide) ?_
        exact hret _ _ _ _ dX7_river_27 (by refine mpo_lay hl.1 (fun hsm => ⟨hsm, Or.inr (Or.inl ⟨⟨by omega, by omega, by omega⟩, by omega, rfl⟩)⟩))
    · skip
      refine j_if_ne (q := 13) (tgt := 15) F dX7_river_10 (by decide) rfl ⟨by decide, by decide⟩ (fun h => absurd h (by decide)) (fun _ => ?_)
      refine j_iconst (q := 14) F dX7_river_13 rfl ?_
      exact hret _ _ _ _ dX7_river_14 (by refine mpo_of (fun _ _ _ _ => rfl) ⟨SM.rf M, Or.inl ⟨fun z => by have z1 := z.1; have z2 := z.2.1; have z3 := z.2.2; omega, rfl⟩⟩)
