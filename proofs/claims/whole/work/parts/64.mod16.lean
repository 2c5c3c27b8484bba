theorem fl_X7_line_29 : Cond.fieldLink RX7 29 "WhiteRiversModel" "reach" "[I" ∈ wsX7_line := by decide +kernel
theorem fl_X7_line_7 : Cond.fieldLink RX7 7 "WhiteRiversModel" "d" "[I" ∈ wsX7_line := by decide +kernel
theorem in_X7_line_7 : ∀ w ∈ u_ws RX7 TX7 19, w ∈ wsX7_line := by decide +kernel
set_option maxRecDepth 100000 in
set_option maxHeartbeats 1000000 in
theorem ct_X7_line (l : Launch) (X : Cx) (hX : Inj X) (M : Mem) (hD : DOK (M 83)) (n : Int) (hn0 : inR n) (w : Int) (hw0 : inR w) : CtI l X yX7_line wsX7_line 3 [vR X 82, vI n, vI w] M (fun r M' => MPO M (Oline M n w) r M') := by
  refine CtI_of (cc := cX7_line) (maxL := 5) hX (by decide +kernel) rfl (Nat.le_of_ble_eq_true rfl) ?_
  intro zp ze zs zm zargs zbelow zmeth zc zQ F hret
  show J zp l ze (rm 3) zs zm zargs zbelow zmeth zc 0 0 zQ zs.heap X 5 M 0 [(0, vR X 82), (1, vI n), (2, vI w)] []
  have hw := hD.w
  have hnn := hD.1
  have hww := hD.2.1
  have hlen := hw.2.2
  have hL24 := hD.L24
  have hss := hD.2.2.1
  obtain ⟨hn1, hn2⟩ := hn0
  obtain ⟨hw1, hw2⟩ := hw0
  refine j_aload_n (q := 1) F dX7_line_0 rfl rfl 0 rfl ?_
  refine j_iload_n (q := 2) F dX7_line_1 rfl rfl 1 rfl ?_
  refine j_callVZ (q := 5) F [vI n] (ct_X7_isLine l X hX M hD n ⟨by omega, by omega⟩) gX7_line_X7_isLine rfl cd_X7_isLine ⟨by first | exact Nat.le_of_ble_eq_true rfl | (simp only [rm]; omega) | (simp [rm, vI, vR, Value.category]; omega), by first | exact Nat.le_of_ble_eq_true rfl | (simp only [rm]; omega) | (simp [rm, vI, vR, Value.category]; omega), by first | exact Nat.le_of_ble_eq_true rfl | (simp only [rm]; omega) | (simp [rm, vI, vR, Value.category]; omega), by first | exact Nat.le_of_ble_eq_true rfl | (simp only [rm]; omega) | (simp [rm, vI, vR, Value.category]; omega)⟩ md82 rfl rfl rfl (Nat.le_of_ble_eq_true rfl) dX7_line_2 rfl (fun hli => ?_) (fun hli => ?_)
  · skip
    have hbl := hD.bd (l := n) hli.1 (by omega)
    have hbl1 := hD.bd (l := n + 1) (by omega) (by omega)
    have hseg := hD.2.2.2.2.2.2 n hli.1 hli.2
    have hfn : M 83 (28 + n) = sd (M 83) n := (sd_in hli.2).symm
    refine j_if_eq (q := 8) (tgt := 18) F dX7_line_5 (by decide) rfl ⟨by decide, by decide⟩ (fun h => absurd h (by decide)) (fun _ => ?_)
    refine j_iload_n (q := 9) F dX7_line_8 rfl rfl 2 rfl ?_
    refine j_iconst (q := 10) F dX7_line_9 rfl ?_
    refine j_bipush (q := 12) F dX7_line_10 rfl (by decide) ?_
    refine j_callSZ (q := 15) F [vI w, vI 0, vI 6] (ct_X7_in l X hX M w 0 6 ⟨by omega, by omega⟩ ⟨by omega, by omega⟩ ⟨by omega, by omega⟩) gX7_line_X7_in rfl cd_X7_in ⟨by first | exact Nat.le_of_ble_eq_true rfl | (simp only [rm]; omega) | (simp [rm, vI, vR, Value.category]; omega), by first | exact Nat.le_of_ble_eq_true rfl | (simp only [rm]; omega) | (simp [rm, vI, vR, Value.category]; omega), by first | exact Nat.le_of_ble_eq_true rfl | (simp only [rm]; omega) | (simp [rm, vI, vR, Value.category]; omega), by first | exact Nat.le_of_ble_eq_true rfl | (simp only [rm]; omega) | (simp [rm, vI, vR, Value.category]; omega)⟩ rfl rfl (Nat.le_of_ble_eq_true rfl) dX7_line_12 rfl (fun hw1 => ?_) (fun hw1 => ?_)
    · skip
      refine j_if_ne (q := 18) (tgt := 20) F dX7_line_15 (by decide) rfl ⟨by decide, by decide⟩ (fun _ => ?_) (fun h => absurd h (by decide))
      refine j_iload_n (q := 21) F dX7_line_20 rfl rfl 2 rfl ?_
      rcases (show w = 0 ∨ w = 1 ∨ w = 2 ∨ w = 3 ∨ w = 4 ∨ w = 5 ∨ (w < 0 ∨ 5 < w) by omega) with hs_3 | hs_3 | hs_3 | hs_3 | hs_3 | hs_3 | hs_3
      · subst hs_3
        refine j_tableIn (tgt := 60) F dX7_line_21 ⟨by decide, by decide⟩ ⟨by decide, by decide⟩ rfl (by decide) ?_
        refine j_aload_n (q := 61) F dX7_line_60 rfl rfl 0 rfl ?_
        refine j_iload_n (q := 62) F dX7_line_61 rfl rfl 1 rfl ?_
        refine j_callVE (q := 65) F [vI n] (ct_X7_first l X hX M n (by omega) (by omega)) gX7_line_X7_first rfl cd_X7_first ⟨by first | exact Nat.le_of_ble_eq_true rfl | (simp only [rm]; omega) | (simp [rm, vI, vR, Value.category]; omega), by first | exact Nat.le_of_ble_eq_true rfl | (simp only [rm]; omega) | (simp [rm, vI, vR, Value.category]; omega), by first | exact Nat.le_of_ble_eq_true rfl | (simp only [rm]; omega) | (simp [rm, vI, vR, Value.category]; omega), by first | exact Nat.le_of_ble_eq_true rfl | (simp only [rm]; omega) | (simp [rm, vI, vR, Value.category]; omega)⟩ md82 rfl rfl rfl (Nat.le_of_ble_eq_true rfl) dX7_line_62 rfl ?_
        rw [show M 83 (28 + n) = sd (M 83) n from by exact hfn]
        exact hret _ _ _ _ dX7_line_65 (by refine mpo_of (fun _ _ _ _ => rfl) ⟨SM.rf M, Or.inr ⟨hli, (fun z => by first | (exfalso; omega) | rfl), (fun z => by exfalso; omega), (fun z => by exfalso; omega), (fun z => by exfalso; omega), (fun z => by exfalso; omega), (fun z => by exfalso; omega), (fun z => by exfalso; omega), (fun z => by exfalso; omega)⟩⟩)
      · subst hs_3
        refine j_tableIn (tgt := 66) F dX7_line_21 ⟨by decide, by decide⟩ ⟨by decide, by decide⟩ rfl (by decide) ?_
        refine j_aload_n (q := 67) F dX7_line_66 rfl rfl 0 rfl ?_
        refine j_iload_n (q := 68) F dX7_line_67 rfl rfl 1 rfl ?_
        refine j_callVE (q := 71) F [vI n] (ct_X7_behind l X hX M (by omega) n (by omega) (by omega)) gX7_line_X7_behind rfl cd_X7_behind ⟨by first | exact Nat.le_of_ble_eq_true rfl | (simp only [rm]; omega) | (simp [rm, vI, vR, Value.category]; omega), by first | exact Nat.le_of_ble_eq_true rfl | (simp only [rm]; omega) | (simp [rm, vI, vR, Value.category]; omega), by first | exact Nat.le_of_ble_eq_true rfl | (simp only [rm]; omega) | (simp [rm, vI, vR, Value.category]; omega), by first | exact Nat.le_of_ble_eq_true rfl | (simp only [rm]; omega) | (simp [rm, vI, vR, Value.category]; omega)⟩ md82 rfl rfl rfl (Nat.le_of_ble_eq_true rfl) dX7_line_68 rfl ?_
        refine j_aload_n (q := 72) F dX7_line_71 rfl rfl 0 rfl ?_
        refine j_iload_n (q := 73) F dX7_line_72 rfl rfl 1 rfl ?_
        refine j_callVE (q := 76) F [vI n] (ct_X7_first l X hX M n (by omega) (by omega)) gX7_line_X7_first rfl cd_X7_first ⟨by first | exact Nat.le_of_ble_eq_true rfl | (simp only [rm]; omega) | (simp [rm, vI, vR, Value.category]; omega), by first | exact Nat.le_of_ble_eq_true rfl | (simp only [rm]; omega) | (simp [rm, vI, vR, Value.category]; omega), by first | exact Nat.le_of_ble_eq_true rfl | (simp only [rm]; omega) | (simp [rm, vI, vR, Value.category]; omega), by first | exact Nat.le_of_ble_eq_true rfl | (simp only [rm]; omega) | (simp [rm, vI, vR, Value.category]; omega)⟩ md82 rfl rfl rfl (Nat.le_of_ble_eq_true rfl) dX7_line_73 rfl ?_
        rw [show M 83 (28 + n) = sd (M 83) n from by exact hfn]
        refine j_isub (q := 77) (z := (sd (M 83) (n + 1)) - (sd (M 83) n)) F dX7_line_76 rfl rfl ?_
        exact hret _ _ _ _ dX7_line_77 (by refine mpo_of (fun _ _ _ _ => rfl) ⟨SM.rf M, Or.inr ⟨hli, (fun z => by exfalso; omega), (fun z => by first | (exfalso; omega) | rfl), (fun z => by exfalso; omega), (fun z => by exfalso; omega), (fun z => by exfalso; omega), (fun z => by exfalso; omega), (fun z => by exfalso; omega), (fun z => by exfalso; omega)⟩⟩)
      · subst hs_3
        refine j_tableIn (tgt := 78) F dX7_line_21 ⟨by decide, by decide⟩ ⟨by decide, by decide⟩ rfl (by decide) ?_
        refine j_aload_n (q := 79) F dX7_line_78 rfl rfl 0 rfl ?_
        refine j_iload_n (q := 80) F dX7_line_79 rfl rfl 1 rfl ?_
        refine j_callVE (q := 83) F [vI n] (ct_X7_extraOf l X hX M hD n (by omega) (by omega)) gX7_line_X7_extraOf rfl cd_X7_extraOf ⟨by first | exact Nat.le_of_ble_eq_true rfl | (simp only [rm]; omega) | (simp [rm, vI, vR, Value.category]; omega), by first | exact Nat.le_of_ble_eq_true rfl | (simp only [rm]; omega) | (simp [rm, vI, vR, Value.category]; omega), by first | exact Nat.le_of_ble_eq_true rfl | (simp only [rm]; omega) | (simp [rm, vI, vR, Value.category]; omega), by first | exact Nat.le_of_ble_eq_true rfl | (simp only [rm]; omega) | (simp [rm, vI, vR, Value.category]; omega)⟩ md82 rfl rfl rfl (Nat.le_of_ble_eq_true rfl) dX7_line_80 rfl ?_
        exact hret _ _ _ _ dX7_line_83 (by refine mpo_of (fun _ _ _ _ => rfl) ⟨SM.rf M, Or.inr ⟨hli, (fun z => by exfalso; omega), (fun z => by exfalso; omega), (fun z => by first | (exfalso; omega) | rfl), (fun z => by exfalso; omega), (fun z => by exfalso; omega), (fun z => by exfalso; omega), (fun z => by exfalso; omega), (fun z => by exfalso; omega)⟩⟩)
      · subst hs_3
        refine j_tableIn (tgt := 84) F dX7_line_21 ⟨by decide, by decide⟩ ⟨by decide, by decide⟩ rfl (by decide) ?_
        refine j_aload_n (q := 85) F dX7_line_84 rfl rfl 0 rfl ?_
        refine j_iload_n (q := 86) F dX7_line_85 rfl rfl 1 rfl ?_
        refine j_callVE (q := 89) F [vI n] (ct_X7_badOf l X hX M hD n (by omega) (by omega)) gX7_line_X7_badOf rfl cd_X7_badOf ⟨by first | exact Nat.le_of_ble_eq_true rfl | (simp only [rm]; omega) | (simp [rm, vI, vR, Value.category]; omega), by first | exact Nat.le_of_ble_eq_true rfl | (simp only [rm]; omega) | (simp [rm, vI, vR, Value.category]; omega), by first | exact Nat.le_of_ble_eq_true rfl | (simp only [rm]; omega) | (simp [rm, vI, vR, Value.category]; omega), by first | exact Nat.le_of_ble_eq_true rfl | (simp only [rm]; omega) | (simp [rm, vI, vR, Value.category]; omega)⟩ md82 rfl rfl rfl (Nat.le_of_ble_eq_true rfl) dX7_line_86 rfl ?_
        exact hret _ _ _ _ dX7_line_89 (by refine mpo_of (fun _ _ _ _ => rfl) ⟨SM.rf M, Or.inr ⟨hli, (fun z => by exfalso; omega), (fun z => by exfalso; omega), (fun z => by exfalso; omega), (fun z => by first | (exfalso; omega) | rfl), (fun z => by exfalso; omega), (fun z => by exfalso; omega), (fun z => by exfalso; omega), (fun z => by exfalso; omega)⟩⟩)
      · subst hs_3
        refine j_tableIn (tgt := 90) F dX7_line_21 ⟨by decide, by decide⟩ ⟨by decide, by decide⟩ rfl (by decide) ?_
        refine j_aload_n (q := 91) F dX7_line_90 rfl rfl 0 rfl ?_
        refine j_iload_n (q := 92) F dX7_line_91 rfl rfl 1 rfl ?_
        refine j_callVE (q := 95) F [vI n] (ct_X7_behind l X hX M (by omega) n (by omega) (by omega)) gX7_line_X7_behind rfl cd_X7_behind ⟨by first | exact Nat.le_of_ble_eq_true rfl | (simp only [rm]; omega) | (simp [rm, vI, vR, Value.category]; omega), by first | exact Nat.le_of_ble_eq_true rfl | (simp only [rm]; omega) | (simp [rm, vI, vR, Value.category]; omega), by first | exact Nat.le_of_ble_eq_true rfl | (simp only [rm]; omega) | (simp [rm, vI, vR, Value.category]; omega), by first | exact Nat.le_of_ble_eq_true rfl | (simp only [rm]; omega) | (simp [rm, vI, vR, Value.category]; omega)⟩ md82 rfl rfl rfl (Nat.le_of_ble_eq_true rfl) dX7_line_92 rfl ?_
        refine j_aload_n (q := 96) F dX7_line_95 rfl rfl 0 rfl ?_
        refine j_iload_n (q := 97) F dX7_line_96 rfl rfl 1 rfl ?_
        refine j_callVE (q := 100) F [vI n] (ct_X7_first l X hX M n (by omega) (by omega)) gX7_line_X7_first rfl cd_X7_first ⟨by first | exact Nat.le_of_ble_eq_true rfl | (simp only [rm]; omega) | (simp [rm, vI, vR, Value.category]; omega), by first | exact Nat.le_of_ble_eq_true rfl | (simp only [rm]; omega) | (simp [rm, vI, vR, Value.category]; omega), by first | exact Nat.le_of_ble_eq_true rfl | (simp only [rm]; omega) | (simp [rm, vI, vR, Value.category]; omega), by first | exact Nat.le_of_ble_eq_true rfl | (simp only [rm]; omega) | (simp [rm, vI, vR, Value.category]; omega)⟩ md82 rfl rfl rfl (Nat.le_of_ble_eq_true rfl) dX7_line_97 rfl ?_
        rw [show M 83 (28 + n) = sd (M 83) n from by exact hfn]
        refine j_isub (q := 101) (z := (sd (M 83) (n + 1)) - (sd (M 83) n)) F dX7_line_100 rfl rfl ?_
        refine j_iconst (q := 102) F dX7_line_101 rfl ?_
        refine j_isub (q := 103) (z := ((sd (M 83) (n + 1)) - (sd (M 83) n)) - 1) F dX7_line_102 rfl rfl ?_
        exact hret _ _ _ _ dX7_line_103 (by refine mpo_of (fun _ _ _ _ => rfl) ⟨SM.rf M, Or.inr ⟨hli, (fun z => by exfalso; omega), (fun z => by exfalso; omega), (fun z => by exfalso; omega), (fun z => by exfalso; omega), (fun z => by first | (exfalso; omega) | rfl), (fun z => by exfalso; omega), (fun z => by exfalso; omega), (fun z => by exfalso; omega)⟩⟩)
      · subst hs_3
        refine j_tableIn (tgt := 104) F dX7_line_21 ⟨by decide, by decide⟩ ⟨by decide, by decide⟩ rfl (by decide) ?_
        refine j_aload_n (q := 105) F dX7_line_104 rfl rfl 0 rfl ?_
        refine j_getR (q := 108) (z := 83) (index := 7) F md82 rfl in_X7_line_7 0 (by decide) rfl fl_X7_line_7 dX7_line_105 rfl ?_
        refine j_bipush (q := 110) F dX7_line_108 rfl (by decide) ?_
        refine j_iload_n (q := 111) F dX7_line_110 rfl rfl 1 rfl ?_
        refine j_iadd (q := 112) (z := 53 + n) F dX7_line_111 rfl rfl ?_
        refine j_iald (q := 113) F ar83 (by omega) (by omega) (by decide) dX7_line_112 rfl ?_
        exact hret _ _ _ _ dX7_line_113 (by refine mpo_of (fun _ _ _ _ => rfl) ⟨SM.rf M, Or.inr ⟨hli, (fun z => by exfalso; omega), (fun z => by exfalso; omega), (fun z => by exfalso; omega), (fun z => by exfalso; omega), (fun z => by exfalso; omega), (fun z => by first | (exfalso; omega) | rfl), (fun z => by exfalso; omega), (fun z => by exfalso; omega)⟩⟩)
      · skip
        refine j_tableOut (tgt := 114) F dX7_line_21 ⟨by omega, by omega⟩ hs_3 (by decide) ?_
        refine j_aload_n (q := 115) F dX7_line_114 rfl rfl 0 rfl ?_
        refine j_callVI (q := 118) F [] (ct_X7_laysAll l X hX M hD) gX7_line_X7_laysAll rfl cd_X7_laysAll ⟨by first | exact Nat.le_of_ble_eq_true rfl | (simp only [rm]; omega) | (simp [rm, vI, vR, Value.category]; omega), by first | exact Nat.le_of_ble_eq_true rfl | (simp only [rm]; omega) | (simp [rm, vI, vR, Value.category]; omega), by first | exact Nat.le_of_ble_eq_true rfl | (simp only [rm]; omega) | (simp [rm, vI, vR, Value.category]; omega), by first | exact Nat.le_of_ble_eq_true rfl | (simp only [rm]; omega) | (simp [rm, vI, vR, Value.category]; omega)⟩ md82 rfl rfl rfl (Nat.le_of_ble_eq_true rfl) dX7_line_115 rfl (fun lr Ml hl => ?_)
        have l83 : Ml 83 = M 83 := hl.1 83 (by decide)
        have hLM : LM Ml (Ml 83) := by rw [l83]; exact hl.2.1
        have hDl : DOK (Ml 83) := by rw [l83]; exact hD
        have hlr := LR_bd hD
        have e30 : Ml 83 3 = M 83 3 := by rw [l83]
        refine j_pop (q := 119) F dX7_line_118 rfl rfl ?_
        refine j_iconst (q := 120) F dX7_line_119 rfl ?_
        refine j_istore_n (q := 121) (lv' := [(0, vR X 82), (1, vI n), (2, vI w), (3, vI 0)]) F dX7_line_120 rfl rfl (by decide) rfl rfl ?_
        refine j_aload_n (q := 122) F dX7_line_121 rfl rfl 0 rfl ?_
        refine j_iload_n (q := 123) F dX7_line_122 rfl rfl 1 rfl ?_
        refine j_callVE (q := 126) F [vI n] (ct_X7_first l X hX Ml n (by omega) (by omega)) gX7_line_X7_first rfl cd_X7_first ⟨by first | exact Nat.le_of_ble_eq_true rfl | (simp only [rm]; omega) | (simp [rm, vI, vR, Value.category]; omega), by first | exact Nat.le_of_ble_eq_true rfl | (simp only [rm]; omega) | (simp [rm, vI, vR, Value.category]; omega), by first | exact Nat.le_of_ble_eq_true rfl | (simp only [rm]; omega) | (simp [rm, vI, vR, Value.category]; omega), by first | exact Nat.le_of_ble_eq_true rfl | (simp only [rm]; omega) | (simp [rm, vI, vR, Value.category]; omega)⟩ md82 rfl rfl rfl (Nat.le_of_ble_eq_true rfl) dX7_line_123 rfl ?_
        rw [show Ml 83 (28 + n) = sd (M 83) n from by rw [l83]; exact hfn]
        refine j_istore (q := 128) (lv' := [(0, vR X 82), (1, vI n), (2, vI w), (3, vI 0), (4, vI (sd (M 83) n))]) F dX7_line_126 rfl (by decide) rfl rfl ?_
        have LP128 : ∀ (nn : Nat) (best g : Int), (sd (M 83) n ≤ g) → (g ≤ sd (M 83) (n + 1) - 1) → (best = mx (fun _ => true) (RD (M 83)) (sd (M 83) n) g) → (0 ≤ best ∧ best ≤ 24) → (sd (M 83) (n + 1) - g).toNat < nn → J zp l ze (rm 3) zs zm zargs zbelow zmeth zc 0 0 zQ zs.heap X 5 Ml 128 [(0, vR X 82), (1, vI n), (2, vI w), (3, vI best), (4, vI g)] [] := by
          intro nn
          induction nn with
          | zero => intro best g g0 g1 g2 g3 hm128; exact absurd hm128 (Nat.not_lt_zero _)
          | succ nn ih128 =>
            intro best g g0 g1 g2 g3 hm128
            refine j_iload (q := 130) F dX7_line_128 rfl 4 rfl ?_
            refine j_iconst (q := 131) F dX7_line_130 rfl ?_
            refine j_iadd (q := 132) (z := g + 1) F dX7_line_131 rfl rfl ?_
            refine j_aload_n (q := 133) F dX7_line_132 rfl rfl 0 rfl ?_
            refine j_iload_n (q := 134) F dX7_line_133 rfl rfl 1 rfl ?_
            refine j_callVE (q := 137) F [vI n] (ct_X7_behind l X hX Ml (by rw [l83]; omega) n (by omega) (by rw [l83]; omega)) gX7_line_X7_behind rfl cd_X7_behind ⟨by first | exact Nat.le_of_ble_eq_true rfl | (simp only [rm]; omega) | (simp [rm, vI, vR, Value.category]; omega), by first | exact Nat.le_of_ble_eq_true rfl | (simp only [rm]; omega) | (simp [rm, vI, vR, Value.category]; omega), by first | exact Nat.le_of_ble_eq_true rfl | (simp only [rm]; omega) | (simp [rm, vI, vR, Value.category]; omega), by first | exact Nat.le_of_ble_eq_true rfl | (simp only [rm]; omega) | (simp [rm, vI, vR, Value.category]; omega)⟩ md82 rfl rfl rfl (Nat.le_of_ble_eq_true rfl) dX7_line_134 rfl ?_
            rw [show sd (Ml 83) (n + 1) = sd (M 83) (n + 1) from by rw [l83]]
            refine j_icmp_ge (q := 140) (tgt := 169) F dX7_line_137 (by decide) rfl ⟨by omega, by omega⟩ ⟨by omega, by omega⟩ (fun h137_14 => ?_) (fun h137_14 => ?_)
            · skip
              refine j_iload_n (q := 170) F dX7_line_169 rfl rfl 3 rfl ?_
              refine hret _ _ _ _ dX7_line_170 ?_
              · have hmx : best = mx (fun _ => true) (RD (M 83)) (sd (M 83) n) (sd (M 83) (n + 1)) := by
                  have h2 := mx_s (fun _ => true) (RD (M 83)) (show sd (M 83) n ≤ sd (M 83) (n + 1) - 1 by omega)
                  rw [show sd (M 83) (n + 1) - 1 + 1 = sd (M 83) (n + 1) by omega, if_pos rfl, RD_last hD hli.1 hli.2, if_neg (by have : 0 ≤ mx (fun _ => true) (RD (M 83)) (sd (M 83) n) (sd (M 83) (n + 1) - 1) := mx_nn; omega)] at h2
                  rw [h2, g2, show g = sd (M 83) (n + 1) - 1 by omega]
                refine mpo_lay hl.1 (fun hsm => ⟨hsm, Or.inr ⟨hli, (fun z => by exfalso; omega), (fun z => by exfalso; omega), (fun z => by exfalso; omega), (fun z => by exfalso; omega), (fun z => by exfalso; omega), (fun z => by exfalso; omega), (fun z => by first | (exfalso; omega) | exact hmx), (fun z => by exfalso; omega)⟩⟩)
            · skip
              have elg : lnD (M 83) g = n := lnD_eq hD hli.1 hli.2 g0 (by omega)
              have hrd9 := RD_bd (M 83) ⟨hL24.1, hL24.2.2⟩ g
              refine j_aload_n (q := 141) F dX7_line_140 rfl rfl 0 rfl ?_
              refine j_getR (q := 144) (z := 89) (index := 29) F md82 rfl in_X7_line_7 8 (by decide) rfl fl_X7_line_29 dX7_line_141 rfl ?_
              refine j_iload (q := 146) F dX7_line_144 rfl 4 rfl ?_
              refine j_iald (q := 147) F ar89 (by omega) (by omega) (by decide) dX7_line_146 rfl ?_
              rw [show Ml 89 g = RD (M 83) g from by exact ((hl.2.1 g (by omega) (by omega)).2 (by rw [elg]; omega)).2.2]
              refine j_iload_n (q := 148) F dX7_line_147 rfl rfl 3 rfl ?_
              refine j_icmp_le (q := 151) (tgt := 161) F dX7_line_148 (by decide) rfl ⟨by omega, by omega⟩ ⟨by omega, by omega⟩ (fun h148_15 => ?_) (fun h148_15 => ?_)
              · skip
                refine j_iload_n (q := 162) F dX7_line_161 rfl rfl 3 rfl ?_
                refine j_istore_n (q := 163) (lv' := [(0, vR X 82), (1, vI n), (2, vI w), (3, vI best), (4, vI g)]) F dX7_line_162 rfl rfl (by decide) rfl rfl ?_
                refine j_iinc (q := 166) (lv' := [(0, vR X 82), (1, vI n), (2, vI w), (3, vI best), (4, vI (g + 1))]) F dX7_line_163 rfl 4 rfl (by decide) rfl rfl ?_
                refine j_goto (q := 128) F dX7_line_166 (by decide) ?_
                exact ih128 best (g + 1) (by omega) (by omega) (by rw [mx_s _ _ g0, if_pos rfl, ← g2]; split <;> omega) (by omega) (by omega)
              · skip
                refine j_aload_n (q := 152) F dX7_line_151 rfl rfl 0 rfl ?_
                refine j_getR (q := 155) (z := 89) (index := 29) F md82 rfl in_X7_line_7 8 (by decide) rfl fl_X7_line_29 dX7_line_152 rfl ?_
                refine j_iload (q := 157) F dX7_line_155 rfl 4 rfl ?_
                refine j_iald (q := 158) F ar89 (by omega) (by omega) (by decide) dX7_line_157 rfl ?_
                rw [show Ml 89 g = RD (M 83) g from by exact ((hl.2.1 g (by omega) (by omega)).2 (by rw [elg]; omega)).2.2]
                refine j_goto (q := 162) F dX7_line_158 (by decide) ?_
                refine j_istore_n (q := 163) (lv' := [(0, vR X 82), (1, vI n), (2, vI w), (3, vI (RD (M 83) g)), (4, vI g)]) F dX7_line_162 rfl rfl (by decide) rfl rfl ?_
                refine j_iinc (q := 166) (lv' := [(0, vR X 82), (1, vI n), (2, vI w), (3, vI (RD (M 83) g)), (4, vI (g + 1))]) F dX7_line_163 rfl 4 rfl (by decide) rfl rfl ?_
                refine j_goto (q := 128) F dX7_line_166 (by decide) ?_
                exact ih128 (RD (M 83) g) (g + 1) (by omega) (by omega) (by rw [mx_s _ _ g0, if_pos rfl, ← g2]; split <;> omega) (by omega) (by omega)
        exact LP128 _ 0 (sd (M 83) n) (by omega) (by omega) (by exact (mx_0 _ _ (Int.le_refl _)).symm) (by omega) (by exact Nat.lt_succ_self _)
    · skip
      refine j_if_ne (q := 18) (tgt := 20) F dX7_line_15 (by decide) rfl ⟨by decide, by decide⟩ (fun h => absurd h (by decide)) (fun _ => ?_)
      refine j_iconst (q := 19) F dX7_line_18 rfl ?_
      refine hret _ _ _ _ dX7_line_19 ?_
      · by_cases hil : isL (M 83) n
        · have z1 := hil.1; have z2 := hil.2
          first | (exfalso; omega) | exact mpo_of (fun _ _ _ _ => rfl) ⟨SM.rf M, Or.inr ⟨hil, (fun z => by exfalso; omega), (fun z => by exfalso; omega), (fun z => by exfalso; omega), (fun z => by exfalso; omega), (fun z => by exfalso; omega), (fun z => by exfalso; omega), (fun z => by exfalso; omega), fun _ => rfl⟩⟩
        · exact mpo_of (fun _ _ _ _ => rfl) ⟨SM.rf M, Or.inl ⟨hil, rfl⟩⟩
  · skip
    refine j_if_eq (q := 8) (tgt := 18) F dX7_line_5 (by decide) rfl ⟨by decide, by decide⟩ (fun _ => ?_) (fun h => absurd h (by decide))
    refine j_iconst (q := 19) F dX7_line_18 rfl ?_
    refine hret _ _ _ _ dX7_line_19 ?_
    · by_cases hil : isL (M 83) n
      · have z1 := hil.1; have z2 := hil.2
        first | (exfalso; omega) | exact mpo_of (fun _ _ _ _ => rfl) ⟨SM.rf M, Or.inr ⟨hil, (fun z => by exfalso; omega), (fun z => by exfalso; omega), (fun z => by exfalso; omega), (fun z => by exfalso; omega), (fun z => by exfalso; omega), (fun z => by exfalso; omega), (fun z => by exfalso; omega), fun _ => rfl⟩⟩
      · exact mpo_of (fun _ _ _ _ => rfl) ⟨SM.rf M, Or.inl ⟨hil, rfl⟩⟩
