theorem cd_X7_badness : yX7_badness.cls = RX7 ∧ yX7_badness.cls ≠ "java/lang/invoke/MethodHandle" ∧ yX7_badness.cls ≠ "java/lang/invoke/VarHandle" ∧ (parseMethodDescriptor yX7_badness.desc).map (fun d => d.parameters.length) = some 0 := by decide +kernel
theorem cd_X7_gapsWith : yX7_gapsWith.cls = RX7 ∧ yX7_gapsWith.cls ≠ "java/lang/invoke/MethodHandle" ∧ yX7_gapsWith.cls ≠ "java/lang/invoke/VarHandle" ∧ (parseMethodDescriptor yX7_gapsWith.desc).map (fun d => d.parameters.length) = some 1 := by decide +kernel
theorem fl_X7_count_118 : Cond.fieldLink RX7 118 "WhiteRiversModel" "typed" "I" ∈ wsX7_count := by decide +kernel
theorem fl_X7_count_54 : Cond.fieldLink RX7 54 "WhiteRiversModel" "states" "I" ∈ wsX7_count := by decide +kernel
theorem fl_X7_count_7 : Cond.fieldLink RX7 7 "WhiteRiversModel" "d" "[I" ∈ wsX7_count := by decide +kernel
theorem in_X7_count_7 : ∀ w ∈ u_ws RX7 TX7 19, w ∈ wsX7_count := by decide +kernel
set_option maxRecDepth 100000 in
set_option maxHeartbeats 1000000 in
theorem ct_X7_count (l : Launch) (X : Cx) (hX : Inj X) (M : Mem) (hD : DOK (M 83)) (w : Int) (hw0 : inR w) : CtI l X yX7_count wsX7_count 4 [vR X 82, vI w] M (fun r M' => MPO M (Ocount M w) r M') := by
  refine CtI_of (cc := cX7_count) (maxL := 2) hX (by decide +kernel) rfl (Nat.le_of_ble_eq_true rfl) ?_
  intro zp ze zs zm zargs zbelow zmeth zc zQ F hret
  show J zp l ze (rm 4) zs zm zargs zbelow zmeth zc 0 0 zQ zs.heap X 2 M 0 [(0, vR X 82), (1, vI w)] []
  have hw := hD.w
  have hnn := hD.1
  have hww := hD.2.1
  have hlen := hw.2.2
  have hL24 := hD.L24
  have hss := hD.2.2.1
  obtain ⟨hw1, hw2⟩ := hw0
  refine j_iload_n (q := 1) F dX7_count_0 rfl rfl 1 rfl ?_
  rcases (show w = 0 ∨ w = 1 ∨ w = 2 ∨ w = 3 ∨ w = 4 ∨ w = 5 ∨ w = 6 ∨ w = 7 ∨ w = 8 ∨ w = 9 ∨ w = 10 ∨ w = 11 ∨ (w < 0 ∨ 11 < w) by omega) with hs_1 | hs_1 | hs_1 | hs_1 | hs_1 | hs_1 | hs_1 | hs_1 | hs_1 | hs_1 | hs_1 | hs_1 | hs_1
  · subst hs_1
    refine j_tableIn (tgt := 64) F dX7_count_1 ⟨by decide, by decide⟩ ⟨by decide, by decide⟩ rfl (by decide) ?_
    refine j_aload_n (q := 65) F dX7_count_64 rfl rfl 0 rfl ?_
    refine j_getR (q := 68) (z := 83) (index := 7) F md82 rfl in_X7_count_7 0 (by decide) rfl fl_X7_count_7 dX7_count_65 rfl ?_
    refine j_iconst (q := 69) F dX7_count_68 rfl ?_
    refine j_iald (q := 70) F ar83 (by omega) (by omega) (by decide) dX7_count_69 rfl ?_
    exact hret _ _ _ _ dX7_count_70 (by refine mpo_of (fun _ _ _ _ => rfl) ⟨SM.rf M, (fun z => by first | (exfalso; omega) | rfl), (fun z => by exfalso; omega), (fun z => by exfalso; omega), (fun z => by exfalso; omega), (fun z => by exfalso; omega), (fun z => by exfalso; omega), (fun z => by exfalso; omega), (fun z => by exfalso; omega), (fun z => by exfalso; omega), (fun z => by exfalso; omega), (fun z => by exfalso; omega), (fun z => by exfalso; omega), (fun z => by exfalso; omega)⟩)
  · subst hs_1
    refine j_tableIn (tgt := 71) F dX7_count_1 ⟨by decide, by decide⟩ ⟨by decide, by decide⟩ rfl (by decide) ?_
    refine j_aload_n (q := 72) F dX7_count_71 rfl rfl 0 rfl ?_
    refine j_getR (q := 75) (z := 83) (index := 7) F md82 rfl in_X7_count_7 0 (by decide) rfl fl_X7_count_7 dX7_count_72 rfl ?_
    refine j_iconst (q := 76) F dX7_count_75 rfl ?_
    refine j_iald (q := 77) F ar83 (by omega) (by omega) (by decide) dX7_count_76 rfl ?_
    exact hret _ _ _ _ dX7_count_77 (by refine mpo_of (fun _ _ _ _ => rfl) ⟨SM.rf M, (fun z => by exfalso; omega), (fun z => by first | (exfalso; omega) | rfl), (fun z => by exfalso; omega), (fun z => by exfalso; omega), (fun z => by exfalso; omega), (fun z => by exfalso; omega), (fun z => by exfalso; omega), (fun z => by exfalso; omega), (fun z => by exfalso; omega), (fun z => by exfalso; omega), (fun z => by exfalso; omega), (fun z => by exfalso; omega), (fun z => by exfalso; omega)⟩)
  · subst hs_1
    refine j_tableIn (tgt := 78) F dX7_count_1 ⟨by decide, by decide⟩ ⟨by decide, by decide⟩ rfl (by decide) ?_
    refine j_aload_n (q := 79) F dX7_count_78 rfl rfl 0 rfl ?_
    refine j_getR (q := 82) (z := 83) (index := 7) F md82 rfl in_X7_count_7 0 (by decide) rfl fl_X7_count_7 dX7_count_79 rfl ?_
    refine j_iconst (q := 83) F dX7_count_82 rfl ?_
    refine j_iald (q := 84) F ar83 (by omega) (by omega) (by decide) dX7_count_83 rfl ?_
    exact hret _ _ _ _ dX7_count_84 (by refine mpo_of (fun _ _ _ _ => rfl) ⟨SM.rf M, (fun z => by exfalso; omega), (fun z => by exfalso; omega), (fun z => by first | (exfalso; omega) | rfl), (fun z => by exfalso; omega), (fun z => by exfalso; omega), (fun z => by exfalso; omega), (fun z => by exfalso; omega), (fun z => by exfalso; omega), (fun z => by exfalso; omega), (fun z => by exfalso; omega), (fun z => by exfalso; omega), (fun z => by exfalso; omega), (fun z => by exfalso; omega)⟩)
  · subst hs_1
    refine j_tableIn (tgt := 85) F dX7_count_1 ⟨by decide, by decide⟩ ⟨by decide, by decide⟩ rfl (by decide) ?_
    refine j_aload_n (q := 86) F dX7_count_85 rfl rfl 0 rfl ?_
    refine j_getR (q := 89) (z := 83) (index := 7) F md82 rfl in_X7_count_7 0 (by decide) rfl fl_X7_count_7 dX7_count_86 rfl ?_
    refine j_iconst (q := 90) F dX7_count_89 rfl ?_
    refine j_iald (q := 91) F ar83 (by omega) (by omega) (by decide) dX7_count_90 rfl ?_
    exact hret _ _ _ _ dX7_count_91 (by refine mpo_of (fun _ _ _ _ => rfl) ⟨SM.rf M, (fun z => by exfalso; omega), (fun z => by exfalso; omega), (fun z => by exfalso; omega), (fun z => by first | (exfalso; omega) | rfl), (fun z => by exfalso; omega), (fun z => by exfalso; omega), (fun z => by exfalso; omega), (fun z => by exfalso; omega), (fun z => by exfalso; omega), (fun z => by exfalso; omega), (fun z => by exfalso; omega), (fun z => by exfalso; omega), (fun z => by exfalso; omega)⟩)
  · subst hs_1
    refine j_tableIn (tgt := 92) F dX7_count_1 ⟨by decide, by decide⟩ ⟨by decide, by decide⟩ rfl (by decide) ?_
    refine j_aload_n (q := 93) F dX7_count_92 rfl rfl 0 rfl ?_
    refine j_callVE (q := 96) F [] (ct_X7_badness l X hX M hD) gX7_count_X7_badness rfl cd_X7_badness ⟨by first | exact Nat.le_of_ble_eq_true rfl | (simp only [rm]; omega) | (simp [rm, vI, vR, Value.category]; omega), by first | exact Nat.le_of_ble_eq_true rfl | (simp only [rm]; omega) | (simp [rm, vI, vR, Value.category]; omega), by first | exact Nat.le_of_ble_eq_true rfl | (simp only [rm]; omega) | (simp [rm, vI, vR, Value.category]; omega), by first | exact Nat.le_of_ble_eq_true rfl | (simp only [rm]; omega) | (simp [rm, vI, vR, Value.category]; omega)⟩ md82 rfl rfl rfl (Nat.le_of_ble_eq_true rfl) dX7_count_93 rfl ?_
    exact hret _ _ _ _ dX7_count_96 (by refine mpo_of (fun _ _ _ _ => rfl) ⟨SM.rf M, (fun z => by exfalso; omega), (fun z => by exfalso; omega), (fun z => by exfalso; omega), (fun z => by exfalso; omega), (fun z => by first | (exfalso; omega) | rfl), (fun z => by exfalso; omega), (fun z => by exfalso; omega), (fun z => by exfalso; omega), (fun z => by exfalso; omega), (fun z => by exfalso; omega), (fun z => by exfalso; omega), (fun z => by exfalso; omega), (fun z => by exfalso; omega)⟩)
  · subst hs_1
    refine j_tableIn (tgt := 97) F dX7_count_1 ⟨by decide, by decide⟩ ⟨by decide, by decide⟩ rfl (by decide) ?_
    refine j_aload_n (q := 98) F dX7_count_97 rfl rfl 0 rfl ?_
    refine j_callVI (q := 101) F [] (ct_X7_laysAll l X hX M hD) gX7_count_X7_laysAll rfl cd_X7_laysAll ⟨by first | exact Nat.le_of_ble_eq_true rfl | (simp only [rm]; omega) | (simp [rm, vI, vR, Value.category]; omega), by first | exact Nat.le_of_ble_eq_true rfl | (simp only [rm]; omega) | (simp [rm, vI, vR, Value.category]; omega), by first | exact Nat.le_of_ble_eq_true rfl | (simp only [rm]; omega) | (simp [rm, vI, vR, Value.category]; omega), by first | exact Nat.le_of_ble_eq_true rfl | (simp only [rm]; omega) | (simp [rm, vI, vR, Value.category]; omega)⟩ md82 rfl rfl rfl (Nat.le_of_ble_eq_true rfl) dX7_count_98 rfl (fun lr Ml hl => ?_)
    have l83 : Ml 83 = M 83 := hl.1 83 (by decide)
    have hLM : LM Ml (Ml 83) := by rw [l83]; exact hl.2.1
    have hDl : DOK (Ml 83) := by rw [l83]; exact hD
    have hlr := LR_bd hD
    have e30 : Ml 83 3 = M 83 3 := by rw [l83]
    exact hret _ _ _ _ dX7_count_101 (by refine mpo_lay (hl.1) (fun hsm => ⟨hsm, (fun z => by exfalso; omega), (fun z => by exfalso; omega), (fun z => by exfalso; omega), (fun z => by exfalso; omega), (fun z => by exfalso; omega), (fun z => by first | (exfalso; omega) | exact hl.2.2), (fun z => by exfalso; omega), (fun z => by exfalso; omega), (fun z => by exfalso; omega), (fun z => by exfalso; omega), (fun z => by exfalso; omega), (fun z => by exfalso; omega), (fun z => by exfalso; omega)⟩))
  · subst hs_1
    refine j_tableIn (tgt := 102) F dX7_count_1 ⟨by decide, by decide⟩ ⟨by decide, by decide⟩ rfl (by decide) ?_
    refine j_aload_n (q := 103) F dX7_count_102 rfl rfl 0 rfl ?_
    refine j_getR (q := 106) (z := 83) (index := 7) F md82 rfl in_X7_count_7 0 (by decide) rfl fl_X7_count_7 dX7_count_103 rfl ?_
    refine j_iconst (q := 107) F dX7_count_106 rfl ?_
    refine j_iald (q := 108) F ar83 (by omega) (by omega) (by decide) dX7_count_107 rfl ?_
    refine j_aload_n (q := 109) F dX7_count_108 rfl rfl 0 rfl ?_
    refine j_getR (q := 112) (z := 83) (index := 7) F md82 rfl in_X7_count_7 0 (by decide) rfl fl_X7_count_7 dX7_count_109 rfl ?_
    refine j_iconst (q := 113) F dX7_count_112 rfl ?_
    refine j_iald (q := 114) F ar83 (by omega) (by omega) (by decide) dX7_count_113 rfl ?_
    refine j_isub (q := 115) (z := (M 83 0) - (M 83 3)) F dX7_count_114 rfl rfl ?_
    exact hret _ _ _ _ dX7_count_115 (by refine mpo_of (fun _ _ _ _ => rfl) ⟨SM.rf M, (fun z => by exfalso; omega), (fun z => by exfalso; omega), (fun z => by exfalso; omega), (fun z => by exfalso; omega), (fun z => by exfalso; omega), (fun z => by exfalso; omega), (fun z => by first | (exfalso; omega) | rfl), (fun z => by exfalso; omega), (fun z => by exfalso; omega), (fun z => by exfalso; omega), (fun z => by exfalso; omega), (fun z => by exfalso; omega), (fun z => by exfalso; omega)⟩)
  · subst hs_1
    refine j_tableIn (tgt := 116) F dX7_count_1 ⟨by decide, by decide⟩ ⟨by decide, by decide⟩ rfl (by decide) ?_
    refine j_aload_n (q := 117) F dX7_count_116 rfl rfl 0 rfl ?_
    refine j_iconst (q := 118) F dX7_count_117 rfl ?_
    refine j_callVI (q := 121) F [vI 0] (ct_X7_gapsWith l X hX M hD 0 (by omega)) gX7_count_X7_gapsWith rfl cd_X7_gapsWith ⟨by first | exact Nat.le_of_ble_eq_true rfl | (simp only [rm]; omega) | (simp [rm, vI, vR, Value.category]; omega), by first | exact Nat.le_of_ble_eq_true rfl | (simp only [rm]; omega) | (simp [rm, vI, vR, Value.category]; omega), by first | exact Nat.le_of_ble_eq_true rfl | (simp only [rm]; omega) | (simp [rm, vI, vR, Value.category]; omega), by first | exact Nat.le_of_ble_eq_true rfl | (simp only [rm]; omega) | (simp [rm, vI, vR, Value.category]; omega)⟩ md82 rfl rfl rfl (Nat.le_of_ble_eq_true rfl) dX7_count_118 rfl (fun x Mg hg => ?_)
    exact hret _ _ _ _ dX7_count_121 (by refine mpo_lay (hg.1) (fun hsm => ⟨hsm, (fun z => by exfalso; omega), (fun z => by exfalso; omega), (fun z => by exfalso; omega), (fun z => by exfalso; omega), (fun z => by exfalso; omega), (fun z => by exfalso; omega), (fun z => by exfalso; omega), (fun z => by first | (exfalso; omega) | (rw [hg.2]; exact joD_1 _)), (fun z => by exfalso; omega), (fun z => by exfalso; omega), (fun z => by exfalso; omega), (fun z => by exfalso; omega), (fun z => by exfalso; omega)⟩))
  · subst hs_1
    refine j_tableIn (tgt := 122) F dX7_count_1 ⟨by decide, by decide⟩ ⟨by decide, by decide⟩ rfl (by decide) ?_
    refine j_aload_n (q := 123) F dX7_count_122 rfl rfl 0 rfl ?_
    refine j_callVE (q := 126) F [] (ct_X7_frozen l X hX M (by omega)) gX7_count_X7_frozen rfl cd_X7_frozen ⟨by first | exact Nat.le_of_ble_eq_true rfl | (simp only [rm]; omega) | (simp [rm, vI, vR, Value.category]; omega), by first | exact Nat.le_of_ble_eq_true rfl | (simp only [rm]; omega) | (simp [rm, vI, vR, Value.category]; omega), by first | exact Nat.le_of_ble_eq_true rfl | (simp only [rm]; omega) | (simp [rm, vI, vR, Value.category]; omega), by first | exact Nat.le_of_ble_eq_true rfl | (simp only [rm]; omega) | (simp [rm, vI, vR, Value.category]; omega)⟩ md82 rfl rfl rfl (Nat.le_of_ble_eq_true rfl) dX7_count_123 rfl ?_
    exact hret _ _ _ _ dX7_count_126 (by refine mpo_of (fun _ _ _ _ => rfl) ⟨SM.rf M, (fun z => by exfalso; omega), (fun z => by exfalso; omega), (fun z => by exfalso; omega), (fun z => by exfalso; omega), (fun z => by exfalso; omega), (fun z => by exfalso; omega), (fun z => by exfalso; omega), (fun z => by exfalso; omega), (fun z => by first | (exfalso; omega) | rfl), (fun z => by exfalso; omega), (fun z => by exfalso; omega), (fun z => by exfalso; omega), (fun z => by exfalso; omega)⟩)
  · subst hs_1
    refine j_tableIn (tgt := 127) F dX7_count_1 ⟨by decide, by decide⟩ ⟨by decide, by decide⟩ rfl (by decide) ?_
    refine j_aload_n (q := 128) F dX7_count_127 rfl rfl 0 rfl ?_
    refine j_getI (q := 131) (i := 2) (index := 54) F md82 rfl in_X7_count_7 2 (by decide) rfl rfl fl_X7_count_54 dX7_count_128 rfl ?_
    exact hret _ _ _ _ dX7_count_131 (by refine mpo_of (fun _ _ _ _ => rfl) ⟨SM.rf M, (fun z => by exfalso; omega), (fun z => by exfalso; omega), (fun z => by exfalso; omega), (fun z => by exfalso; omega), (fun z => by exfalso; omega), (fun z => by exfalso; omega), (fun z => by exfalso; omega), (fun z => by exfalso; omega), (fun z => by exfalso; omega), (fun z => by first | (exfalso; omega) | rfl), (fun z => by exfalso; omega), (fun z => by exfalso; omega), (fun z => by exfalso; omega)⟩)
  · subst hs_1
    refine j_tableIn (tgt := 132) F dX7_count_1 ⟨by decide, by decide⟩ ⟨by decide, by decide⟩ rfl (by decide) ?_
    refine j_aload_n (q := 133) F dX7_count_132 rfl rfl 0 rfl ?_
    refine j_getI (q := 136) (i := 4) (index := 118) F md82 rfl in_X7_count_7 4 (by decide) rfl rfl fl_X7_count_118 dX7_count_133 rfl ?_
    exact hret _ _ _ _ dX7_count_136 (by refine mpo_of (fun _ _ _ _ => rfl) ⟨SM.rf M, (fun z => by exfalso; omega), (fun z => by exfalso; omega), (fun z => by exfalso; omega), (fun z => by exfalso; omega), (fun z => by exfalso; omega), (fun z => by exfalso; omega), (fun z => by exfalso; omega), (fun z => by exfalso; omega), (fun z => by exfalso; omega), (fun z => by exfalso; omega), (fun z => by first | (exfalso; omega) | rfl), (fun z => by exfalso; omega), (fun z => by exfalso; omega)⟩)
  · subst hs_1
    refine j_tableIn (tgt := 137) F dX7_count_1 ⟨by decide, by decide⟩ ⟨by decide, by decide⟩ rfl (by decide) ?_
    refine j_aload_n (q := 138) F dX7_count_137 rfl rfl 0 rfl ?_
    refine j_callVI (q := 141) F [] (ct_X7_laysAll l X hX M hD) gX7_count_X7_laysAll rfl cd_X7_laysAll ⟨by first | exact Nat.le_of_ble_eq_true rfl | (simp only [rm]; omega) | (simp [rm, vI, vR, Value.category]; omega), by first | exact Nat.le_of_ble_eq_true rfl | (simp only [rm]; omega) | (simp [rm, vI, vR, Value.category]; omega), by first | exact Nat.le_of_ble_eq_true rfl | (simp only [rm]; omega) | (simp [rm, vI, vR, Value.category]; omega), by first | exact Nat.le_of_ble_eq_true rfl | (simp only [rm]; omega) | (simp [rm, vI, vR, Value.category]; omega)⟩ md82 rfl rfl rfl (Nat.le_of_ble_eq_true rfl) dX7_count_138 rfl (fun lr Ml hl => ?_)
    have l83 : Ml 83 = M 83 := hl.1 83 (by decide)
    have hLM : LM Ml (Ml 83) := by rw [l83]; exact hl.2.1
    have hDl : DOK (Ml 83) := by rw [l83]; exact hD
    have hlr := LR_bd hD
    have e30 : Ml 83 3 = M 83 3 := by rw [l83]
    refine j_if_ne (q := 144) (tgt := 148) F dX7_count_141 (by decide) rfl ⟨by omega, by omega⟩ (fun h141_7 => ?_) (fun h141_7 => ?_)
    · skip
      refine j_aload_n (q := 149) F dX7_count_148 rfl rfl 0 rfl ?_
      refine j_aload_n (q := 150) F dX7_count_149 rfl rfl 0 rfl ?_
      refine j_callVI (q := 153) F [] (ct_X7_laysAll l X hX Ml hDl) gX7_count_X7_laysAll rfl cd_X7_laysAll ⟨by first | exact Nat.le_of_ble_eq_true rfl | (simp only [rm]; omega) | (simp [rm, vI, vR, Value.category]; omega), by first | exact Nat.le_of_ble_eq_true rfl | (simp only [rm]; omega) | (simp [rm, vI, vR, Value.category]; omega), by first | exact Nat.le_of_ble_eq_true rfl | (simp only [rm]; omega) | (simp [rm, vI, vR, Value.category]; omega), by first | exact Nat.le_of_ble_eq_true rfl | (simp only [rm]; omega) | (simp [rm, vI, vR, Value.category]; omega)⟩ md82 rfl rfl rfl (Nat.le_of_ble_eq_true rfl) dX7_count_150 rfl (fun lr2 Mm hl2 => ?_)
      have m83 : Mm 83 = M 83 := by rw [hl2.1 83 (by decide)]; exact l83
      have hDm : DOK (Mm 83) := by rw [m83]; exact hD
      have elr2 : lr2 = LR (M 83) := by rw [hl2.2.2, l83]
      refine j_callVI (q := 156) F [vI lr2] (ct_X7_gapsWith l X hX Mm hDm lr2 (by omega)) gX7_count_X7_gapsWith rfl cd_X7_gapsWith ⟨by first | exact Nat.le_of_ble_eq_true rfl | (simp only [rm]; omega) | (simp [rm, vI, vR, Value.category]; omega), by first | exact Nat.le_of_ble_eq_true rfl | (simp only [rm]; omega) | (simp [rm, vI, vR, Value.category]; omega), by first | exact Nat.le_of_ble_eq_true rfl | (simp only [rm]; omega) | (simp [rm, vI, vR, Value.category]; omega), by first | exact Nat.le_of_ble_eq_true rfl | (simp only [rm]; omega) | (simp [rm, vI, vR, Value.category]; omega)⟩ md82 rfl rfl rfl (Nat.le_of_ble_eq_true rfl) dX7_count_153 rfl (fun x Mg hg => ?_)
      refine hret _ _ _ _ dX7_count_156 ?_
      · have z0 : LR (M 83) ≠ 0 := by have := hl.2.2; omega
        have hxx : x = grD (M 83) := by
          rw [hg.2, m83, elr2]
          exact grD_1 hD z0
        refine mpo_lay (fun q a => by rw [hg.1 q a, hl2.1 q a]; exact hl.1 q a) (fun hsm => ⟨hsm, (fun z => by exfalso; omega), (fun z => by exfalso; omega), (fun z => by exfalso; omega), (fun z => by exfalso; omega), (fun z => by exfalso; omega), (fun z => by exfalso; omega), (fun z => by exfalso; omega), (fun z => by exfalso; omega), (fun z => by exfalso; omega), (fun z => by exfalso; omega), (fun z => by exfalso; omega), (fun z => by first | (exfalso; omega) | exact hxx), (fun z => by exfalso; omega)⟩)
    · skip
      refine j_iconst (q := 145) F dX7_count_144 rfl ?_
      refine j_goto (q := 156) F dX7_count_145 (by decide) ?_
      refine hret _ _ _ _ dX7_count_156 ?_
      · have z0 : LR (M 83) = 0 := by have := hl.2.2; omega
        refine mpo_lay (hl.1) (fun hsm => ⟨hsm, (fun z => by exfalso; omega), (fun z => by exfalso; omega), (fun z => by exfalso; omega), (fun z => by exfalso; omega), (fun z => by exfalso; omega), (fun z => by exfalso; omega), (fun z => by exfalso; omega), (fun z => by exfalso; omega), (fun z => by exfalso; omega), (fun z => by exfalso; omega), (fun z => by exfalso; omega), (fun z => by first | (exfalso; omega) | exact (grD_0 z0).symm), (fun z => by exfalso; omega)⟩)
  · skip
    refine j_tableOut (tgt := 157) F dX7_count_1 ⟨by omega, by omega⟩ hs_1 (by decide) ?_
    refine j_iconst (q := 158) F dX7_count_157 rfl ?_
    exact hret _ _ _ _ dX7_count_158 (by refine mpo_of (fun _ _ _ _ => rfl) ⟨SM.rf M, (fun z => by exfalso; omega), (fun z => by exfalso; omega), (fun z => by exfalso; omega), (fun z => by exfalso; omega), (fun z => by exfalso; omega), (fun z => by exfalso; omega), (fun z => by exfalso; omega), (fun z => by exfalso; omega), (fun z => by exfalso; omega), (fun z => by exfalso; omega), (fun z => by exfalso; omega), (fun z => by exfalso; omega), (fun z => by first | (exfalso; omega) | rfl)⟩)
