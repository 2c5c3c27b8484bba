theorem cd_X1_badnessOfAll : yX1_badnessOfAll.cls = RX1 ∧ yX1_badnessOfAll.cls ≠ "java/lang/invoke/MethodHandle" ∧ yX1_badnessOfAll.cls ≠ "java/lang/invoke/VarHandle" ∧ (parseMethodDescriptor yX1_badnessOfAll.desc).map (fun d => d.parameters.length) = some 0 := by decide +kernel
theorem cd_X4_gapsOfGreatestReach : yX4_gapsOfGreatestReach.cls = RX4 ∧ yX4_gapsOfGreatestReach.cls ≠ "java/lang/invoke/MethodHandle" ∧ yX4_gapsOfGreatestReach.cls ≠ "java/lang/invoke/VarHandle" ∧ (parseMethodDescriptor yX4_gapsOfGreatestReach.desc).map (fun d => d.parameters.length) = some 1 := by decide +kernel
theorem cd_X4_joints : yX4_joints.cls = RX4 ∧ yX4_joints.cls ≠ "java/lang/invoke/MethodHandle" ∧ yX4_joints.cls ≠ "java/lang/invoke/VarHandle" ∧ (parseMethodDescriptor yX4_joints.desc).map (fun d => d.parameters.length) = some 1 := by decide +kernel
theorem cd_X4_layAll : yX4_layAll.cls = RX4 ∧ yX4_layAll.cls ≠ "java/lang/invoke/MethodHandle" ∧ yX4_layAll.cls ≠ "java/lang/invoke/VarHandle" ∧ (parseMethodDescriptor yX4_layAll.desc).map (fun d => d.parameters.length) = some 1 := by decide +kernel
theorem fl_X6_count_10 : Cond.fieldLink RX6 10 "WhiteRivers" "page" "LWhiteRivers$Page;" ∈ wsX6_count := by decide +kernel
theorem fl_X6_count_121 : Cond.fieldLink RX6 121 "WhiteRivers$History" "states" "I" ∈ wsX6_count := by decide +kernel
theorem fl_X6_count_124 : Cond.fieldLink RX6 124 "WhiteRivers$Text" "length" "I" ∈ wsX6_count := by decide +kernel
theorem fl_X6_count_19 : Cond.fieldLink RX6 19 "WhiteRivers" "history" "LWhiteRivers$History;" ∈ wsX6_count := by decide +kernel
theorem fl_X6_count_26 : Cond.fieldLink RX6 26 "WhiteRivers" "sheet" "LWhiteRivers$Sheet;" ∈ wsX6_count := by decide +kernel
theorem fl_X6_count_40 : Cond.fieldLink RX6 40 "WhiteRivers" "text" "LWhiteRivers$Text;" ∈ wsX6_count := by decide +kernel
theorem fl_X6_count_55 : Cond.fieldLink RX6 55 "WhiteRivers$Page" "width" "I" ∈ wsX6_count := by decide +kernel
theorem fl_X6_count_65 : Cond.fieldLink RX6 65 "WhiteRivers$Page" "slack" "I" ∈ wsX6_count := by decide +kernel
theorem fl_X6_count_68 : Cond.fieldLink RX6 68 "WhiteRivers$Page" "words" "I" ∈ wsX6_count := by decide +kernel
theorem in_X6_count_0 : ∀ w ∈ u_ws RX0 TX0 2, w ∈ wsX6_count := by decide +kernel
theorem in_X6_count_1 : ∀ w ∈ u_ws RX1 TX1 6, w ∈ wsX6_count := by decide +kernel
theorem in_X6_count_5 : ∀ w ∈ u_ws RX5 TX5 2, w ∈ wsX6_count := by decide +kernel
theorem in_X6_count_6 : ∀ w ∈ u_ws RX6 TX6 5, w ∈ wsX6_count := by decide +kernel
set_option maxRecDepth 100000 in
set_option maxHeartbeats 1000000 in
theorem ct_X6_count (l : Launch) (X : Cx) (hX : Inj X) (M : Mem) (hC : CRel M M) (w : Int) (hw00 : inR w) : CtI l X yX6_count wsX6_count 5 [vR X 0, vI w] M (fun r M' => CPO M (Ocount M w) r M') := by
  refine CtI_of (cc := cX6_count) (maxL := 2) hX (by decide +kernel) rfl (Nat.le_of_ble_eq_true rfl) ?_
  intro zp ze zs zm zargs zbelow zmeth zc zQ F hret
  show J zp l ze (rm 5) zs zm zargs zbelow zmeth zc 0 0 zQ zs.heap X 2 M 0 [(0, vR X 0), (1, vI w)] []
  have hR := hC.1
  have hD := hC.2.1
  have hn : M 1 2 = M 83 0 := hR.2.2.1
  have hw0 : M 1 0 = M 83 1 := hR.1
  have hs0 : M 1 1 = M 83 2 := hR.2.1
  have hnn := hD.1
  have hww := hD.2.1
  have hss := hD.2.2.1
  have hL24 := hD.L24
  have hl8 : ∀ w, 0 ≤ w → w < 24 → 0 ≤ M 3 w ∧ M 3 w ≤ 8 := hR.2.2.2.2.1
  have htot : cnt (M 5) (M 83 0) = M 83 3 := hR.2.2.2.1.total
  have hct : cnt (M 5) (M 1 2) = M 83 3 := by rw [hn]; exact htot
  obtain ⟨hwa, hwb⟩ := hw00
  refine j_aload_n (q := 1) F dX6_count_0 rfl rfl 0 rfl ?_
  refine j_getR (q := 4) (z := 45) (index := 26) F wr0 rfl in_X6_count_6 2 (by decide) rfl fl_X6_count_26 dX6_count_1 rfl ?_
  refine j_aload_n (q := 5) F dX6_count_4 rfl rfl 0 rfl ?_
  refine j_getR (q := 8) (z := 1) (index := 10) F wr0 rfl in_X6_count_6 0 (by decide) rfl fl_X6_count_10 dX6_count_5 rfl ?_
  refine j_callVV (q := 11) F [vR X 1] (ct_X4_layAll l X hX M 45 (sh45) 1 (pg1) (by omega) (M 83) hR hD hC.2.2.2.2.2.1) gX6_count_X4_layAll rfl cd_X4_layAll ⟨by first | exact Nat.le_of_ble_eq_true rfl | (simp only [rm]; omega) | (simp [rm, vI, vR, Value.category]; omega), by first | exact Nat.le_of_ble_eq_true rfl | (simp only [rm]; omega) | (simp [rm, vI, vR, Value.category]; omega), by first | exact Nat.le_of_ble_eq_true rfl | (simp only [rm]; omega) | (simp [rm, vI, vR, Value.category]; omega), by first | exact Nat.le_of_ble_eq_true rfl | (simp only [rm]; omega) | (simp [rm, vI, vR, Value.category]; omega)⟩ (sh45).1 rfl rfl rfl (Nat.le_of_ble_eq_true rfl) dX6_count_8 rfl (fun Ml hl => ?_)
  have lfr : ∀ q, q < 47 ∨ 53 < q → Ml q = M q := fun q hq => hl.2.1 q (by omega) (by omega) (by omega) (by omega)
  have hRl : PRel Ml 1 (M 83) := hR.congr (lfr _ (by decide)) (lfr _ (by decide)) (lfr _ (by decide)) (lfr _ (by decide))
  have l1 : Ml 1 = M 1 := lfr 1 (by decide)
  have l3 : Ml 3 = M 3 := lfr 3 (by decide)
  have l5 : Ml 5 = M 5 := lfr 5 (by decide)
  have l7 : Ml 7 = M 7 := lfr 7 (by decide)
  have ln : Ml 1 2 = M 83 0 := hRl.2.2.1
  have lrd : ∀ w, 0 ≤ w → w < M 83 0 → Ml 53 w = RD (M 83) w := fun w a b => hl.1.reach a b
  have lrb : ∀ w, 0 ≤ w → w < M 83 0 → 0 ≤ Ml 53 w ∧ Ml 53 w ≤ 100 := fun w a b => by rw [lrd w a b]; have := RD_bd (M 83) ⟨hL24.1, hL24.2.2⟩ w; omega
  have hsb := hl.2.2
  refine j_iload_n (q := 12) F dX6_count_11 rfl rfl 1 rfl ?_
  rcases (show w = 0 ∨ w = 1 ∨ w = 2 ∨ w = 3 ∨ w = 4 ∨ w = 5 ∨ w = 6 ∨ w = 7 ∨ w = 8 ∨ w = 9 ∨ w = 10 ∨ w = 11 ∨ (w < 0 ∨ 11 < w) by omega) with hs_2 | hs_2 | hs_2 | hs_2 | hs_2 | hs_2 | hs_2 | hs_2 | hs_2 | hs_2 | hs_2 | hs_2 | hs_2
  · subst hs_2
    refine j_tableIn (tgt := 76) F dX6_count_12 ⟨by decide, by decide⟩ ⟨by decide, by decide⟩ rfl (by decide) ?_
    refine j_aload_n (q := 77) F dX6_count_76 rfl rfl 0 rfl ?_
    refine j_getR (q := 80) (z := 1) (index := 10) F wr0 rfl in_X6_count_6 0 (by decide) rfl fl_X6_count_10 dX6_count_77 rfl ?_
    refine j_getI (q := 83) (i := 2) (index := 68) F (pg1).1 rfl in_X6_count_1 2 (by decide) rfl rfl fl_X6_count_68 dX6_count_80 rfl ?_
    refine hret _ _ _ _ dX6_count_83 ?_
    · refine ⟨fun q hq => lfr q (by omega), fun r' N hO => ?_⟩
      obtain ⟨qs, hO⟩ := hO
      refine ⟨?_, crel_lay hl.2.1 hl.2.2 hC qs⟩
      rcases hO with ⟨o0, o1, o2, o3, o4, o5, o6, o7, o8, o9, o10, o11, o12⟩
      have := o0 rfl; omega
  · subst hs_2
    refine j_tableIn (tgt := 84) F dX6_count_12 ⟨by decide, by decide⟩ ⟨by decide, by decide⟩ rfl (by decide) ?_
    refine j_aload_n (q := 85) F dX6_count_84 rfl rfl 0 rfl ?_
    refine j_getR (q := 88) (z := 1) (index := 10) F wr0 rfl in_X6_count_6 0 (by decide) rfl fl_X6_count_10 dX6_count_85 rfl ?_
    refine j_callVE (q := 91) F [] (ct_X1_lines l X hX Ml 1 (pg1) (by omega)) gX6_count_X1_lines rfl cd_X1_lines ⟨by first | exact Nat.le_of_ble_eq_true rfl | (simp only [rm]; omega) | (simp [rm, vI, vR, Value.category]; omega), by first | exact Nat.le_of_ble_eq_true rfl | (simp only [rm]; omega) | (simp [rm, vI, vR, Value.category]; omega), by first | exact Nat.le_of_ble_eq_true rfl | (simp only [rm]; omega) | (simp [rm, vI, vR, Value.category]; omega), by first | exact Nat.le_of_ble_eq_true rfl | (simp only [rm]; omega) | (simp [rm, vI, vR, Value.category]; omega)⟩ (pg1).1 rfl rfl rfl (Nat.le_of_ble_eq_true rfl) dX6_count_88 rfl ?_
    rw [show cnt (Ml 5) (Ml 1 2) = M 83 3 from by rw [l5, ln]; exact htot]
    refine hret _ _ _ _ dX6_count_91 ?_
    · refine ⟨fun q hq => lfr q (by omega), fun r' N hO => ?_⟩
      obtain ⟨qs, hO⟩ := hO
      refine ⟨?_, crel_lay hl.2.1 hl.2.2 hC qs⟩
      rcases hO with ⟨o0, o1, o2, o3, o4, o5, o6, o7, o8, o9, o10, o11, o12⟩
      have := o1 rfl; omega
  · subst hs_2
    refine j_tableIn (tgt := 92) F dX6_count_12 ⟨by decide, by decide⟩ ⟨by decide, by decide⟩ rfl (by decide) ?_
    refine j_aload_n (q := 93) F dX6_count_92 rfl rfl 0 rfl ?_
    refine j_getR (q := 96) (z := 1) (index := 10) F wr0 rfl in_X6_count_6 0 (by decide) rfl fl_X6_count_10 dX6_count_93 rfl ?_
    refine j_getI (q := 99) (i := 0) (index := 55) F (pg1).1 rfl in_X6_count_1 0 (by decide) rfl rfl fl_X6_count_55 dX6_count_96 rfl ?_
    refine hret _ _ _ _ dX6_count_99 ?_
    · refine ⟨fun q hq => lfr q (by omega), fun r' N hO => ?_⟩
      obtain ⟨qs, hO⟩ := hO
      refine ⟨?_, crel_lay hl.2.1 hl.2.2 hC qs⟩
      rcases hO with ⟨o0, o1, o2, o3, o4, o5, o6, o7, o8, o9, o10, o11, o12⟩
      have := o2 rfl; have z : Ml 1 0 = M 83 1 := hRl.1; omega
  · subst hs_2
    refine j_tableIn (tgt := 100) F dX6_count_12 ⟨by decide, by decide⟩ ⟨by decide, by decide⟩ rfl (by decide) ?_
    refine j_aload_n (q := 101) F dX6_count_100 rfl rfl 0 rfl ?_
    refine j_getR (q := 104) (z := 1) (index := 10) F wr0 rfl in_X6_count_6 0 (by decide) rfl fl_X6_count_10 dX6_count_101 rfl ?_
    refine j_getI (q := 107) (i := 1) (index := 65) F (pg1).1 rfl in_X6_count_1 1 (by decide) rfl rfl fl_X6_count_65 dX6_count_104 rfl ?_
    refine hret _ _ _ _ dX6_count_107 ?_
    · refine ⟨fun q hq => lfr q (by omega), fun r' N hO => ?_⟩
      obtain ⟨qs, hO⟩ := hO
      refine ⟨?_, crel_lay hl.2.1 hl.2.2 hC qs⟩
      rcases hO with ⟨o0, o1, o2, o3, o4, o5, o6, o7, o8, o9, o10, o11, o12⟩
      have := o3 rfl; have z : Ml 1 1 = M 83 2 := hRl.2.1; omega
  · subst hs_2
    refine j_tableIn (tgt := 108) F dX6_count_12 ⟨by decide, by decide⟩ ⟨by decide, by decide⟩ rfl (by decide) ?_
    refine j_aload_n (q := 109) F dX6_count_108 rfl rfl 0 rfl ?_
    refine j_getR (q := 112) (z := 1) (index := 10) F wr0 rfl in_X6_count_6 0 (by decide) rfl fl_X6_count_10 dX6_count_109 rfl ?_
    refine j_callVP (q := 115) F [] (ct_X1_badnessOfAll l X hX Ml 1 (pg1) (by omega) (M 83 3) (sd (M 83)) (by rw [ln]; exact hRl.2.2.2.1)) gX6_count_X1_badnessOfAll rfl cd_X1_badnessOfAll ⟨by first | exact Nat.le_of_ble_eq_true rfl | (simp only [rm]; omega) | (simp [rm, vI, vR, Value.category]; omega), by first | exact Nat.le_of_ble_eq_true rfl | (simp only [rm]; omega) | (simp [rm, vI, vR, Value.category]; omega), by first | exact Nat.le_of_ble_eq_true rfl | (simp only [rm]; omega) | (simp [rm, vI, vR, Value.category]; omega), by first | exact Nat.le_of_ble_eq_true rfl | (simp only [rm]; omega) | (simp [rm, vI, vR, Value.category]; omega)⟩ (pg1).1 rfl rfl rfl (Nat.le_of_ble_eq_true rfl) dX6_count_112 rfl (fun x hx => ?_)
    rw [hx]
    refine hret _ _ _ _ dX6_count_115 ?_
    · refine ⟨fun q hq => lfr q (by omega), fun r' N hO => ?_⟩
      obtain ⟨qs, hO⟩ := hO
      refine ⟨?_, crel_lay hl.2.1 hl.2.2 hC qs⟩
      rcases hO with ⟨o0, o1, o2, o3, o4, o5, o6, o7, o8, o9, o10, o11, o12⟩
      rw [o4 rfl]; exact cnt_congr (fun j a b => bd_eq ln (exD_eq hRl (hD.bdall a).2 (hD.bdall (show 0 ≤ j + 1 by omega)).2) (hD.bdall (show 0 ≤ j + 1 by omega)).2)
  · subst hs_2
    refine j_tableIn (tgt := 116) F dX6_count_12 ⟨by decide, by decide⟩ ⟨by decide, by decide⟩ rfl (by decide) ?_
    refine j_aload_n (q := 117) F dX6_count_116 rfl rfl 0 rfl ?_
    refine j_getR (q := 120) (z := 45) (index := 26) F wr0 rfl in_X6_count_6 2 (by decide) rfl fl_X6_count_26 dX6_count_117 rfl ?_
    refine j_iconst (q := 121) F dX6_count_120 rfl ?_
    refine j_aload_n (q := 122) F dX6_count_121 rfl rfl 0 rfl ?_
    refine j_getR (q := 125) (z := 1) (index := 10) F wr0 rfl in_X6_count_6 0 (by decide) rfl fl_X6_count_10 dX6_count_122 rfl ?_
    refine j_getI (q := 128) (i := 2) (index := 68) F (pg1).1 rfl in_X6_count_1 2 (by decide) rfl rfl fl_X6_count_68 dX6_count_125 rfl ?_
    refine j_callVE (q := 131) F [vI 0, vI (Ml 1 2)] (ct_X4_greatestReach l X hX Ml 45 (sh45) 0 (Ml 1 2) (by omega) (by rw [ln]; exact lrb)) gX6_count_X4_greatestReach rfl cd_X4_greatestReach ⟨by first | exact Nat.le_of_ble_eq_true rfl | (simp only [rm]; omega) | (simp [rm, vI, vR, Value.category]; omega), by first | exact Nat.le_of_ble_eq_true rfl | (simp only [rm]; omega) | (simp [rm, vI, vR, Value.category]; omega), by first | exact Nat.le_of_ble_eq_true rfl | (simp only [rm]; omega) | (simp [rm, vI, vR, Value.category]; omega), by first | exact Nat.le_of_ble_eq_true rfl | (simp only [rm]; omega) | (simp [rm, vI, vR, Value.category]; omega)⟩ (sh45).1 rfl rfl rfl (Nat.le_of_ble_eq_true rfl) dX6_count_128 rfl ?_
    refine hret _ _ _ _ dX6_count_131 ?_
    · refine ⟨fun q hq => lfr q (by omega), fun r' N hO => ?_⟩
      obtain ⟨qs, hO⟩ := hO
      refine ⟨?_, crel_lay hl.2.1 hl.2.2 hC qs⟩
      rcases hO with ⟨o0, o1, o2, o3, o4, o5, o6, o7, o8, o9, o10, o11, o12⟩
      rw [o5 rfl, ln]; exact mx_congr (fun w a b => ⟨rfl, fun _ => lrd w a b⟩)
  · subst hs_2
    refine j_tableIn (tgt := 132) F dX6_count_12 ⟨by decide, by decide⟩ ⟨by decide, by decide⟩ rfl (by decide) ?_
    refine j_aload_n (q := 133) F dX6_count_132 rfl rfl 0 rfl ?_
    refine j_getR (q := 136) (z := 1) (index := 10) F wr0 rfl in_X6_count_6 0 (by decide) rfl fl_X6_count_10 dX6_count_133 rfl ?_
    refine j_getI (q := 139) (i := 2) (index := 68) F (pg1).1 rfl in_X6_count_1 2 (by decide) rfl rfl fl_X6_count_68 dX6_count_136 rfl ?_
    refine j_aload_n (q := 140) F dX6_count_139 rfl rfl 0 rfl ?_
    refine j_getR (q := 143) (z := 1) (index := 10) F wr0 rfl in_X6_count_6 0 (by decide) rfl fl_X6_count_10 dX6_count_140 rfl ?_
    refine j_callVE (q := 146) F [] (ct_X1_lines l X hX Ml 1 (pg1) (by omega)) gX6_count_X1_lines rfl cd_X1_lines ⟨by first | exact Nat.le_of_ble_eq_true rfl | (simp only [rm]; omega) | (simp [rm, vI, vR, Value.category]; omega), by first | exact Nat.le_of_ble_eq_true rfl | (simp only [rm]; omega) | (simp [rm, vI, vR, Value.category]; omega), by first | exact Nat.le_of_ble_eq_true rfl | (simp only [rm]; omega) | (simp [rm, vI, vR, Value.category]; omega), by first | exact Nat.le_of_ble_eq_true rfl | (simp only [rm]; omega) | (simp [rm, vI, vR, Value.category]; omega)⟩ (pg1).1 rfl rfl rfl (Nat.le_of_ble_eq_true rfl) dX6_count_143 rfl ?_
    rw [show cnt (Ml 5) (Ml 1 2) = M 83 3 from by rw [l5, ln]; exact htot]
    refine j_isub (q := 147) (z := (Ml 1 2) - (M 83 3)) F dX6_count_146 rfl rfl ?_
    refine hret _ _ _ _ dX6_count_147 ?_
    · refine ⟨fun q hq => lfr q (by omega), fun r' N hO => ?_⟩
      obtain ⟨qs, hO⟩ := hO
      refine ⟨?_, crel_lay hl.2.1 hl.2.2 hC qs⟩
      rcases hO with ⟨o0, o1, o2, o3, o4, o5, o6, o7, o8, o9, o10, o11, o12⟩
      have := o6 rfl; omega
  · subst hs_2
    refine j_tableIn (tgt := 148) F dX6_count_12 ⟨by decide, by decide⟩ ⟨by decide, by decide⟩ rfl (by decide) ?_
    refine j_aload_n (q := 149) F dX6_count_148 rfl rfl 0 rfl ?_
    refine j_getR (q := 152) (z := 45) (index := 26) F wr0 rfl in_X6_count_6 2 (by decide) rfl fl_X6_count_26 dX6_count_149 rfl ?_
    refine j_aload_n (q := 153) F dX6_count_152 rfl rfl 0 rfl ?_
    refine j_getR (q := 156) (z := 1) (index := 10) F wr0 rfl in_X6_count_6 0 (by decide) rfl fl_X6_count_10 dX6_count_153 rfl ?_
    refine j_callVP (q := 159) F [vR X 1] (ct_X4_joints l X hX Ml 45 (sh45) 1 (pg1) (by omega) (M 83) hRl hD hsb) gX6_count_X4_joints rfl cd_X4_joints ⟨by first | exact Nat.le_of_ble_eq_true rfl | (simp only [rm]; omega) | (simp [rm, vI, vR, Value.category]; omega), by first | exact Nat.le_of_ble_eq_true rfl | (simp only [rm]; omega) | (simp [rm, vI, vR, Value.category]; omega), by first | exact Nat.le_of_ble_eq_true rfl | (simp only [rm]; omega) | (simp [rm, vI, vR, Value.category]; omega), by first | exact Nat.le_of_ble_eq_true rfl | (simp only [rm]; omega) | (simp [rm, vI, vR, Value.category]; omega)⟩ (sh45).1 rfl rfl rfl (Nat.le_of_ble_eq_true rfl) dX6_count_156 rfl (fun x hx => ?_)
    rw [hx]
    refine hret _ _ _ _ dX6_count_159 ?_
    · refine ⟨fun q hq => lfr q (by omega), fun r' N hO => ?_⟩
      obtain ⟨qs, hO⟩ := hO
      refine ⟨?_, crel_lay hl.2.1 hl.2.2 hC qs⟩
      rcases hO with ⟨o0, o1, o2, o3, o4, o5, o6, o7, o8, o9, o10, o11, o12⟩
      rw [o7 rfl]; exact cnt_congr (fun w a b => by rw [ab_eq hD hl.1 a b])
  · subst hs_2
    refine j_tableIn (tgt := 160) F dX6_count_12 ⟨by decide, by decide⟩ ⟨by decide, by decide⟩ rfl (by decide) ?_
    refine j_aload_n (q := 161) F dX6_count_160 rfl rfl 0 rfl ?_
    refine j_getR (q := 164) (z := 1) (index := 10) F wr0 rfl in_X6_count_6 0 (by decide) rfl fl_X6_count_10 dX6_count_161 rfl ?_
    refine j_callVE (q := 167) F [] (ct_X1_frozenLines l X hX Ml 1 (pg1) (by omega)) gX6_count_X1_frozenLines rfl cd_X1_frozenLines ⟨by first | exact Nat.le_of_ble_eq_true rfl | (simp only [rm]; omega) | (simp [rm, vI, vR, Value.category]; omega), by first | exact Nat.le_of_ble_eq_true rfl | (simp only [rm]; omega) | (simp [rm, vI, vR, Value.category]; omega), by first | exact Nat.le_of_ble_eq_true rfl | (simp only [rm]; omega) | (simp [rm, vI, vR, Value.category]; omega), by first | exact Nat.le_of_ble_eq_true rfl | (simp only [rm]; omega) | (simp [rm, vI, vR, Value.category]; omega)⟩ (pg1).1 rfl rfl rfl (Nat.le_of_ble_eq_true rfl) dX6_count_164 rfl ?_
    refine hret _ _ _ _ dX6_count_167 ?_
    · refine ⟨fun q hq => lfr q (by omega), fun r' N hO => ?_⟩
      obtain ⟨qs, hO⟩ := hO
      refine ⟨?_, crel_lay hl.2.1 hl.2.2 hC qs⟩
      rcases hO with ⟨o0, o1, o2, o3, o4, o5, o6, o7, o8, o9, o10, o11, o12⟩
      rw [o8 rfl, ln]; exact frc_eq hRl hD
  · subst hs_2
    refine j_tableIn (tgt := 168) F dX6_count_12 ⟨by decide, by decide⟩ ⟨by decide, by decide⟩ rfl (by decide) ?_
    refine j_aload_n (q := 169) F dX6_count_168 rfl rfl 0 rfl ?_
    refine j_getR (q := 172) (z := 8) (index := 19) F wr0 rfl in_X6_count_6 1 (by decide) rfl fl_X6_count_19 dX6_count_169 rfl ?_
    refine j_getI (q := 175) (i := 0) (index := 121) F hi8 rfl in_X6_count_0 0 (by decide) rfl rfl fl_X6_count_121 dX6_count_172 rfl ?_
    refine hret _ _ _ _ dX6_count_175 ?_
    · refine ⟨fun q hq => lfr q (by omega), fun r' N hO => ?_⟩
      obtain ⟨qs, hO⟩ := hO
      refine ⟨?_, crel_lay hl.2.1 hl.2.2 hC qs⟩
      rcases hO with ⟨o0, o1, o2, o3, o4, o5, o6, o7, o8, o9, o10, o11, o12⟩
      rw [o9 rfl, lfr 8 (by decide)]; exact hC.2.2.1.2.2.1
  · subst hs_2
    refine j_tableIn (tgt := 176) F dX6_count_12 ⟨by decide, by decide⟩ ⟨by decide, by decide⟩ rfl (by decide) ?_
    refine j_aload_n (q := 177) F dX6_count_176 rfl rfl 0 rfl ?_
    refine j_getR (q := 180) (z := 79) (index := 40) F wr0 rfl in_X6_count_6 4 (by decide) rfl fl_X6_count_40 dX6_count_177 rfl ?_
    refine j_getI (q := 183) (i := 0) (index := 124) F tx79 rfl in_X6_count_5 0 (by decide) rfl rfl fl_X6_count_124 dX6_count_180 rfl ?_
    refine hret _ _ _ _ dX6_count_183 ?_
    · refine ⟨fun q hq => lfr q (by omega), fun r' N hO => ?_⟩
      obtain ⟨qs, hO⟩ := hO
      refine ⟨?_, crel_lay hl.2.1 hl.2.2 hC qs⟩
      rcases hO with ⟨o0, o1, o2, o3, o4, o5, o6, o7, o8, o9, o10, o11, o12⟩
      rw [o10 rfl, lfr 79 (by decide)]; exact hC.2.2.2.1.2.2.1
  · subst hs_2
    refine j_tableIn (tgt := 184) F dX6_count_12 ⟨by decide, by decide⟩ ⟨by decide, by decide⟩ rfl (by decide) ?_
    refine j_aload_n (q := 185) F dX6_count_184 rfl rfl 0 rfl ?_
    refine j_getR (q := 188) (z := 45) (index := 26) F wr0 rfl in_X6_count_6 2 (by decide) rfl fl_X6_count_26 dX6_count_185 rfl ?_
    refine j_aload_n (q := 189) F dX6_count_188 rfl rfl 0 rfl ?_
    refine j_getR (q := 192) (z := 1) (index := 10) F wr0 rfl in_X6_count_6 0 (by decide) rfl fl_X6_count_10 dX6_count_189 rfl ?_
    refine j_getI (q := 195) (i := 2) (index := 68) F (pg1).1 rfl in_X6_count_1 2 (by decide) rfl rfl fl_X6_count_68 dX6_count_192 rfl ?_
    refine j_callVP (q := 198) F [vI (Ml 1 2)] (ct_X4_gapsOfGreatestReach l X hX Ml 45 (sh45) (Ml 1 2) (by omega) (by rw [ln]; exact lrb)) gX6_count_X4_gapsOfGreatestReach rfl cd_X4_gapsOfGreatestReach ⟨by first | exact Nat.le_of_ble_eq_true rfl | (simp only [rm]; omega) | (simp [rm, vI, vR, Value.category]; omega), by first | exact Nat.le_of_ble_eq_true rfl | (simp only [rm]; omega) | (simp [rm, vI, vR, Value.category]; omega), by first | exact Nat.le_of_ble_eq_true rfl | (simp only [rm]; omega) | (simp [rm, vI, vR, Value.category]; omega), by first | exact Nat.le_of_ble_eq_true rfl | (simp only [rm]; omega) | (simp [rm, vI, vR, Value.category]; omega)⟩ (sh45).1 rfl rfl rfl (Nat.le_of_ble_eq_true rfl) dX6_count_195 rfl (fun x hx => ?_)
    rw [hx]
    refine hret _ _ _ _ dX6_count_198 ?_
    · refine ⟨fun q hq => lfr q (by omega), fun r' N hO => ?_⟩
      obtain ⟨qs, hO⟩ := hO
      refine ⟨?_, crel_lay hl.2.1 hl.2.2 hC qs⟩
      rcases hO with ⟨o0, o1, o2, o3, o4, o5, o6, o7, o8, o9, o10, o11, o12⟩
      rw [o11 rfl, ln]
      have e : mx (fun _ => true) (Ml (45 + 8)) 0 (M 83 0) = LR (M 83) := mx_congr (fun w a b => ⟨rfl, fun _ => lrd w a b⟩)
      unfold grD
      exact cnt_congr (fun w a b => by rw [e, show Ml (45 + 8) w = RD (M 83) w from lrd w a b])
  · skip
    refine j_tableOut (tgt := 199) F dX6_count_12 ⟨by omega, by omega⟩ hs_2 (by decide) ?_
    refine j_iconst (q := 200) F dX6_count_199 rfl ?_
    refine hret _ _ _ _ dX6_count_200 ?_
    · refine ⟨fun q hq => lfr q (by omega), fun r' N hO => ?_⟩
      obtain ⟨qs, hO⟩ := hO
      refine ⟨?_, crel_lay hl.2.1 hl.2.2 hC qs⟩
      rcases hO with ⟨o0, o1, o2, o3, o4, o5, o6, o7, o8, o9, o10, o11, o12⟩
      exact (o12 (by omega)).symm
theorem cd_X4_columnOf : yX4_columnOf.cls = RX4 ∧ yX4_columnOf.cls ≠ "java/lang/invoke/MethodHandle" ∧ yX4_columnOf.cls ≠ "java/lang/invoke/VarHandle" ∧ (parseMethodDescriptor yX4_columnOf.desc).map (fun d => d.parameters.length) = some 1 := by decide +kernel
theorem fl_X6_word_10 : Cond.fieldLink RX6 10 "WhiteRivers" "page" "LWhiteRivers$Page;" ∈ wsX6_word := by decide +kernel
theorem fl_X6_word_26 : Cond.fieldLink RX6 26 "WhiteRivers" "sheet" "LWhiteRivers$Sheet;" ∈ wsX6_word := by decide +kernel
theorem fl_X6_word_68 : Cond.fieldLink RX6 68 "WhiteRivers$Page" "words" "I" ∈ wsX6_word := by decide +kernel
theorem in_X6_word_1 : ∀ w ∈ u_ws RX1 TX1 6, w ∈ wsX6_word := by decide +kernel
theorem in_X6_word_6 : ∀ w ∈ u_ws RX6 TX6 5, w ∈ wsX6_word := by decide +kernel
set_option maxRecDepth 100000 in
set_option maxHeartbeats 400000 in
theorem ct_X6_word (l : Launch) (X : Cx) (hX : Inj X) (M : Mem) (hC : CRel M M) (k w : Int) (hk0 : inR k) (hw00 : inR w) : CtI l X yX6_word wsX6_word 5 [vR X 0, vI k, vI w] M (fun r M' => CPO M (Oword M k w) r M') := by
  refine CtI_of (cc := cX6_word) (maxL := 3) hX (by decide +kernel) rfl (Nat.le_of_ble_eq_true rfl) ?_
  intro zp ze zs zm zargs zbelow zmeth zc zQ F hret
  show J zp l ze (rm 5) zs zm zargs zbelow zmeth zc 0 0 zQ zs.heap X 3 M 0 [(0, vR X 0), (1, vI k), (2, vI w)] []
  have hR := hC.1
  have hD := hC.2.1
  have hn : M 1 2 = M 83 0 := hR.2.2.1
  have hw0 : M 1 0 = M 83 1 := hR.1
  have hs0 : M 1 1 = M 83 2 := hR.2.1
  have hnn := hD.1
  have hww := hD.2.1
  have hss := hD.2.2.1
  have hL24 := hD.L24
  have hl8 : ∀ w, 0 ≤ w → w < 24 → 0 ≤ M 3 w ∧ M 3 w ≤ 8 := hR.2.2.2.2.1
  have htot : cnt (M 5) (M 83 0) = M 83 3 := hR.2.2.2.1.total
  have hct : cnt (M 5) (M 1 2) = M 83 3 := by rw [hn]; exact htot
  obtain ⟨hka, hkb⟩ := hk0
  obtain ⟨hwa, hwb⟩ := hw00
  refine j_iload_n (q := 1) F dX6_word_0 rfl rfl 1 rfl ?_
  refine j_iconst (q := 2) F dX6_word_1 rfl ?_
  refine j_aload_n (q := 3) F dX6_word_2 rfl rfl 0 rfl ?_
  refine j_getR (q := 6) (z := 1) (index := 10) F wr0 rfl in_X6_word_6 0 (by decide) rfl fl_X6_word_10 dX6_word_3 rfl ?_
  refine j_getI (q := 9) (i := 2) (index := 68) F (pg1).1 rfl in_X6_word_1 2 (by decide) rfl rfl fl_X6_word_68 dX6_word_6 rfl ?_
  refine j_iconst (q := 10) F dX6_word_9 rfl ?_
  refine j_isub (q := 11) (z := (M 1 2) - 1) F dX6_word_10 rfl rfl ?_
  refine j_callSZ (q := 14) F [vI k, vI 0, vI ((M 1 2) - 1)] (ct_X6_isWithin l X hX M k 0 ((M 1 2) - 1) ⟨by omega, by omega⟩ ⟨by omega, by omega⟩ ⟨by omega, by omega⟩) gX6_word_X6_isWithin rfl cd_X6_isWithin ⟨by first | exact Nat.le_of_ble_eq_true rfl | (simp only [rm]; omega) | (simp [rm, vI, vR, Value.category]; omega), by first | exact Nat.le_of_ble_eq_true rfl | (simp only [rm]; omega) | (simp [rm, vI, vR, Value.category]; omega), by first | exact Nat.le_of_ble_eq_true rfl | (simp only [rm]; omega) | (simp [rm, vI, vR, Value.category]; omega), by first | exact Nat.le_of_ble_eq_true rfl | (simp only [rm]; omega) | (simp [rm, vI, vR, Value.category]; omega)⟩ rfl rfl (Nat.le_of_ble_eq_true rfl) dX6_word_11 rfl (fun hwi => ?_) (fun hwi => ?_)
  · skip
    refine j_if_ne (q := 17) (tgt := 19) F dX6_word_14 (by decide) rfl ⟨by decide, by decide⟩ (fun _ => ?_) (fun h => absurd h (by decide))
    refine j_aload_n (q := 20) F dX6_word_19 rfl rfl 0 rfl ?_
    refine j_getR (q := 23) (z := 45) (index := 26) F wr0 rfl in_X6_word_6 2 (by decide) rfl fl_X6_word_26 dX6_word_20 rfl ?_
    refine j_aload_n (q := 24) F dX6_word_23 rfl rfl 0 rfl ?_
    refine j_getR (q := 27) (z := 1) (index := 10) F wr0 rfl in_X6_word_6 0 (by decide) rfl fl_X6_word_10 dX6_word_24 rfl ?_
    refine j_callVV (q := 30) F [vR X 1] (ct_X4_layAll l X hX M 45 (sh45) 1 (pg1) (by omega) (M 83) hR hD hC.2.2.2.2.2.1) gX6_word_X4_layAll rfl cd_X4_layAll ⟨by first | exact Nat.le_of_ble_eq_true rfl | (simp only [rm]; omega) | (simp [rm, vI, vR, Value.category]; omega), by first | exact Nat.le_of_ble_eq_true rfl | (simp only [rm]; omega) | (simp [rm, vI, vR, Value.category]; omega), by first | exact Nat.le_of_ble_eq_true rfl | (simp only [rm]; omega) | (simp [rm, vI, vR, Value.category]; omega), by first | exact Nat.le_of_ble_eq_true rfl | (simp only [rm]; omega) | (simp [rm, vI, vR, Value.category]; omega)⟩ (sh45).1 rfl rfl rfl (Nat.le_of_ble_eq_true rfl) dX6_word_27 rfl (fun Ml hl => ?_)
    have lfr : ∀ q, q < 47 ∨ 53 < q → Ml q = M q := fun q hq => hl.2.1 q (by omega) (by omega) (by omega) (by omega)
    have hRl : PRel Ml 1 (M 83) := hR.congr (lfr _ (by decide)) (lfr _ (by decide)) (lfr _ (by decide)) (lfr _ (by decide))
    have l1 : Ml 1 = M 1 := lfr 1 (by decide)
    have l3 : Ml 3 = M 3 := lfr 3 (by decide)
    have l5 : Ml 5 = M 5 := lfr 5 (by decide)
    have l7 : Ml 7 = M 7 := lfr 7 (by decide)
    have ln : Ml 1 2 = M 83 0 := hRl.2.2.1
    have lrd : ∀ w, 0 ≤ w → w < M 83 0 → Ml 53 w = RD (M 83) w := fun w a b => hl.1.reach a b
    have lrb : ∀ w, 0 ≤ w → w < M 83 0 → 0 ≤ Ml 53 w ∧ Ml 53 w ≤ 100 := fun w a b => by rw [lrd w a b]; have := RD_bd (M 83) ⟨hL24.1, hL24.2.2⟩ w; omega
    have hsb := hl.2.2
    refine j_iload_n (q := 31) F dX6_word_30 rfl rfl 2 rfl ?_
    rcases (show w = 0 ∨ w = 1 ∨ w = 2 ∨ (w < 0 ∨ 2 < w) by omega) with hs_3 | hs_3 | hs_3 | hs_3
    · subst hs_3
      refine j_tableIn (tgt := 56) F dX6_word_31 ⟨by decide, by decide⟩ ⟨by decide, by decide⟩ rfl (by decide) ?_
      refine j_aload_n (q := 57) F dX6_word_56 rfl rfl 0 rfl ?_
      refine j_getR (q := 60) (z := 1) (index := 10) F wr0 rfl in_X6_word_6 0 (by decide) rfl fl_X6_word_10 dX6_word_57 rfl ?_
      refine j_iload_n (q := 61) F dX6_word_60 rfl rfl 1 rfl ?_
      refine j_callVE (q := 64) F [vI k] (ct_X1_lengthOf l X hX Ml 1 (pg1) k (by omega) (by omega)) gX6_word_X1_lengthOf rfl cd_X1_lengthOf ⟨by first | exact Nat.le_of_ble_eq_true rfl | (simp only [rm]; omega) | (simp [rm, vI, vR, Value.category]; omega), by first | exact Nat.le_of_ble_eq_true rfl | (simp only [rm]; omega) | (simp [rm, vI, vR, Value.category]; omega), by first | exact Nat.le_of_ble_eq_true rfl | (simp only [rm]; omega) | (simp [rm, vI, vR, Value.category]; omega), by first | exact Nat.le_of_ble_eq_true rfl | (simp only [rm]; omega) | (simp [rm, vI, vR, Value.category]; omega)⟩ (pg1).1 rfl rfl rfl (Nat.le_of_ble_eq_true rfl) dX6_word_61 rfl ?_
      refine hret _ _ _ _ dX6_word_64 ?_
      · refine ⟨fun q hq => lfr q (by omega), fun r' N hO => ?_⟩
        obtain ⟨qs, hO⟩ := hO
        refine ⟨?_, crel_lay hl.2.1 hl.2.2 hC qs⟩
        rcases hO with ⟨o0, o1⟩ | ⟨o0, o1, o2, o3, o4⟩
        · exfalso; omega
        · rw [o1 rfl]; show Ml 3 k = _; rw [l3]; exact hR.2.2.2.2.2.1 k o0.1 o0.2
    · subst hs_3
      refine j_tableIn (tgt := 65) F dX6_word_31 ⟨by decide, by decide⟩ ⟨by decide, by decide⟩ rfl (by decide) ?_
      refine j_aload_n (q := 66) F dX6_word_65 rfl rfl 0 rfl ?_
      refine j_getR (q := 69) (z := 1) (index := 10) F wr0 rfl in_X6_word_6 0 (by decide) rfl fl_X6_word_10 dX6_word_66 rfl ?_
      refine j_iload_n (q := 70) F dX6_word_69 rfl rfl 1 rfl ?_
      refine j_callVE (q := 73) F [vI k] (ct_X1_lineOf l X hX Ml 1 (pg1) (by omega) k (by omega) (by omega)) gX6_word_X1_lineOf rfl cd_X1_lineOf ⟨by first | exact Nat.le_of_ble_eq_true rfl | (simp only [rm]; omega) | (simp [rm, vI, vR, Value.category]; omega), by first | exact Nat.le_of_ble_eq_true rfl | (simp only [rm]; omega) | (simp [rm, vI, vR, Value.category]; omega), by first | exact Nat.le_of_ble_eq_true rfl | (simp only [rm]; omega) | (simp [rm, vI, vR, Value.category]; omega), by first | exact Nat.le_of_ble_eq_true rfl | (simp only [rm]; omega) | (simp [rm, vI, vR, Value.category]; omega)⟩ (pg1).1 rfl rfl rfl (Nat.le_of_ble_eq_true rfl) dX6_word_70 rfl ?_
      refine hret _ _ _ _ dX6_word_73 ?_
      · refine ⟨fun q hq => lfr q (by omega), fun r' N hO => ?_⟩
        obtain ⟨qs, hO⟩ := hO
        refine ⟨?_, crel_lay hl.2.1 hl.2.2 hC qs⟩
        rcases hO with ⟨o0, o1⟩ | ⟨o0, o1, o2, o3, o4⟩
        · exfalso; omega
        · rw [o2 rfl]
          obtain ⟨a1, a2, a3, a4⟩ := lnD_seg hD o0.1 o0.2
          have z := hRl.2.2.2.1.cnt1 a1 a2 a3 a4
          have z2 : cnt (Ml 5) (k + 1) = lnD (M 83) k + 1 := z
          omega
    · subst hs_3
      refine j_tableIn (tgt := 74) F dX6_word_31 ⟨by decide, by decide⟩ ⟨by decide, by decide⟩ rfl (by decide) ?_
      refine j_aload_n (q := 75) F dX6_word_74 rfl rfl 0 rfl ?_
      refine j_getR (q := 78) (z := 45) (index := 26) F wr0 rfl in_X6_word_6 2 (by decide) rfl fl_X6_word_26 dX6_word_75 rfl ?_
      refine j_iload_n (q := 79) F dX6_word_78 rfl rfl 1 rfl ?_
      refine j_callVE (q := 82) F [vI k] (ct_X4_columnOf l X hX Ml 45 (sh45) k (by omega) (by omega)) gX6_word_X4_columnOf rfl cd_X4_columnOf ⟨by first | exact Nat.le_of_ble_eq_true rfl | (simp only [rm]; omega) | (simp [rm, vI, vR, Value.category]; omega), by first | exact Nat.le_of_ble_eq_true rfl | (simp only [rm]; omega) | (simp [rm, vI, vR, Value.category]; omega), by first | exact Nat.le_of_ble_eq_true rfl | (simp only [rm]; omega) | (simp [rm, vI, vR, Value.category]; omega), by first | exact Nat.le_of_ble_eq_true rfl | (simp only [rm]; omega) | (simp [rm, vI, vR, Value.category]; omega)⟩ (sh45).1 rfl rfl rfl (Nat.le_of_ble_eq_true rfl) dX6_word_79 rfl ?_
      refine hret _ _ _ _ dX6_word_82 ?_
      · refine ⟨fun q hq => lfr q (by omega), fun r' N hO => ?_⟩
        obtain ⟨qs, hO⟩ := hO
        refine ⟨?_, crel_lay hl.2.1 hl.2.2 hC qs⟩
        rcases hO with ⟨o0, o1⟩ | ⟨o0, o1, o2, o3, o4⟩
        · exfalso; omega
        · rw [o3 rfl]; exact (hl.1.rows hD o0.1 o0.2).1
    · skip
      refine j_tableOut (tgt := 83) F dX6_word_31 ⟨by omega, by omega⟩ hs_3 (by decide) ?_
      refine j_iconst (q := 84) F dX6_word_83 rfl ?_
      refine hret _ _ _ _ dX6_word_84 ?_
      · refine ⟨fun q hq => lfr q (by omega), fun r' N hO => ?_⟩
        obtain ⟨qs, hO⟩ := hO
        refine ⟨?_, crel_lay hl.2.1 hl.2.2 hC qs⟩
        rcases hO with ⟨o0, o1⟩ | ⟨o0, o1, o2, o3, o4⟩
        · exact o1.symm
        · exact (o4 (by omega)).symm
  · skip
    refine j_if_ne (q := 17) (tgt := 19) F dX6_word_14 (by decide) rfl ⟨by decide, by decide⟩ (fun h => absurd h (by decide)) (fun _ => ?_)
    refine j_iconst (q := 18) F dX6_word_17 rfl ?_
    refine hret _ _ _ _ dX6_word_18 ?_
    · refine ⟨fun _ _ => rfl, fun r' N hO => ?_⟩
      obtain ⟨qs, hO⟩ := hO
      refine ⟨?_, hC.same (fun _ _ => rfl) qs⟩
      rcases hO with ⟨o0, o1⟩ | ⟨o0, o1, o2, o3, o4⟩
      · omega
      · exfalso; omega
theorem fl_X6_line_10 : Cond.fieldLink RX6 10 "WhiteRivers" "page" "LWhiteRivers$Page;" ∈ wsX6_line := by decide +kernel
theorem fl_X6_line_26 : Cond.fieldLink RX6 26 "WhiteRivers" "sheet" "LWhiteRivers$Sheet;" ∈ wsX6_line := by decide +kernel
theorem in_X6_line_6 : ∀ w ∈ u_ws RX6 TX6 5, w ∈ wsX6_line := by decide +kernel
set_option maxRecDepth 100000 in
set_option maxHeartbeats 1000000 in
theorem ct_X6_line (l : Launch) (X : Cx) (hX : Inj X) (M : Mem) (hC : CRel M M) (line : Int) (hli0 : inR line) (w : Int) (hw00 : inR w) : CtI l X yX6_line wsX6_line 5 [vR X 0, vI line, vI w] M (fun r M' => CPO M (Oline M line w) r M') := by
  refine CtI_of (cc := cX6_line) (maxL := 5) hX (by decide +kernel) rfl (Nat.le_of_ble_eq_true rfl) ?_
  intro zp ze zs zm zargs zbelow zmeth zc zQ F hret
  show J zp l ze (rm 5) zs zm zargs zbelow zmeth zc 0 0 zQ zs.heap X 5 M 0 [(0, vR X 0), (1, vI line), (2, vI w)] []
  have hR := hC.1
  have hD := hC.2.1
  have hn : M 1 2 = M 83 0 := hR.2.2.1
  have hw0 : M 1 0 = M 83 1 := hR.1
  have hs0 : M 1 1 = M 83 2 := hR.2.1
  have hnn := hD.1
  have hww := hD.2.1
  have hss := hD.2.2.1
  have hL24 := hD.L24
  have hl8 : ∀ w, 0 ≤ w → w < 24 → 0 ≤ M 3 w ∧ M 3 w ≤ 8 := hR.2.2.2.2.1
  have htot : cnt (M 5) (M 83 0) = M 83 3 := hR.2.2.2.1.total
  have hct : cnt (M 5) (M 1 2) = M 83 3 := by rw [hn]; exact htot
  obtain ⟨hli1, hli2⟩ := hli0
  obtain ⟨hwa, hwb⟩ := hw00
  refine j_aload_n (q := 1) F dX6_line_0 rfl rfl 0 rfl ?_
  refine j_getR (q := 4) (z := 1) (index := 10) F wr0 rfl in_X6_line_6 0 (by decide) rfl fl_X6_line_10 dX6_line_1 rfl ?_
  refine j_iload_n (q := 5) F dX6_line_4 rfl rfl 1 rfl ?_
  refine j_callVZ (q := 8) F [vI line] (ct_X1_hasLine l X hX M 1 (pg1) (by omega) line ⟨by omega, by omega⟩ (by show inR (cnt (M 5) (M 1 2)); rw [hct]; exact ⟨by omega, by omega⟩)) gX6_line_X1_hasLine rfl cd_X1_hasLine ⟨by first | exact Nat.le_of_ble_eq_true rfl | (simp only [rm]; omega) | (simp [rm, vI, vR, Value.category]; omega), by first | exact Nat.le_of_ble_eq_true rfl | (simp only [rm]; omega) | (simp [rm, vI, vR, Value.category]; omega), by first | exact Nat.le_of_ble_eq_true rfl | (simp only [rm]; omega) | (simp [rm, vI, vR, Value.category]; omega), by first | exact Nat.le_of_ble_eq_true rfl | (simp only [rm]; omega) | (simp [rm, vI, vR, Value.category]; omega)⟩ (pg1).1 rfl rfl rfl (Nat.le_of_ble_eq_true rfl) dX6_line_5 rfl (fun hli => ?_) (fun hli => ?_)
  · skip
    have hli : 0 ≤ line ∧ line < M 83 3 := by rw [← hct]; exact hli
    have hbl := hD.bd (l := line) hli.1 (by omega)
    have hbl1 := hD.bd (l := line + 1) (by omega) (by omega)
    have hseg := hD.2.2.2.2.2.2 line hli.1 hli.2
    refine j_if_ne (q := 11) (tgt := 13) F dX6_line_8 (by decide) rfl ⟨by decide, by decide⟩ (fun _ => ?_) (fun h => absurd h (by decide))
    refine j_aload_n (q := 14) F dX6_line_13 rfl rfl 0 rfl ?_
    refine j_getR (q := 17) (z := 1) (index := 10) F wr0 rfl in_X6_line_6 0 (by decide) rfl fl_X6_line_10 dX6_line_14 rfl ?_
    refine j_iload_n (q := 18) F dX6_line_17 rfl rfl 1 rfl ?_
    refine j_callVP (q := 21) F [vI line] (ct_X1_firstOf l X hX M 1 (pg1) (by omega) line ⟨by omega, by omega⟩ (fun w' q0 q1 => by have hq := hR.2.2.2.1.cntbd q0 (show w' < M 83 0 by have := hR.2.2.1; omega); exact ⟨by omega, by omega⟩)) gX6_line_X1_firstOf rfl cd_X1_firstOf ⟨by first | exact Nat.le_of_ble_eq_true rfl | (simp only [rm]; omega) | (simp [rm, vI, vR, Value.category]; omega), by first | exact Nat.le_of_ble_eq_true rfl | (simp only [rm]; omega) | (simp [rm, vI, vR, Value.category]; omega), by first | exact Nat.le_of_ble_eq_true rfl | (simp only [rm]; omega) | (simp [rm, vI, vR, Value.category]; omega), by first | exact Nat.le_of_ble_eq_true rfl | (simp only [rm]; omega) | (simp [rm, vI, vR, Value.category]; omega)⟩ (pg1).1 rfl rfl rfl (Nat.le_of_ble_eq_true rfl) dX6_line_18 rfl (fun f hf => ?_)
    rw [hn] at hf
    have ef : f = sd (M 83) line := hR.2.2.2.1.fst hli.1 hli.2 hf
    refine j_istore_n (q := 22) (lv' := [(0, vR X 0), (1, vI line), (2, vI w), (3, vI f)]) F dX6_line_21 rfl rfl (by decide) rfl rfl ?_
    refine j_aload_n (q := 23) F dX6_line_22 rfl rfl 0 rfl ?_
    refine j_getR (q := 26) (z := 1) (index := 10) F wr0 rfl in_X6_line_6 0 (by decide) rfl fl_X6_line_10 dX6_line_23 rfl ?_
    refine j_iload_n (q := 27) F dX6_line_26 rfl rfl 3 rfl ?_
    refine j_callVP (q := 30) F [vI f] (ct_X1_endOf l X hX M 1 (pg1) (by omega) f ⟨by omega, by omega⟩ (fun w' q0 q1 => by have hq := hR.2.2.2.1.bin q0 (show w' < M 83 0 by have := hR.2.2.1; omega); exact ⟨by omega, by omega⟩)) gX6_line_X1_endOf rfl cd_X1_endOf ⟨by first | exact Nat.le_of_ble_eq_true rfl | (simp only [rm]; omega) | (simp [rm, vI, vR, Value.category]; omega), by first | exact Nat.le_of_ble_eq_true rfl | (simp only [rm]; omega) | (simp [rm, vI, vR, Value.category]; omega), by first | exact Nat.le_of_ble_eq_true rfl | (simp only [rm]; omega) | (simp [rm, vI, vR, Value.category]; omega), by first | exact Nat.le_of_ble_eq_true rfl | (simp only [rm]; omega) | (simp [rm, vI, vR, Value.category]; omega)⟩ (pg1).1 rfl rfl rfl (Nat.le_of_ble_eq_true rfl) dX6_line_27 rfl (fun nx hnx => ?_)
    rw [hn, ef] at hnx
    have enx : nx = sd (M 83) (line + 1) := hR.2.2.2.1.end hli.1 hli.2 hnx
    have hnl : (line + 1 = M 83 3 ∧ nx = M 83 0) ∨ (line + 1 < M 83 3 ∧ nx < M 83 0) := by
      by_cases z : line + 1 = M 83 3
      · left; exact ⟨z, by rw [enx, z]; exact sd_L (Int.le_refl _)⟩
      · right; exact ⟨by omega, by omega⟩
    refine j_istore (q := 32) (lv' := [(0, vR X 0), (1, vI line), (2, vI w), (3, vI f), (4, vI nx)]) F dX6_line_30 rfl (by decide) rfl rfl ?_
    refine j_aload_n (q := 33) F dX6_line_32 rfl rfl 0 rfl ?_
    refine j_getR (q := 36) (z := 45) (index := 26) F wr0 rfl in_X6_line_6 2 (by decide) rfl fl_X6_line_26 dX6_line_33 rfl ?_
    refine j_aload_n (q := 37) F dX6_line_36 rfl rfl 0 rfl ?_
    refine j_getR (q := 40) (z := 1) (index := 10) F wr0 rfl in_X6_line_6 0 (by decide) rfl fl_X6_line_10 dX6_line_37 rfl ?_
    refine j_callVV (q := 43) F [vR X 1] (ct_X4_layAll l X hX M 45 (sh45) 1 (pg1) (by omega) (M 83) hR hD hC.2.2.2.2.2.1) gX6_line_X4_layAll rfl cd_X4_layAll ⟨by first | exact Nat.le_of_ble_eq_true rfl | (simp only [rm]; omega) | (simp [rm, vI, vR, Value.category]; omega), by first | exact Nat.le_of_ble_eq_true rfl | (simp only [rm]; omega) | (simp [rm, vI, vR, Value.category]; omega), by first | exact Nat.le_of_ble_eq_true rfl | (simp only [rm]; omega) | (simp [rm, vI, vR, Value.category]; omega), by first | exact Nat.le_of_ble_eq_true rfl | (simp only [rm]; omega) | (simp [rm, vI, vR, Value.category]; omega)⟩ (sh45).1 rfl rfl rfl (Nat.le_of_ble_eq_true rfl) dX6_line_40 rfl (fun Ml hl => ?_)
    have lfr : ∀ q, q < 47 ∨ 53 < q → Ml q = M q := fun q hq => hl.2.1 q (by omega) (by omega) (by omega) (by omega)
    have hRl : PRel Ml 1 (M 83) := hR.congr (lfr _ (by decide)) (lfr _ (by decide)) (lfr _ (by decide)) (lfr _ (by decide))
    have l1 : Ml 1 = M 1 := lfr 1 (by decide)
    have l3 : Ml 3 = M 3 := lfr 3 (by decide)
    have l5 : Ml 5 = M 5 := lfr 5 (by decide)
    have l7 : Ml 7 = M 7 := lfr 7 (by decide)
    have ln : Ml 1 2 = M 83 0 := hRl.2.2.1
    have lrd : ∀ w, 0 ≤ w → w < M 83 0 → Ml 53 w = RD (M 83) w := fun w a b => hl.1.reach a b
    have lrb : ∀ w, 0 ≤ w → w < M 83 0 → 0 ≤ Ml 53 w ∧ Ml 53 w ≤ 100 := fun w a b => by rw [lrd w a b]; have := RD_bd (M 83) ⟨hL24.1, hL24.2.2⟩ w; omega
    have hsb := hl.2.2
    refine j_iload_n (q := 44) F dX6_line_43 rfl rfl 2 rfl ?_
    rcases (show w = 0 ∨ w = 1 ∨ w = 2 ∨ w = 3 ∨ w = 4 ∨ w = 5 ∨ w = 6 ∨ (w < 0 ∨ 6 < w) by omega) with hs_5 | hs_5 | hs_5 | hs_5 | hs_5 | hs_5 | hs_5 | hs_5
    · subst hs_5
      refine j_tableIn (tgt := 88) F dX6_line_44 ⟨by decide, by decide⟩ ⟨by decide, by decide⟩ rfl (by decide) ?_
      refine j_iload_n (q := 89) F dX6_line_88 rfl rfl 3 rfl ?_
      refine hret _ _ _ _ dX6_line_89 ?_
      · refine ⟨fun q hq => lfr q (by omega), fun r' N hO => ?_⟩
        obtain ⟨qs, hO⟩ := hO
        refine ⟨?_, crel_lay hl.2.1 hl.2.2 hC qs⟩
        rcases hO with ⟨o0, o1⟩ | ⟨o0, o1, o2, o3, o4, o5, o6, o7, o8⟩
        · exact absurd hli o0
        · rw [o1 rfl]; exact ef
    · subst hs_5
      refine j_tableIn (tgt := 90) F dX6_line_44 ⟨by decide, by decide⟩ ⟨by decide, by decide⟩ rfl (by decide) ?_
      refine j_iload (q := 92) F dX6_line_90 rfl 4 rfl ?_
      refine j_iload_n (q := 93) F dX6_line_92 rfl rfl 3 rfl ?_
      refine j_isub (q := 94) (z := nx - f) F dX6_line_93 rfl rfl ?_
      refine hret _ _ _ _ dX6_line_94 ?_
      · refine ⟨fun q hq => lfr q (by omega), fun r' N hO => ?_⟩
        obtain ⟨qs, hO⟩ := hO
        refine ⟨?_, crel_lay hl.2.1 hl.2.2 hC qs⟩
        rcases hO with ⟨o0, o1⟩ | ⟨o0, o1, o2, o3, o4, o5, o6, o7, o8⟩
        · exact absurd hli o0
        · rw [o2 rfl]; omega
    · subst hs_5
      refine j_tableIn (tgt := 95) F dX6_line_44 ⟨by decide, by decide⟩ ⟨by decide, by decide⟩ rfl (by decide) ?_
      refine j_aload_n (q := 96) F dX6_line_95 rfl rfl 0 rfl ?_
      refine j_getR (q := 99) (z := 1) (index := 10) F wr0 rfl in_X6_line_6 0 (by decide) rfl fl_X6_line_10 dX6_line_96 rfl ?_
      refine j_iload_n (q := 100) F dX6_line_99 rfl rfl 3 rfl ?_
      refine j_iload (q := 102) F dX6_line_100 rfl 4 rfl ?_
      refine j_callVE (q := 105) F [vI f, vI nx] (ct_X1_extra l X hX Ml 1 (pg1) f nx (by omega) (by omega) (by omega)) gX6_line_X1_extra rfl cd_X1_extra ⟨by first | exact Nat.le_of_ble_eq_true rfl | (simp only [rm]; omega) | (simp [rm, vI, vR, Value.category]; omega), by first | exact Nat.le_of_ble_eq_true rfl | (simp only [rm]; omega) | (simp [rm, vI, vR, Value.category]; omega), by first | exact Nat.le_of_ble_eq_true rfl | (simp only [rm]; omega) | (simp [rm, vI, vR, Value.category]; omega), by first | exact Nat.le_of_ble_eq_true rfl | (simp only [rm]; omega) | (simp [rm, vI, vR, Value.category]; omega)⟩ (pg1).1 rfl rfl rfl (Nat.le_of_ble_eq_true rfl) dX6_line_102 rfl ?_
      refine hret _ _ _ _ dX6_line_105 ?_
      · refine ⟨fun q hq => lfr q (by omega), fun r' N hO => ?_⟩
        obtain ⟨qs, hO⟩ := hO
        refine ⟨?_, crel_lay hl.2.1 hl.2.2 hC qs⟩
        rcases hO with ⟨o0, o1⟩ | ⟨o0, o1, o2, o3, o4, o5, o6, o7, o8⟩
        · exact absurd hli o0
        · rw [o3 rfl, ← ef, ← enx]; exact exD_eq hRl (by omega) (by omega)
    · subst hs_5
      refine j_tableIn (tgt := 106) F dX6_line_44 ⟨by decide, by decide⟩ ⟨by decide, by decide⟩ rfl (by decide) ?_
      refine j_aload_n (q := 107) F dX6_line_106 rfl rfl 0 rfl ?_
      refine j_getR (q := 110) (z := 1) (index := 10) F wr0 rfl in_X6_line_6 0 (by decide) rfl fl_X6_line_10 dX6_line_107 rfl ?_
      refine j_iload_n (q := 111) F dX6_line_110 rfl rfl 3 rfl ?_
      refine j_iload (q := 113) F dX6_line_111 rfl 4 rfl ?_
      refine j_callVE (q := 116) F [vI f, vI nx] (ct_X1_badness l X hX Ml 1 (pg1) f nx (by omega) (by omega) (by omega) (by omega)) gX6_line_X1_badness rfl cd_X1_badness ⟨by first | exact Nat.le_of_ble_eq_true rfl | (simp only [rm]; omega) | (simp [rm, vI, vR, Value.category]; omega), by first | exact Nat.le_of_ble_eq_true rfl | (simp only [rm]; omega) | (simp [rm, vI, vR, Value.category]; omega), by first | exact Nat.le_of_ble_eq_true rfl | (simp only [rm]; omega) | (simp [rm, vI, vR, Value.category]; omega), by first | exact Nat.le_of_ble_eq_true rfl | (simp only [rm]; omega) | (simp [rm, vI, vR, Value.category]; omega)⟩ (pg1).1 rfl rfl rfl (Nat.le_of_ble_eq_true rfl) dX6_line_113 rfl ?_
      refine hret _ _ _ _ dX6_line_116 ?_
      · refine ⟨fun q hq => lfr q (by omega), fun r' N hO => ?_⟩
        obtain ⟨qs, hO⟩ := hO
        refine ⟨?_, crel_lay hl.2.1 hl.2.2 hC qs⟩
        rcases hO with ⟨o0, o1⟩ | ⟨o0, o1, o2, o3, o4, o5, o6, o7, o8⟩
        · exact absurd hli o0
        · rw [o4 rfl, ← ef, ← enx]; exact bd_eq ln (exD_eq hRl (by omega) (by omega)) (by omega)
    · subst hs_5
      refine j_tableIn (tgt := 117) F dX6_line_44 ⟨by decide, by decide⟩ ⟨by decide, by decide⟩ rfl (by decide) ?_
      refine j_iload (q := 119) F dX6_line_117 rfl 4 rfl ?_
      refine j_iload_n (q := 120) F dX6_line_119 rfl rfl 3 rfl ?_
      refine j_isub (q := 121) (z := nx - f) F dX6_line_120 rfl rfl ?_
      refine j_iconst (q := 122) F dX6_line_121 rfl ?_
      refine j_isub (q := 123) (z := (nx - f) - 1) F dX6_line_122 rfl rfl ?_
      refine hret _ _ _ _ dX6_line_123 ?_
      · refine ⟨fun q hq => lfr q (by omega), fun r' N hO => ?_⟩
        obtain ⟨qs, hO⟩ := hO
        refine ⟨?_, crel_lay hl.2.1 hl.2.2 hC qs⟩
        rcases hO with ⟨o0, o1⟩ | ⟨o0, o1, o2, o3, o4, o5, o6, o7, o8⟩
        · exact absurd hli o0
        · rw [o5 rfl]; omega
    · subst hs_5
      refine j_tableIn (tgt := 124) F dX6_line_44 ⟨by decide, by decide⟩ ⟨by decide, by decide⟩ rfl (by decide) ?_
      refine j_aload_n (q := 125) F dX6_line_124 rfl rfl 0 rfl ?_
      refine j_getR (q := 128) (z := 1) (index := 10) F wr0 rfl in_X6_line_6 0 (by decide) rfl fl_X6_line_10 dX6_line_125 rfl ?_
      refine j_iload_n (q := 129) F dX6_line_128 rfl rfl 3 rfl ?_
      refine j_callVZ (q := 132) F [vI f] (ct_X1_isFrozen_in l X hX Ml 1 (pg1) f (by omega) (by omega) (hRl.fz hD (by omega) (by omega))) gX6_line_X1_isFrozen rfl cd_X1_isFrozen ⟨by first | exact Nat.le_of_ble_eq_true rfl | (simp only [rm]; omega) | (simp [rm, vI, vR, Value.category]; omega), by first | exact Nat.le_of_ble_eq_true rfl | (simp only [rm]; omega) | (simp [rm, vI, vR, Value.category]; omega), by first | exact Nat.le_of_ble_eq_true rfl | (simp only [rm]; omega) | (simp [rm, vI, vR, Value.category]; omega), by first | exact Nat.le_of_ble_eq_true rfl | (simp only [rm]; omega) | (simp [rm, vI, vR, Value.category]; omega)⟩ (pg1).1 rfl rfl rfl (Nat.le_of_ble_eq_true rfl) dX6_line_129 rfl (fun hz => ?_) (fun hz => ?_)
      · skip
        have hz : M 83 (53 + line) = 1 := by rw [← hRl.2.2.2.2.2.2.1 (line) (by omega) (by omega), ← ef]; exact hz
        refine j_if_eq (q := 135) (tgt := 139) F dX6_line_132 (by decide) rfl ⟨by decide, by decide⟩ (fun h => absurd h (by decide)) (fun _ => ?_)
        refine j_iconst (q := 136) F dX6_line_135 rfl ?_
        refine j_goto (q := 140) F dX6_line_136 (by decide) ?_
        refine hret _ _ _ _ dX6_line_140 ?_
        · refine ⟨fun q hq => lfr q (by omega), fun r' N hO => ?_⟩
          obtain ⟨qs, hO⟩ := hO
          refine ⟨?_, crel_lay hl.2.1 hl.2.2 hC qs⟩
          rcases hO with ⟨o0, o1⟩ | ⟨o0, o1, o2, o3, o4, o5, o6, o7, o8⟩
          · exact absurd hli o0
          · rw [o6 rfl]; omega
      · skip
        have hz : M 83 (53 + line) = 0 := by rw [← hRl.2.2.2.2.2.2.1 (line) (by omega) (by omega), ← ef]; exact hz
        refine j_if_eq (q := 135) (tgt := 139) F dX6_line_132 (by decide) rfl ⟨by decide, by decide⟩ (fun _ => ?_) (fun h => absurd h (by decide))
        refine j_iconst (q := 140) F dX6_line_139 rfl ?_
        refine hret _ _ _ _ dX6_line_140 ?_
        · refine ⟨fun q hq => lfr q (by omega), fun r' N hO => ?_⟩
          obtain ⟨qs, hO⟩ := hO
          refine ⟨?_, crel_lay hl.2.1 hl.2.2 hC qs⟩
          rcases hO with ⟨o0, o1⟩ | ⟨o0, o1, o2, o3, o4, o5, o6, o7, o8⟩
          · exact absurd hli o0
          · rw [o6 rfl]; omega
    · subst hs_5
      refine j_tableIn (tgt := 141) F dX6_line_44 ⟨by decide, by decide⟩ ⟨by decide, by decide⟩ rfl (by decide) ?_
      refine j_aload_n (q := 142) F dX6_line_141 rfl rfl 0 rfl ?_
      refine j_getR (q := 145) (z := 45) (index := 26) F wr0 rfl in_X6_line_6 2 (by decide) rfl fl_X6_line_26 dX6_line_142 rfl ?_
      refine j_iload_n (q := 146) F dX6_line_145 rfl rfl 3 rfl ?_
      refine j_iload (q := 148) F dX6_line_146 rfl 4 rfl ?_
      refine j_callVE (q := 151) F [vI f, vI nx] (ct_X4_greatestReach l X hX Ml 45 (sh45) f nx (by omega) (fun w a b => lrb w (by omega) (by omega))) gX6_line_X4_greatestReach rfl cd_X4_greatestReach ⟨by first | exact Nat.le_of_ble_eq_true rfl | (simp only [rm]; omega) | (simp [rm, vI, vR, Value.category]; omega), by first | exact Nat.le_of_ble_eq_true rfl | (simp only [rm]; omega) | (simp [rm, vI, vR, Value.category]; omega), by first | exact Nat.le_of_ble_eq_true rfl | (simp only [rm]; omega) | (simp [rm, vI, vR, Value.category]; omega), by first | exact Nat.le_of_ble_eq_true rfl | (simp only [rm]; omega) | (simp [rm, vI, vR, Value.category]; omega)⟩ (sh45).1 rfl rfl rfl (Nat.le_of_ble_eq_true rfl) dX6_line_148 rfl ?_
      refine hret _ _ _ _ dX6_line_151 ?_
      · refine ⟨fun q hq => lfr q (by omega), fun r' N hO => ?_⟩
        obtain ⟨qs, hO⟩ := hO
        refine ⟨?_, crel_lay hl.2.1 hl.2.2 hC qs⟩
        rcases hO with ⟨o0, o1⟩ | ⟨o0, o1, o2, o3, o4, o5, o6, o7, o8⟩
        · exact absurd hli o0
        · rw [o7 rfl, ← ef, ← enx]; exact mx_congr (fun w a b => ⟨rfl, fun _ => lrd w (by omega) (by omega)⟩)
    · skip
      refine j_tableOut (tgt := 152) F dX6_line_44 ⟨by omega, by omega⟩ hs_5 (by decide) ?_
      refine j_iconst (q := 153) F dX6_line_152 rfl ?_
      refine hret _ _ _ _ dX6_line_153 ?_
      · refine ⟨fun q hq => lfr q (by omega), fun r' N hO => ?_⟩
        obtain ⟨qs, hO⟩ := hO
        refine ⟨?_, crel_lay hl.2.1 hl.2.2 hC qs⟩
        rcases hO with ⟨o0, o1⟩ | ⟨o0, o1, o2, o3, o4, o5, o6, o7, o8⟩
        · exact absurd hli o0
        · exact (o8 (by omega)).symm
  · skip
    have hli : line < 0 ∨ M 83 3 ≤ line := by rw [← hct]; exact hli
    refine j_if_ne (q := 11) (tgt := 13) F dX6_line_8 (by decide) rfl ⟨by decide, by decide⟩ (fun h => absurd h (by decide)) (fun _ => ?_)
    refine j_iconst (q := 12) F dX6_line_11 rfl ?_
    refine hret _ _ _ _ dX6_line_12 ?_
    · refine ⟨fun _ _ => rfl, fun r' N hO => ?_⟩
      obtain ⟨qs, hO⟩ := hO
      refine ⟨?_, hC.same (fun _ _ => rfl) qs⟩
      rcases hO with ⟨o0, o1⟩ | ⟨o0, o1⟩
      · omega
      · exfalso; have z1 := o0.1; have z2 := o0.2; omega
