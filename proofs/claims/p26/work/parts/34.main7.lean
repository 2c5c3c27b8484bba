theorem cd_X4_gapColumn : yX4_gapColumn.cls = RX4 ∧ yX4_gapColumn.cls ≠ "java/lang/invoke/MethodHandle" ∧ yX4_gapColumn.cls ≠ "java/lang/invoke/VarHandle" ∧ (parseMethodDescriptor yX4_gapColumn.desc).map (fun d => d.parameters.length) = some 1 := by decide +kernel
theorem cd_X4_gapWidth : yX4_gapWidth.cls = RX4 ∧ yX4_gapWidth.cls ≠ "java/lang/invoke/MethodHandle" ∧ yX4_gapWidth.cls ≠ "java/lang/invoke/VarHandle" ∧ (parseMethodDescriptor yX4_gapWidth.desc).map (fun d => d.parameters.length) = some 1 := by decide +kernel
theorem cd_X4_reachOf : yX4_reachOf.cls = RX4 ∧ yX4_reachOf.cls ≠ "java/lang/invoke/MethodHandle" ∧ yX4_reachOf.cls ≠ "java/lang/invoke/VarHandle" ∧ (parseMethodDescriptor yX4_reachOf.desc).map (fun d => d.parameters.length) = some 1 := by decide +kernel
theorem fl_X6_gap_10 : Cond.fieldLink RX6 10 "WhiteRivers" "page" "LWhiteRivers$Page;" ∈ wsX6_gap := by decide +kernel
theorem fl_X6_gap_26 : Cond.fieldLink RX6 26 "WhiteRivers" "sheet" "LWhiteRivers$Sheet;" ∈ wsX6_gap := by decide +kernel
theorem in_X6_gap_6 : ∀ w ∈ u_ws RX6 TX6 5, w ∈ wsX6_gap := by decide +kernel
set_option maxRecDepth 100000 in
set_option maxHeartbeats 1000000 in
theorem ct_X6_gap (l : Launch) (X : Cx) (hX : Inj X) (M : Mem) (hC : CRel M M) (line : Int) (hli0 : inR line) (g w : Int) (hg00 : inR g) (hw00 : inR w) : CtI l X yX6_gap wsX6_gap 5 [vR X 0, vI line, vI g, vI w] M (fun r M' => CPO M (Ogap M line g w) r M') := by
  refine CtI_of (cc := cX6_gap) (maxL := 7) hX (by decide +kernel) rfl (Nat.le_of_ble_eq_true rfl) ?_
  intro zp ze zs zm zargs zbelow zmeth zc zQ F hret
  show J zp l ze (rm 5) zs zm zargs zbelow zmeth zc 0 0 zQ zs.heap X 7 M 0 [(0, vR X 0), (1, vI line), (2, vI g), (3, vI w)] []
  have hR := hC.1
  have hD := hC.2.1
  have hn : M 1 2 = M 83 0 := hR.2.2.1
  have hw0 : M 1 0 = M 83 1 := hR.1
  have hs0 : M 1 1 = M 83 2 := hR.2.1
  have hnn := hD.1
  have hww := hD.2.1
  have hss := hD.2.2.1
  have hL24 := hD.L24
  have hl8 : ∀ w, 0 ≤ w → w < 24 → 0 ≤ M 3 w ∧ M 3 w ≤ 8 := hR.2.2.2.2.1
  have htot : cnt (M 5) (M 83 0) = M 83 3 := hR.2.2.2.1.total
  have hct : cnt (M 5) (M 1 2) = M 83 3 := by rw [hn]; exact htot
  obtain ⟨hli1, hli2⟩ := hli0
  obtain ⟨hga, hgb⟩ := hg00
  obtain ⟨hwa, hwb⟩ := hw00
  refine j_aload_n (q := 1) F dX6_gap_0 rfl rfl 0 rfl ?_
  refine j_getR (q := 4) (z := 1) (index := 10) F wr0 rfl in_X6_gap_6 0 (by decide) rfl fl_X6_gap_10 dX6_gap_1 rfl ?_
  refine j_iload_n (q := 5) F dX6_gap_4 rfl rfl 1 rfl ?_
  refine j_callVZ (q := 8) F [vI line] (ct_X1_hasLine l X hX M 1 (pg1) (by omega) line ⟨by omega, by omega⟩ (by show inR (cnt (M 5) (M 1 2)); rw [hct]; exact ⟨by omega, by omega⟩)) gX6_gap_X1_hasLine rfl cd_X1_hasLine ⟨by first | exact Nat.le_of_ble_eq_true rfl | (simp only [rm]; omega) | (simp [rm, vI, vR, Value.category]; omega), by first | exact Nat.le_of_ble_eq_true rfl | (simp only [rm]; omega) | (simp [rm, vI, vR, Value.category]; omega), by first | exact Nat.le_of_ble_eq_true rfl | (simp only [rm]; omega) | (simp [rm, vI, vR, Value.category]; omega), by first | exact Nat.le_of_ble_eq_true rfl | (simp only [rm]; omega) | (simp [rm, vI, vR, Value.category]; omega)⟩ (pg1).1 rfl rfl rfl (Nat.le_of_ble_eq_true rfl) dX6_gap_5 rfl (fun hli => ?_) (fun hli => ?_)
  · skip
    have hli : 0 ≤ line ∧ line < M 83 3 := by rw [← hct]; exact hli
    have hbl := hD.bd (l := line) hli.1 (by omega)
    have hbl1 := hD.bd (l := line + 1) (by omega) (by omega)
    have hseg := hD.2.2.2.2.2.2 line hli.1 hli.2
    refine j_if_ne (q := 11) (tgt := 13) F dX6_gap_8 (by decide) rfl ⟨by decide, by decide⟩ (fun _ => ?_) (fun h => absurd h (by decide))
    refine j_aload_n (q := 14) F dX6_gap_13 rfl rfl 0 rfl ?_
    refine j_getR (q := 17) (z := 1) (index := 10) F wr0 rfl in_X6_gap_6 0 (by decide) rfl fl_X6_gap_10 dX6_gap_14 rfl ?_
    refine j_iload_n (q := 18) F dX6_gap_17 rfl rfl 1 rfl ?_
    refine j_callVP (q := 21) F [vI line] (ct_X1_firstOf l X hX M 1 (pg1) (by omega) line ⟨by omega, by omega⟩ (fun w' q0 q1 => by have hq := hR.2.2.2.1.cntbd q0 (show w' < M 83 0 by have := hR.2.2.1; omega); exact ⟨by omega, by omega⟩)) gX6_gap_X1_firstOf rfl cd_X1_firstOf ⟨by first | exact Nat.le_of_ble_eq_true rfl | (simp only [rm]; omega) | (simp [rm, vI, vR, Value.category]; omega), by first | exact Nat.le_of_ble_eq_true rfl | (simp only [rm]; omega) | (simp [rm, vI, vR, Value.category]; omega), by first | exact Nat.le_of_ble_eq_true rfl | (simp only [rm]; omega) | (simp [rm, vI, vR, Value.category]; omega), by first | exact Nat.le_of_ble_eq_true rfl | (simp only [rm]; omega) | (simp [rm, vI, vR, Value.category]; omega)⟩ (pg1).1 rfl rfl rfl (Nat.le_of_ble_eq_true rfl) dX6_gap_18 rfl (fun f hf => ?_)
    rw [hn] at hf
    have ef : f = sd (M 83) line := hR.2.2.2.1.fst hli.1 hli.2 hf
    refine j_istore (q := 23) (lv' := [(0, vR X 0), (1, vI line), (2, vI g), (3, vI w), (4, vI f)]) F dX6_gap_21 rfl (by decide) rfl rfl ?_
    refine j_aload_n (q := 24) F dX6_gap_23 rfl rfl 0 rfl ?_
    refine j_getR (q := 27) (z := 1) (index := 10) F wr0 rfl in_X6_gap_6 0 (by decide) rfl fl_X6_gap_10 dX6_gap_24 rfl ?_
    refine j_iload (q := 29) F dX6_gap_27 rfl 4 rfl ?_
    refine j_callVP (q := 32) F [vI f] (ct_X1_endOf l X hX M 1 (pg1) (by omega) f ⟨by omega, by omega⟩ (fun w' q0 q1 => by have hq := hR.2.2.2.1.bin q0 (show w' < M 83 0 by have := hR.2.2.1; omega); exact ⟨by omega, by omega⟩)) gX6_gap_X1_endOf rfl cd_X1_endOf ⟨by first | exact Nat.le_of_ble_eq_true rfl | (simp only [rm]; omega) | (simp [rm, vI, vR, Value.category]; omega), by first | exact Nat.le_of_ble_eq_true rfl | (simp only [rm]; omega) | (simp [rm, vI, vR, Value.category]; omega), by first | exact Nat.le_of_ble_eq_true rfl | (simp only [rm]; omega) | (simp [rm, vI, vR, Value.category]; omega), by first | exact Nat.le_of_ble_eq_true rfl | (simp only [rm]; omega) | (simp [rm, vI, vR, Value.category]; omega)⟩ (pg1).1 rfl rfl rfl (Nat.le_of_ble_eq_true rfl) dX6_gap_29 rfl (fun nx hnx => ?_)
    rw [hn, ef] at hnx
    have enx : nx = sd (M 83) (line + 1) := hR.2.2.2.1.end hli.1 hli.2 hnx
    have hnl : (line + 1 = M 83 3 ∧ nx = M 83 0) ∨ (line + 1 < M 83 3 ∧ nx < M 83 0) := by
      by_cases z : line + 1 = M 83 3
      · left; exact ⟨z, by rw [enx, z]; exact sd_L (Int.le_refl _)⟩
      · right; exact ⟨by omega, by omega⟩
    refine j_istore (q := 34) (lv' := [(0, vR X 0), (1, vI line), (2, vI g), (3, vI w), (4, vI f), (5, vI nx)]) F dX6_gap_32 rfl (by decide) rfl rfl ?_
    refine j_iload_n (q := 35) F dX6_gap_34 rfl rfl 2 rfl ?_
    refine j_iconst (q := 36) F dX6_gap_35 rfl ?_
    refine j_iload (q := 38) F dX6_gap_36 rfl 5 rfl ?_
    refine j_iload (q := 40) F dX6_gap_38 rfl 4 rfl ?_
    refine j_isub (q := 41) (z := nx - f) F dX6_gap_40 rfl rfl ?_
    refine j_iconst (q := 42) F dX6_gap_41 rfl ?_
    refine j_isub (q := 43) (z := (nx - f) - 2) F dX6_gap_42 rfl rfl ?_
    refine j_callSZ (q := 46) F [vI g, vI 0, vI ((nx - f) - 2)] (ct_X6_isWithin l X hX M g 0 ((nx - f) - 2) ⟨by omega, by omega⟩ ⟨by omega, by omega⟩ ⟨by omega, by omega⟩) gX6_gap_X6_isWithin rfl cd_X6_isWithin ⟨by first | exact Nat.le_of_ble_eq_true rfl | (simp only [rm]; omega) | (simp [rm, vI, vR, Value.category]; omega), by first | exact Nat.le_of_ble_eq_true rfl | (simp only [rm]; omega) | (simp [rm, vI, vR, Value.category]; omega), by first | exact Nat.le_of_ble_eq_true rfl | (simp only [rm]; omega) | (simp [rm, vI, vR, Value.category]; omega), by first | exact Nat.le_of_ble_eq_true rfl | (simp only [rm]; omega) | (simp [rm, vI, vR, Value.category]; omega)⟩ rfl rfl (Nat.le_of_ble_eq_true rfl) dX6_gap_43 rfl (fun hwi => ?_) (fun hwi => ?_)
    · skip
      refine j_if_ne (q := 49) (tgt := 51) F dX6_gap_46 (by decide) rfl ⟨by decide, by decide⟩ (fun _ => ?_) (fun h => absurd h (by decide))
      refine j_iload (q := 53) F dX6_gap_51 rfl 4 rfl ?_
      refine j_iload_n (q := 54) F dX6_gap_53 rfl rfl 2 rfl ?_
      refine j_iadd (q := 55) (z := f + g) F dX6_gap_54 rfl rfl ?_
      refine j_istore (q := 57) (lv' := [(0, vR X 0), (1, vI line), (2, vI g), (3, vI w), (4, vI f), (5, vI nx), (6, vI (f + g))]) F dX6_gap_55 rfl (by decide) rfl rfl ?_
      have hig : isG (M 83) line g := ⟨hli, by omega, by omega⟩
      refine j_aload_n (q := 58) F dX6_gap_57 rfl rfl 0 rfl ?_
      refine j_getR (q := 61) (z := 45) (index := 26) F wr0 rfl in_X6_gap_6 2 (by decide) rfl fl_X6_gap_26 dX6_gap_58 rfl ?_
      refine j_aload_n (q := 62) F dX6_gap_61 rfl rfl 0 rfl ?_
      refine j_getR (q := 65) (z := 1) (index := 10) F wr0 rfl in_X6_gap_6 0 (by decide) rfl fl_X6_gap_10 dX6_gap_62 rfl ?_
      refine j_callVV (q := 68) F [vR X 1] (ct_X4_layAll l X hX M 45 (sh45) 1 (pg1) (by omega) (M 83) hR hD hC.2.2.2.2.2.1) gX6_gap_X4_layAll rfl cd_X4_layAll ⟨by first | exact Nat.le_of_ble_eq_true rfl | (simp only [rm]; omega) | (simp [rm, vI, vR, Value.category]; omega), by first | exact Nat.le_of_ble_eq_true rfl | (simp only [rm]; omega) | (simp [rm, vI, vR, Value.category]; omega), by first | exact Nat.le_of_ble_eq_true rfl | (simp only [rm]; omega) | (simp [rm, vI, vR, Value.category]; omega), by first | exact Nat.le_of_ble_eq_true rfl | (simp only [rm]; omega) | (simp [rm, vI, vR, Value.category]; omega)⟩ (sh45).1 rfl rfl rfl (Nat.le_of_ble_eq_true rfl) dX6_gap_65 rfl (fun Ml hl => ?_)
      have lfr : ∀ q, q < 47 ∨ 53 < q → Ml q = M q := fun q hq => hl.2.1 q (by omega) (by omega) (by omega) (by omega)
      have hRl : PRel Ml 1 (M 83) := hR.congr (lfr _ (by decide)) (lfr _ (by decide)) (lfr _ (by decide)) (lfr _ (by decide))
      have l1 : Ml 1 = M 1 := lfr 1 (by decide)
      have l3 : Ml 3 = M 3 := lfr 3 (by decide)
      have l5 : Ml 5 = M 5 := lfr 5 (by decide)
      have l7 : Ml 7 = M 7 := lfr 7 (by decide)
      have ln : Ml 1 2 = M 83 0 := hRl.2.2.1
      have lrd : ∀ w, 0 ≤ w → w < M 83 0 → Ml 53 w = RD (M 83) w := fun w a b => hl.1.reach a b
      have lrb : ∀ w, 0 ≤ w → w < M 83 0 → 0 ≤ Ml 53 w ∧ Ml 53 w ≤ 100 := fun w a b => by rw [lrd w a b]; have := RD_bd (M 83) ⟨hL24.1, hL24.2.2⟩ w; omega
      have hsb := hl.2.2
      refine j_iload_n (q := 69) F dX6_gap_68 rfl rfl 3 rfl ?_
      rcases (show w = 0 ∨ w = 1 ∨ w = 2 ∨ w = 3 ∨ w = 4 ∨ (w < 0 ∨ 4 < w) by omega) with hs_6 | hs_6 | hs_6 | hs_6 | hs_6 | hs_6
      · subst hs_6
        refine j_tableIn (tgt := 104) F dX6_gap_69 ⟨by decide, by decide⟩ ⟨by decide, by decide⟩ rfl (by decide) ?_
        refine j_aload_n (q := 105) F dX6_gap_104 rfl rfl 0 rfl ?_
        refine j_getR (q := 108) (z := 45) (index := 26) F wr0 rfl in_X6_gap_6 2 (by decide) rfl fl_X6_gap_26 dX6_gap_105 rfl ?_
        refine j_iload (q := 110) F dX6_gap_108 rfl 6 rfl ?_
        refine j_callVE (q := 113) F [vI (f + g)] (ct_X4_gapColumn l X hX Ml 45 (sh45) (f + g) (by omega) (by omega)) gX6_gap_X4_gapColumn rfl cd_X4_gapColumn ⟨by first | exact Nat.le_of_ble_eq_true rfl | (simp only [rm]; omega) | (simp [rm, vI, vR, Value.category]; omega), by first | exact Nat.le_of_ble_eq_true rfl | (simp only [rm]; omega) | (simp [rm, vI, vR, Value.category]; omega), by first | exact Nat.le_of_ble_eq_true rfl | (simp only [rm]; omega) | (simp [rm, vI, vR, Value.category]; omega), by first | exact Nat.le_of_ble_eq_true rfl | (simp only [rm]; omega) | (simp [rm, vI, vR, Value.category]; omega)⟩ (sh45).1 rfl rfl rfl (Nat.le_of_ble_eq_true rfl) dX6_gap_110 rfl ?_
        refine hret _ _ _ _ dX6_gap_113 ?_
        · refine ⟨fun q hq => lfr q (by omega), fun r' N hO => ?_⟩
          obtain ⟨qs, hO⟩ := hO
          refine ⟨?_, crel_lay hl.2.1 hl.2.2 hC qs⟩
          rcases hO with ⟨o0, o1⟩ | ⟨o0, o1, o2, o3, o4, o5, o6⟩
          · exact absurd hig o0
          · rw [o1 rfl, ← ef]; exact (hl.1.rows hD (by omega) (by omega)).2.1
      · subst hs_6
        refine j_tableIn (tgt := 114) F dX6_gap_69 ⟨by decide, by decide⟩ ⟨by decide, by decide⟩ rfl (by decide) ?_
        refine j_aload_n (q := 115) F dX6_gap_114 rfl rfl 0 rfl ?_
        refine j_getR (q := 118) (z := 45) (index := 26) F wr0 rfl in_X6_gap_6 2 (by decide) rfl fl_X6_gap_26 dX6_gap_115 rfl ?_
        refine j_iload (q := 120) F dX6_gap_118 rfl 6 rfl ?_
        refine j_callVE (q := 123) F [vI (f + g)] (ct_X4_gapWidth l X hX Ml 45 (sh45) (f + g) (by omega) (by omega)) gX6_gap_X4_gapWidth rfl cd_X4_gapWidth ⟨by first | exact Nat.le_of_ble_eq_true rfl | (simp only [rm]; omega) | (simp [rm, vI, vR, Value.category]; omega), by first | exact Nat.le_of_ble_eq_true rfl | (simp only [rm]; omega) | (simp [rm, vI, vR, Value.category]; omega), by first | exact Nat.le_of_ble_eq_true rfl | (simp only [rm]; omega) | (simp [rm, vI, vR, Value.category]; omega), by first | exact Nat.le_of_ble_eq_true rfl | (simp only [rm]; omega) | (simp [rm, vI, vR, Value.category]; omega)⟩ (sh45).1 rfl rfl rfl (Nat.le_of_ble_eq_true rfl) dX6_gap_120 rfl ?_
        refine hret _ _ _ _ dX6_gap_123 ?_
        · refine ⟨fun q hq => lfr q (by omega), fun r' N hO => ?_⟩
          obtain ⟨qs, hO⟩ := hO
          refine ⟨?_, crel_lay hl.2.1 hl.2.2 hC qs⟩
          rcases hO with ⟨o0, o1⟩ | ⟨o0, o1, o2, o3, o4, o5, o6⟩
          · exact absurd hig o0
          · rw [o2 rfl, ← ef]; exact (hl.1.rows hD (by omega) (by omega)).2.2
      · subst hs_6
        refine j_tableIn (tgt := 124) F dX6_gap_69 ⟨by decide, by decide⟩ ⟨by decide, by decide⟩ rfl (by decide) ?_
        refine j_aload_n (q := 125) F dX6_gap_124 rfl rfl 0 rfl ?_
        refine j_getR (q := 128) (z := 45) (index := 26) F wr0 rfl in_X6_gap_6 2 (by decide) rfl fl_X6_gap_26 dX6_gap_125 rfl ?_
        refine j_iload (q := 130) F dX6_gap_128 rfl 6 rfl ?_
        refine j_callVE (q := 133) F [vI (f + g)] (ct_X4_reachOf l X hX Ml 45 (sh45) (f + g) (by omega) (by omega)) gX6_gap_X4_reachOf rfl cd_X4_reachOf ⟨by first | exact Nat.le_of_ble_eq_true rfl | (simp only [rm]; omega) | (simp [rm, vI, vR, Value.category]; omega), by first | exact Nat.le_of_ble_eq_true rfl | (simp only [rm]; omega) | (simp [rm, vI, vR, Value.category]; omega), by first | exact Nat.le_of_ble_eq_true rfl | (simp only [rm]; omega) | (simp [rm, vI, vR, Value.category]; omega), by first | exact Nat.le_of_ble_eq_true rfl | (simp only [rm]; omega) | (simp [rm, vI, vR, Value.category]; omega)⟩ (sh45).1 rfl rfl rfl (Nat.le_of_ble_eq_true rfl) dX6_gap_130 rfl ?_
        refine hret _ _ _ _ dX6_gap_133 ?_
        · refine ⟨fun q hq => lfr q (by omega), fun r' N hO => ?_⟩
          obtain ⟨qs, hO⟩ := hO
          refine ⟨?_, crel_lay hl.2.1 hl.2.2 hC qs⟩
          rcases hO with ⟨o0, o1⟩ | ⟨o0, o1, o2, o3, o4, o5, o6⟩
          · exact absurd hig o0
          · rw [o3 rfl, ← ef]; exact lrd _ (by omega) (by omega)
      · subst hs_6
        refine j_tableIn (tgt := 134) F dX6_gap_69 ⟨by decide, by decide⟩ ⟨by decide, by decide⟩ rfl (by decide) ?_
        refine j_aload_n (q := 135) F dX6_gap_134 rfl rfl 0 rfl ?_
        refine j_getR (q := 138) (z := 45) (index := 26) F wr0 rfl in_X6_gap_6 2 (by decide) rfl fl_X6_gap_26 dX6_gap_135 rfl ?_
        refine j_iload (q := 140) F dX6_gap_138 rfl 6 rfl ?_
        refine j_aload_n (q := 141) F dX6_gap_140 rfl rfl 0 rfl ?_
        refine j_getR (q := 144) (z := 1) (index := 10) F wr0 rfl in_X6_gap_6 0 (by decide) rfl fl_X6_gap_10 dX6_gap_141 rfl ?_
        refine j_iload_n (q := 145) F dX6_gap_144 rfl rfl 1 rfl ?_
        refine j_iconst (q := 146) F dX6_gap_145 rfl ?_
        refine j_isub (q := 147) (z := line - 1) F dX6_gap_146 rfl rfl ?_
        refine j_callVP (q := 150) F [vI (line - 1)] (ct_X1_firstOf l X hX Ml 1 (pg1) (by omega) (line - 1) ⟨by omega, by omega⟩ (fun w' q0 q1 => by have hq := hRl.2.2.2.1.cntbd q0 (show w' < M 83 0 by have := hRl.2.2.1; omega); exact ⟨by omega, by omega⟩)) gX6_gap_X1_firstOf rfl cd_X1_firstOf ⟨by first | exact Nat.le_of_ble_eq_true rfl | (simp only [rm]; omega) | (simp [rm, vI, vR, Value.category]; omega), by first | exact Nat.le_of_ble_eq_true rfl | (simp only [rm]; omega) | (simp [rm, vI, vR, Value.category]; omega), by first | exact Nat.le_of_ble_eq_true rfl | (simp only [rm]; omega) | (simp [rm, vI, vR, Value.category]; omega), by first | exact Nat.le_of_ble_eq_true rfl | (simp only [rm]; omega) | (simp [rm, vI, vR, Value.category]; omega)⟩ (pg1).1 rfl rfl rfl (Nat.le_of_ble_eq_true rfl) dX6_gap_147 rfl (fun f1 hf1 => ?_)
        rw [ln] at hf1
        have e1 : f1 = prv (M 83) line := prv_fst hRl.2.2.2.1 hli.1 hli.2 hf1
        have hpr := hD.prvle hli.1 hli.2
        refine j_iload (q := 152) F dX6_gap_150 rfl 4 rfl ?_
        refine j_callVE (q := 155) F [vI (f + g), vI f1, vI f] (ct_X4_gapsThatMeet l X hX Ml 45 (sh45) hsb (f + g) f1 f (by omega) (by omega)) gX6_gap_X4_gapsThatMeet rfl cd_X4_gapsThatMeet ⟨by first | exact Nat.le_of_ble_eq_true rfl | (simp only [rm]; omega) | (simp [rm, vI, vR, Value.category]; omega), by first | exact Nat.le_of_ble_eq_true rfl | (simp only [rm]; omega) | (simp [rm, vI, vR, Value.category]; omega), by first | exact Nat.le_of_ble_eq_true rfl | (simp only [rm]; omega) | (simp [rm, vI, vR, Value.category]; omega), by first | exact Nat.le_of_ble_eq_true rfl | (simp only [rm]; omega) | (simp [rm, vI, vR, Value.category]; omega)⟩ (sh45).1 rfl rfl rfl (Nat.le_of_ble_eq_true rfl) dX6_gap_152 rfl ?_
        refine hret _ _ _ _ dX6_gap_155 ?_
        · refine ⟨fun q hq => lfr q (by omega), fun r' N hO => ?_⟩
          obtain ⟨qs, hO⟩ := hO
          refine ⟨?_, crel_lay hl.2.1 hl.2.2 hC qs⟩
          rcases hO with ⟨o0, o1⟩ | ⟨o0, o1, o2, o3, o4, o5, o6⟩
          · exact absurd hig o0
          · rw [o4 rfl, ← ef, ← ab_eq hD hl.1 (by omega) (by omega), lnD_eq hD hli.1 hli.2 (by omega) (by omega), ← ef, ← e1]
      · subst hs_6
        refine j_tableIn (tgt := 156) F dX6_gap_69 ⟨by decide, by decide⟩ ⟨by decide, by decide⟩ rfl (by decide) ?_
        refine j_aload_n (q := 157) F dX6_gap_156 rfl rfl 0 rfl ?_
        refine j_getR (q := 160) (z := 45) (index := 26) F wr0 rfl in_X6_gap_6 2 (by decide) rfl fl_X6_gap_26 dX6_gap_157 rfl ?_
        refine j_iload (q := 162) F dX6_gap_160 rfl 6 rfl ?_
        refine j_iload (q := 164) F dX6_gap_162 rfl 5 rfl ?_
        refine j_aload_n (q := 165) F dX6_gap_164 rfl rfl 0 rfl ?_
        refine j_getR (q := 168) (z := 1) (index := 10) F wr0 rfl in_X6_gap_6 0 (by decide) rfl fl_X6_gap_10 dX6_gap_165 rfl ?_
        refine j_iload (q := 170) F dX6_gap_168 rfl 5 rfl ?_
        refine j_callVP (q := 173) F [vI nx] (ct_X1_endOf l X hX Ml 1 (pg1) (by omega) nx ⟨by omega, by omega⟩ (fun w' q0 q1 => by have hq := hRl.2.2.2.1.bin q0 (show w' < M 83 0 by have := hRl.2.2.1; omega); exact ⟨by omega, by omega⟩)) gX6_gap_X1_endOf rfl cd_X1_endOf ⟨by first | exact Nat.le_of_ble_eq_true rfl | (simp only [rm]; omega) | (simp [rm, vI, vR, Value.category]; omega), by first | exact Nat.le_of_ble_eq_true rfl | (simp only [rm]; omega) | (simp [rm, vI, vR, Value.category]; omega), by first | exact Nat.le_of_ble_eq_true rfl | (simp only [rm]; omega) | (simp [rm, vI, vR, Value.category]; omega), by first | exact Nat.le_of_ble_eq_true rfl | (simp only [rm]; omega) | (simp [rm, vI, vR, Value.category]; omega)⟩ (pg1).1 rfl rfl rfl (Nat.le_of_ble_eq_true rfl) dX6_gap_170 rfl (fun n2 hn2 => ?_)
        rw [ln] at hn2
        have e2 : n2 = sd (M 83) (line + 2) := by
          rcases hnl with ⟨z1, z2⟩ | ⟨z1, z2⟩
          · rw [z2] at hn2
            rw [EndP_n hn2, sd_L (by omega)]
          · rw [enx] at hn2
            have z := hRl.2.2.2.1.end (l := line + 1) (by omega) z1 hn2
            rw [show line + 1 + 1 = line + 2 by omega] at z
            exact z
        have hb2 : nx ≤ n2 ∧ n2 ≤ M 83 0 := by
          rw [e2]
          rcases hnl with ⟨z1, z2⟩ | ⟨z1, z2⟩
          · rw [sd_L (by omega)]; omega
          · have z3 := hD.bd (l := line + 2) (by omega) (by omega)
            have z4 := (hD.2.2.2.2.2.2 (line + 1) (by omega) z1).1
            rw [show line + 1 + 1 = line + 2 by omega] at z4
            omega
        refine j_callVE (q := 176) F [vI (f + g), vI nx, vI n2] (ct_X4_gapsThatMeet l X hX Ml 45 (sh45) hsb (f + g) nx n2 (by omega) (by omega)) gX6_gap_X4_gapsThatMeet rfl cd_X4_gapsThatMeet ⟨by first | exact Nat.le_of_ble_eq_true rfl | (simp only [rm]; omega) | (simp [rm, vI, vR, Value.category]; omega), by first | exact Nat.le_of_ble_eq_true rfl | (simp only [rm]; omega) | (simp [rm, vI, vR, Value.category]; omega), by first | exact Nat.le_of_ble_eq_true rfl | (simp only [rm]; omega) | (simp [rm, vI, vR, Value.category]; omega), by first | exact Nat.le_of_ble_eq_true rfl | (simp only [rm]; omega) | (simp [rm, vI, vR, Value.category]; omega)⟩ (sh45).1 rfl rfl rfl (Nat.le_of_ble_eq_true rfl) dX6_gap_173 rfl ?_
        refine hret _ _ _ _ dX6_gap_176 ?_
        · refine ⟨fun q hq => lfr q (by omega), fun r' N hO => ?_⟩
          obtain ⟨qs, hO⟩ := hO
          refine ⟨?_, crel_lay hl.2.1 hl.2.2 hC qs⟩
          rcases hO with ⟨o0, o1⟩ | ⟨o0, o1, o2, o3, o4, o5, o6⟩
          · exact absurd hig o0
          · rw [o5 rfl, ← ef]; unfold beD; rw [← enx, ← e2, mt_cnt hD hl.1 (by omega) (by omega) (by omega), mt_cnt hD hl.1 (by omega) (by omega) (by omega)]
      · skip
        refine j_tableOut (tgt := 177) F dX6_gap_69 ⟨by omega, by omega⟩ hs_6 (by decide) ?_
        refine j_iconst (q := 178) F dX6_gap_177 rfl ?_
        refine hret _ _ _ _ dX6_gap_178 ?_
        · refine ⟨fun q hq => lfr q (by omega), fun r' N hO => ?_⟩
          obtain ⟨qs, hO⟩ := hO
          refine ⟨?_, crel_lay hl.2.1 hl.2.2 hC qs⟩
          rcases hO with ⟨o0, o1⟩ | ⟨o0, o1, o2, o3, o4, o5, o6⟩
          · exact absurd hig o0
          · exact (o6 (by omega)).symm
    · skip
      refine j_if_ne (q := 49) (tgt := 51) F dX6_gap_46 (by decide) rfl ⟨by decide, by decide⟩ (fun h => absurd h (by decide)) (fun _ => ?_)
      refine j_iconst (q := 50) F dX6_gap_49 rfl ?_
      refine hret _ _ _ _ dX6_gap_50 ?_
      · refine ⟨fun _ _ => rfl, fun r' N hO => ?_⟩
        obtain ⟨qs, hO⟩ := hO
        refine ⟨?_, hC.same (fun _ _ => rfl) qs⟩
        rcases hO with ⟨o0, o1⟩ | ⟨o0, o1⟩
        · omega
        · exfalso; have z1 := o0.2.1; have z2 := o0.2.2; omega
  · skip
    have hli : line < 0 ∨ M 83 3 ≤ line := by rw [← hct]; exact hli
    refine j_if_ne (q := 11) (tgt := 13) F dX6_gap_8 (by decide) rfl ⟨by decide, by decide⟩ (fun h => absurd h (by decide)) (fun _ => ?_)
    refine j_iconst (q := 12) F dX6_gap_11 rfl ?_
    refine hret _ _ _ _ dX6_gap_12 ?_
    · refine ⟨fun _ _ => rfl, fun r' N hO => ?_⟩
      obtain ⟨qs, hO⟩ := hO
      refine ⟨?_, hC.same (fun _ _ => rfl) qs⟩
      rcases hO with ⟨o0, o1⟩ | ⟨o0, o1⟩
      · omega
      · exfalso; have z1 := o0.1.1; have z2 := o0.1.2; omega