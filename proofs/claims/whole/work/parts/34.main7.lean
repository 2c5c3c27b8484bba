theorem cd_X4_gapColumn : yX4_gapColumn.cls = RX4 ∧ yX4_gapColumn.cls ≠ "java/lang/invoke/MethodHandle" ∧ yX4_gapColumn.cls ≠ "java/lang/invoke/VarHandle" ∧ (parseMethodDescriptor yX4_gapColumn.desc).map (fun d => d.parameters.length) = some 1 := by decide +kernel
theorem cd_X4_gapWidth : yX4_gapWidth.cls = RX4 ∧ yX4_gapWidth.cls ≠ "java/lang/invoke/MethodHandle" ∧ yX4_gapWidth.cls ≠ "java/lang/invoke/VarHandle" ∧ (parseMethodDescriptor yX4_gapWidth.desc).map (fun d => d.parameters.length) = some 1 := by decide +kernel
theorem cd_X4_reachOf : yX4_reachOf.cls = RX4 ∧ yX4_reachOf.cls ≠ "java/lang/invoke/MethodHandle" ∧ yX4_reachOf.cls ≠ "java/lang/invoke/VarHandle" ∧ (parseMethodDescriptor yX4_reachOf.desc).map (fun d => d.parameters.length) = some 1 := by decide +kernel
theorem fl_X6_gap_10 : Cond.fieldLink RX6 10 "WhiteRivers" "page" "LWhiteRivers$Page;" ∈ wsX6_gap := by decide +kernel
theorem fl_X6_gap_26 : Cond.fieldLink RX6 26 "WhiteRivers" "sheet" "LWhiteRivers$Sheet;" ∈ wsX6_gap := by decide +kernel
theorem in_X6_gap_6 : ∀ w ∈ u_ws RX6 TX6 5, w ∈ wsX6_gap := by decide +kernel
set_option maxRecDepth 100000 in
set_option maxHeartbeats 1000000 in
theorem ct_X6_gap (l : Launch) (X : Cx) (hX : Inj X) (M : Mem) (hC : CRel M M) (line : Int) (hli0 : inR line) (g w : Int) (hg00 : inR g) (hw00 : inR w) : CtI l X yX6_gap wsX6_gap 5 [vR X 0, vI line, vI g, vI w] M (fun r M' => CPO M (Ogap M line g w) r M') := by
  refine CtI_of (cc := cX6_gap) (maxL := 7) hX (by decide +kernel) rfl (Nat.le_of_ble_eq_true rfl) ?_
  intro zp ze zs zm zargs zbelow zmeth zc zQ F hret
  show J zp l ze (rm 5) zs zm zargs zbelow zmeth zc 0 0 zQ zs.heap X 7 M 0 [(0, vR X 0), (1, vI line), (2, vI g), (3, vI w)] []
  have hR := hC.1
  have hD := hC.2.1
  have hn : M 1 2 = M 83 0 := hR.2.2.1
  have hw0 : M 1 0 = M 83 1 := hR.1
  have hs0 : M 1 1 = M 83 2 := hR.2.1
  have hnn := hD.1
  have hww := hD.2.1
  have hss := hD.2.2.1
  have hL24 := hD.L24
  have hl8 : ∀ w, 0 ≤ w → w < 24 → 0 ≤ M 3 w ∧ M 3 w ≤ 8 := hR.2.2.2.2.1
  have htot : cnt (M 5) (M 83 0) = M 83 3 := hR.2.2.2.1.total
  have hct : cnt (M 5) (M 1 2) = M 83 3 := by rw [hn]; exact htot
  obtain ⟨hli1, hli2⟩ := hli0
  obtain ⟨hga, hgb⟩ := hg00
  obtain ⟨hwa, hwb⟩ := hw00
  refine j_aload_n (q := 1) F dX6_gap_0 rfl rfl 0 rfl ?_
  refine j_getR (q := 4) (z := 1) (index := 10) F wr0 rfl in_X6_gap_6 0 (by decide) rfl fl_X6_gap_10 dX6_gap_1 rfl ?_
  refine j_iload_n (q := 5) F dX6_gap_4 rfl rfl 1 rfl ?_
  refine j_callVZ (q := 8) F [vI line] (ct_X1_hasLine l X hX M 1 (pg1) (by omega) line ⟨by omega, by omega⟩ (by show inR (cnt (M 5) (M 1 2)); rw [hct]; exact ⟨by omega, by omega⟩)) gX6_gap_X1_hasLine rfl cd_X1_hasLine ⟨by first | exact Nat.le_of_ble_eq_true rfl | (simp only [rm]; omega) | (simp [rm, vI, vR, Value.category]; omega), by first | exact Nat.le_of_ble_eq_true rfl | (simp only [rm]; omega) | (simp [rm, vI, vR, Value.category]; omega), by first | exact Nat.le_of_ble_eq_true rfl | (simp only [rm]; omega) | (simp [rm, vI, vR, Value.category]; omega), by first | exact Nat.le_of_ble_eq_true rfl | (simp only [rm]; omega) | (simp [rm, vI, vR, Value.category]; omega)⟩ (pg1).1 rfl rfl rfl (Nat.le_of_ble_eq_true rfl) dX6_gap_5 rfl (fun hli => ?_) (fun hli => ?_)
  · skip
    have hli : 0 ≤ line ∧ line < M 83 3 := by rw [← hct]; exact hli
    have hbl := hD.bd (l := line) hli.1 (by omega)
    have hbl1 := hD.bd (l := line + 1) (by omega) (by omega)
    have hseg := hD.2.2.2.2.2.2 line hli.1 hli.2
    refine j_if_ne (q := 11) (tgt := 13) F dX6_gap_8 (by decide) rfl ⟨by decide, by decide⟩ (fun _ => ?_) (fun h => absurd h (by decide))
    refine j_aload_n (q := 14) F dX6_gap_13 rfl rfl 0 rfl ?_
    refine j_getR (q := 17) (z := 1) (index := 10) F wr0 rfl in_X6_gap_6 0 (by decide) rfl fl_X6_gap_10 dX6_gap_14 rfl ?_
    refine j_iload_n (q := 18) F dX6_gap_17 rfl rfl 1 rfl ?_
    refine j_callVP (q := 21) F [vI line] (ct_X1_firstOf l X hX M 1 (pg1) (by omega) line ⟨by omega, by omega⟩ (fun w' q0 q1 => by have hq := hR.2.2.2.1.cntbd q0 (show w' < M 83 0 by have := hR.2.2.1; omega); exact ⟨by omega, by omega⟩)) gX6_gap_X1_firstOf rfl cd_X1_firstOf ⟨by first | exact Nat.le_of_ble_eq_true rfl | (simp only [rm]; omega) | (simp [rm, vI, vR, Value.category]; omega), by first | exact Nat.le_of_ble_eq_true rfl | (simp only [rm]; omega) | (simp [rm, vI, vR, Value.category]; omega), by first | exact Nat.le_of_ble_eq_true rfl | (simp only [rm]; omega) | (simp [rm, vI, vR, Value.category]; omega), by first | exact Nat.le_of_ble_eq_true rfl | (simp only [rm]; omega) | (simp [rm, vI, vR, Value.category]; omega)⟩ (pg1).1 rfl rfl rfl (Nat.le_of_ble_eq_true rfl) dX6_gap_18 rfl (fun f hf => ?_)
    rw [hn] at hf
    have ef : f = sd (M 83) line := hR.2.2.2.1.fst hli.1 hli.2 hf
    refine j_istore (q := 23) (lv' := [(0, vR X 0), (1, vI line), (2, vI g), (3, vI w), (4, vI f)]) F dX6_gap_21 rfl (by decide) rfl rfl ?_
    refine j_aload_n (q := 24) F dX6_gap_23 rfl rfl 0 rfl ?_
    refine j_getR (q := 27) (z := 1) (index := 10) F wr0 rfl in_X6_gap_6 0 (by decide) rfl fl_X6_gap_10 dX6_gap_24 rfl ?_
    refine j_iload (q := 29) F dX6_gap_27 rfl 4 rfl ?_
    refine j_callVP (q := 32) F [vI f] (ct_X1_endOf l X hX M 1 (pg1) (by omega) f ⟨by omega, by omega⟩ (fun w' q0 q1 => by have hq := hR.2.2.2.1.bin q0 (show w' < M 83 0 by have := hR.2.2.1; omega); exact ⟨by omega, by omega⟩)) gX6_gap_X1_endOf rfl cd_X1_endOf ⟨by first | exact Nat.le_of_ble_eq_true rfl | (simp only [rm]; omega) | (simp [rm, vI, vR, Value.category]; omega), by first | exact Nat.le_of_ble_eq_true rfl | (simp only [rm]; omega) | (simp [rm, vI, vR, Value.category]; omega), by first | exact Nat.le_of_ble_eq_true rfl | (simp only [rm]; omega) | (simp [rm, vI, vR, Value.category]; omega), by first | exact Nat.le_of_ble_eq_true rfl | (simp only [rm]; omega) | (simp [rm, vI, vR, Value.category]; omega)⟩ (pg1).1 rfl rfl rfl (Nat.le_of_ble_eq_true rfl) dX6_gap_29 rfl (fun nx hnx => ?_)
    rw [hn, ef] at hnx
    have enx : nx = sd (M 83) (line + 1) := hR.2.2.2.1.end hli.1 hli.2 hnx
    have hnl : (line + 1 = M 83 3 ∧ nx = M 83 0) ∨ (line + 1 < M 83 3 ∧ nx < M 83 0) := by
      by_cases z : line + 1 = M 83 3
      · left; exact ⟨z, by rw [enx, z]; exact sd_L (Int.le_refl _)⟩
      · right; exact ⟨by omega, by omega⟩
    refine j_istore (q := 34) (lv' := [(0, vR X 0), (1, vI line), (2, vI g), (3, vI w), (4, vI f), (5, vI nx)]) F dX6_gap_32 rfl (by decide) rfl rfl ?_
    refine j_iload_n (q := 35) F dX6_gap_34 rfl rfl 2 rfl ?_
    refine j_iconst (q := 36) F dX6_gap_35 rfl ?_
    refine j_iload (q := 38) F dX6_gap_36 rfl 5 rfl ?_
    refine j_iload (q := 40) F dX6_gap_38 rfl 4 rfl ?_
    refine j_isub (q := 41) (z := nx - f) F dX6_gap_40 rfl rfl ?_
    refine j_iconst (q := 42) F dX6_gap_41 rfl ?_
    refine j_isub (q := 43) (z := (nx - f) - 2) F dX6_gap_42 rfl rfl ?_
    refine j_callSZ (q := 46) F [vI g, vI 0, vI ((nx - f) - 2)] (ct_X6_isWithin l X hX M g 0 ((nx - f) - 2) ⟨by omega, by omega⟩ ⟨by omega, by omega⟩ ⟨by omega, by omega⟩) gX6_gap_X6_isWithin rfl cd_X6_isWithin ⟨by first | exact Nat.le_of_ble_eq_true rfl | (simp only [rm]; omega) | (simp [rm, vI, vR, Value.category]; omega), by first | exact Nat.le_of_ble_eq_true rfl | (simp only [rm]; omega) | (simp [rm, vI, vR, Value.category]; omega), by first | exact Nat.le_of_ble_eq_true rfl | (simp only [rm]; omega) | (simp [rm, vI, vR, Value.category]; omega), by first | exact Nat.le_of_ble_eq_true rfl | (simp only [rm]; omega) | (simp [rm, vI, vR, Value.category]; omega)⟩ rfl rfl (Nat.le_of_ble_eq_true rfl) dX6_gap_43 rfl (fun hwi => ?_) (fun hwi => ?_)
    · skip
      refine j_if_ne (q := 49) (tgt := 51) F dX6_gap_46 (by decide) rfl ⟨by decide, by decide⟩ (fun _ => ?_) (fun h => absurd h (by decide))
      refine j_iload (q := 53) F dX6_gap_51 rfl 4 rfl ?_
      refine j_iload_n (q := 54) F dX6_gap_53 rfl rfl 2 rfl ?_
      refine j_iadd (q := 55) (z := f + g) F dX6_gap_54 rfl rfl ?_
      refine j_istore (q := 57) (lv' := [(0, vR X 0), (1, vI line), (2, vI g), (3, vI w), (4, vI f), (5, vI nx), (6, vI (f + g))]) F dX6_gap_55 rfl (by decide) rfl rfl ?_
      have hig : isG (M 83) line g := ⟨hli, by omega, by omega⟩
      refine j_aload_n (q := 58) F dX6_gap_57 rfl rfl 0 rfl ?_
      refine j_getR (q := 61) (z := 45) (index := 26) F wr0 rfl in_X6_gap_6 2 (by decide) rfl fl_X6_gap_26 dX6_gap_58 rfl ?_
      refine j_aload_n (q := 62) F dX6_gap_61 rfl rfl 0 rfl ?_
      refine j_getR (q := 65) (z := 1) (index := 10) F wr0 rfl in_X6_gap_6 0 (by decide) rfl fl_X6_gap_10 dX6_gap_62 rfl ?_
      refine j_callVV (q := 68) F [vR X 1] (ct_X4_layAll l X hX M 45 (sh45) 1 (pg1) (by omega) (M 83) hR hD hC.2.2.2.2.2.1) gX6_gap_X4_layAll rfl cd_X4_layAll ⟨by first | exact Nat.le_of_ble_eq_true rfl | (simp only [rm]; omega) | (simp [rm, vI, vR, Value.category]; omega), by first | exact Nat.le_of_ble_eq_true rfl | (simp only [rm]; omega) | (simp [rm, vI, vR, Value.category]; omega), by first | exact Nat.le_of_ble_eq_true rfl | (simp only [rm]; omega) | (simp [rm, vI, vR, Value.category]; omega), by first | exact Nat.le_of_ble_eq_true rfl | (simp only [rm]; omega) | (simp [rm, vI, vR, Value.category]; omega)⟩ (sh45).1 rfl rfl rfl (Nat.le_of_ble_eq_true rfl) dX6_gap_65 rfl (fun Ml hl => ?_)
      have lfr : ∀ q, q < 47 ∨ 53 < q → Ml q = M q := fun q hq => hl.2.1 q (by omega) (by omega) (by omega) (by omega)
      have hRl : PRel Ml 1 (M 83) := hR.congr (lfr _ (by decide)) (lfr _ (by decide)) (lfr _ (by decide)) (lfr _ (by decide))
      have l1 : Ml 1 = M 1 := lfr 1 (by decide)
      have l3 : Ml 3 = M 3 := lfr 3 (by decide)
      have l5 : Ml 5 = M 5 := lfr 5 (by decide)
      have l7 : Ml 7 = M 7 := lfr 7 (by decide)
      have ln : Ml 1 2 = M 83 0 := hRl.2.2.1
      have lrd : ∀ w, 0 ≤ w → w < M 83 0 → Ml 53 w = RD (M 83) w := fun w a b => hl.1.reach a b
      have lrb : ∀ w, 0 ≤ w → w < M 83 0 → 0 ≤ Ml 53 w ∧ Ml 53 w ≤ 100 := fun w a b => by rw [lrd w a b]; have := RD_bd (M 83) ⟨hL24.1, hL24.2.2⟩ w; omega
      have hsb := hl.2.2
      refine j_iload_n (q := 69) F dX6_gap_68 rfl rfl 3 rfl ?_
      rcases (show w = 0 ∨ w = 1 ∨ w = 2 ∨ w = 3 ∨ w = 4 ∨ (w < 0 ∨ 4 < w) by omega) with hs_6 | hs_6 | hs_6 | hs_6 | hs_6 | hs_6
      · subst hs_6
        refine j_tableIn (tgt := 104) F dX6_gap_69 ⟨by decide, by decide⟩ ⟨by decide, by decide⟩ rfl (by decide) ?_
        refine j_aload_n (q := 105) F dX6_gap_104 rfl rfl 0 rfl ?_
        refine j_getR (q := 108) (z := 45) (index := 26) F wr0 rfl in_X6_gap_6 2 (by decide) rfl fl_X6_gap_26 dX6_gap_105 rfl ?_
        refine j_iload (q := 110) F dX6_gap_108 rfl 6 rfl ?_
        refine j_callVE (q := 113) F [vI (f + g)] (ct_X4_gapColumn l X hX Ml 45 (sh45) (f + g) (by omega) (by omega)) gX6_gap_X4_gapColumn rfl cd_X4_gapColumn ⟨by first | exact Nat.le_of_ble_eq_true rfl | (simp only [rm]; omega) | (simp [rm, vI, vR, Value.category]; omega), by first | exact Nat.le_of_ble_eq_true rfl | (simp only [rm]; omega) | (simp [rm, vI, vR, Value.category]; omega), by first | exact Nat.le_of_ble_eq_true rfl | (simp only [rm]; omega) | (simp [rm, vI, vR, Value.category]; omega), by first | exact Nat.le_of_ble_eq_true rfl | (simp only [rm]; omega) | (simp [rm, vI, vR, Value.category]; omega)⟩ (sh45).1 rfl rfl rfl (Nat.le_of_ble_eq_true rfl) dX6_gap_110 rfl ?_
        refine hret _ _ _ _ dX6_gap_113 ?_
        · refine ⟨fun q hq => lfr q (by omega), fun r' N hO => ?_⟩
          obtain ⟨qs, hO⟩ := hO
          refine ⟨?_, crel_lay hl.2.1 hl.2.2 hC qs⟩
          rcases hO with ⟨o0, o1⟩ | ⟨o0, o1, o2, o3, o4, o5, o6⟩
          · exact absurd hig o0
          · rw [o1 rfl, ← ef]; exact (hl.1.rows hD (by omega) (by omega)).2.1
      · subst hs_6
        refine j_tableIn (tgt := 114) F dX6_gap_69 ⟨by decide, by decide⟩ ⟨by decide, by decide⟩ rfl (by decide) ?_
        refine j_aload_n (q := 115) F dX6_gap_114 rfl rfl 0 rfl ?_
        refine j_getR (q := 118) (z := 45) (index := 26) F wr0 rfl in_X6_gap_6 2 (by decide) rfl fl_X6_gap_26 dX6_gap_115 rfl ?_
        refine j_iload (q := 120) F dX6_gap_118 rfl 6 rfl ?_
        refine j_callVE (q := 123) F [vI (f + g)] (ct_X4_gapWidth l X hX Ml 45 (sh45) (f + g) (by omega) (by omega)) gX6_gap_X4_gapWidth rfl cd_X4_gapWidth ⟨by first | exact Nat.le_of_ble_eq_true rfl | (simp only [rm]; omega) | (simp [rm, vI, vR, Value.category]; omega), by first | exact Nat.le_of_ble_eq_true rfl | (simp only [rm]; omega) | (simp [rm, vI, vR, Value.category]; omega), by first | exact Nat.le_of_ble_eq_true rfl | (simp only [rm]; omega) | (simp [rm, vI, vR, Value.category]; omega), by first | exact Nat.le_of_ble_eq_true rfl | (simp only [rm]; omega) | (simp [rm, vI, vR, Value.category]; omega)⟩ (sh45).1 rfl rfl rfl (Nat.le_of_ble_eq_true rfl) dX6_gap_120 rfl ?_
        refine hret _ _ _ _ dX6_gap_123 ?_
        · refine ⟨fun q hq => lfr q (by omega), fun r' N hO => ?_⟩
          obtain ⟨qs, hO⟩ := hO
          refine ⟨?_, crel_lay hl.2.1 hl.2.2 hC qs⟩
          rcases hO with ⟨o0, o1⟩ | ⟨o0, o1, o2, o3, o4, o5, o6⟩
          · exact absurd hig o0
          · rw [o2 rfl, ← ef]; exact (hl.1.rows hD (by omega) (by omega)).2.2
      · subst hs_6
        refine j_tableIn (tgt := 124) F dX6_gap_69 ⟨by decide, by decide⟩ ⟨by decide, by decide⟩ rfl (by decide) ?_
        refine j_aload_n (q := 125) F dX6_gap_124 rfl rfl 0 rfl ?_
        refine j_getR (q := 128) (z := 45) (index := 26) F wr0 rfl in_X6_gap_6 2 (by decide) rfl fl_X6_gap_26 dX6_gap_125 rfl ?_
        refine j_iload (q := 130) F dX6_gap_128 rfl 6 rfl ?_
        refine j_callVE (q := 133) F [vI (f + g)] (ct_X4_reachOf l X hX Ml 45 (sh45) (f + g) (by omega) (by omega)) gX6_gap_X4_reachOf rfl cd_X4_reachOf ⟨by first | exact Nat.le_of_ble_eq_true rfl | (simp only [rm]; omega) | (simp [rm, vI, vR, Value.category]; omega), by first | exact Nat.le_of_ble_eq_true rfl | (simp only [rm]; omega) | (simp [rm, vI, vR, Value.category]; omega), by first | exact Nat.le_of_ble_eq_true rfl | (simp only [rm]; omega) | (simp [rm, vI, vR, Value.category]; omega), by first | exact Nat.le_of_ble_eq_true rfl | (simp only [rm]; omega) | (simp [rm, vI, vR, Value.category]; omega)⟩ (sh45).1 rfl rfl rfl (Nat.le_of_ble_eq_true rfl) dX6_gap_130 rfl ?_
        refine hret _ _ _ _ dX6_gap_133 ?_
        · refine ⟨fun q hq => lfr q (by omega), fun r' N hO => ?_⟩
          obtain ⟨qs, hO⟩ := hO
          refine ⟨?_, crel_lay hl.2.1 hl.2.2 hC qs⟩
          rcases hO with ⟨o0, o1⟩ | ⟨o0, o1, o2, o3, o4, o5, o6⟩
          · exact absurd hig o0
          · rw [o3 rfl, ← ef]; exact lrd _ (by omega) (by omega)
      · subst hs_6
        refine j_tableIn (tgt := 134) F dX6_gap_69 ⟨by decide, by decide⟩ ⟨by decide, by decide⟩ rfl (by decide) ?_
        refine j_aload_n (q := 135) F dX6_gap_134 rfl rfl 0 rfl ?_
        refine j_getR (q := 138) (z := 45) (index := 26) F wr0 rfl in_X6_gap_6 2 (by decide) rfl fl_X6_gap_26 dX6_gap_135 rfl ?_
        refine j_iload (q := 140) F dX6_gap_138 rfl 6 rfl ?_
        refine j_aload_n (q := 141) F dX6_gap_140 rfl rfl 0 rfl ?_
        refine j_getR (q := 144) (z := 1) (index := 10) F wr0 rfl in_X6_gap_6 0 (by decide) rfl fl_X6_gap_10 dX6_gap_141 rfl ?_
        refine j_iload_n (q := 145) F dX6_gap_144 rfl rfl 1 rfl ?_
        refine j_iconst (q := 146) F dX6_gap_145 rfl ?_
        refine j_isub (q := 147) (z := line - 1) F dX6_gap_146 rfl rfl ?_
        refine j_callVP (q := 150) F [vI (line - 1)] (ct_X1_firstOf l X hX Ml 1 (pg1) (by omega) (line - 1) ⟨by omega, by omega⟩ (fun w' q0 q1 => by have hq := hRl.2.2.2.1.cntbd q0 (show w' < M 83 0 by have := hRl.2.2.1; omega); exact ⟨by omega, by omega⟩)) gX6_gap_X1_firstOf rfl cd_X1_firstOf ⟨by first | exact Nat.le_of_ble_eq_true rfl | (simp only [rm]; omega) | (simp [rm, vI, vR, Value.category]; omega), by first | exact Nat.le_of_ble_eq_true rfl | (simp only [rm]; omega) | (simp [rm, vI, vR, Value.category]; omega), by first | exact Nat.le_of_ble_eq_true rfl | (simp only [rm]; omega) | (simp [rm, vI, vR, Value.category]; omega), by first | exact Nat.le_of_ble_eq_true rfl | (simp only [rm]; omega) | (simp [rm, vI, vR, Value.category]; omega)⟩ (pg1).1 rfl rfl rfl (Nat.le_of_ble_eq_true rfl) dX6_gap_147 rfl (fun f1 hf1 => ?_)
        rw [ln] at hf1
        have e1 : f1 = prv (M 83) line := prv_fst hRl.2.2.2.1 hli.1 hli.2 hf1
        have hpr := hD.prvle hli.1 hli.2
        refine j_iload (q := 152) F dX6_gap_150 rfl 4 rfl ?_
        refine j_callVE (q := 155) F [vI (f + g), vI f1, vI f] (ct_X4_gapsThatMeet l X hX Ml 45 (sh45) hsb (f + g) f1 f (by omega) (by omega)) gX6_gap_X4_gapsThatMeet rfl cd_X4_gapsThatMeet ⟨by first | exact Nat.le_of_ble_eq_true rfl | (simp only [rm]; omega) | (simp [rm, vI, vR, Value.category]; omega), by first | exact Nat.le_of_ble_eq_true rfl | (simp only [rm]; omega) | (simp [rm, vI, vR, Value.category]; omega), by first | exact Nat.le_of_ble_eq_true rfl | (simp only [rm]; omega) | (simp [rm, vI, vR, Value.category]; omega), by first | exact Nat.le_of_ble_eq_true rfl | (simp only [rm]; omega) | (simp [rm, vI, vR, Value.category]; omega)⟩ (sh45).1 rfl rfl rfl (Nat.le_of_ble_eq_true rfl) dX6_gap_152 rfl ?_
        refine hret _ _ _ _ dX6_gap_155 ?_
        · refine ⟨fun q hq => lfr q (by omega), fun r' N hO => ?_⟩
          obtain ⟨qs, hO⟩ := hO
          refine ⟨?_, crel_lay hl.2.1 hl.2.2 hC qs⟩
          rcases hO with ⟨o0, o1⟩ | ⟨o0, o1, o2, o3, o4, o5, o6⟩
          · exact absurd hig o0
          · rw [o4 rfl, ← ef, ← ab_eq hD hl.1 (by omega) (by omega), lnD_eq hD hli.1 hli.2 (by omega) (by omega), ← ef, ← e1]
      · subst hs_6
        refine j_tableIn (tgt := 156) F dX6_gap_69 ⟨by decide, by decide⟩ ⟨by decide, by decide⟩ rfl (by decide) ?_
        refine j_aload_n (q := 157) F dX6_gap_156 rfl rfl 0 rfl ?_
        refine j_getR (q := 160) (z := 45) (index := 26) F wr0 rfl in_X6_gap_6 2 (by decide) rfl fl_X6_gap_26 dX6_gap_157 rfl ?_
        refine j_iload (q := 162) F dX6_gap_160 rfl 6 rfl ?_
        refine j_iload (q := 164) F dX6_gap_162 rfl 5 rfl ?_
        refine j_aload_n (q := 165) F dX6_gap_164 rfl rfl 0 rfl ?_
        refine j_getR (q := 168) (z := 1) (index := 10) F wr0 rfl in_X6_gap_6 0 (by decide) rfl fl_X6_gap_10 dX6_gap_165 rfl ?_
        refine j_iload (q := 170) F dX6_gap_168 rfl 5 rfl ?_
        refine j_callVP (q := 173) F [vI nx] (ct_X1_endOf l X hX Ml 1 (pg1) (by omega) nx ⟨by omega, by omega⟩ (fun w' q0 q1 => by have hq := hRl.2.2.2.1.bin q0 (show w' < M 83 0 by have := hRl.2.2.1; omega); exact ⟨by omega, by omega⟩)) gX6_gap_X1_endOf rfl cd_X1_endOf ⟨by first | exact Nat.le_of_ble_eq_true rfl | (simp only [rm]; omega) | (simp [rm, vI, vR, Value.category]; omega), by first | exact Nat.le_of_ble_eq_true rfl | (simp only [rm]; omega) | (simp [rm, vI, vR, Value.category]; omega), by first | exact Nat.le_of_ble_eq_true rfl | (simp only [rm]; omega) | (simp [rm, vI, vR, Value.category]; omega), by first | exact Nat.le_of_ble_eq_true rfl | (simp only [rm]; omega) | (simp [rm, vI, vR, Value.category]; omega)⟩ (pg1).1 rfl rfl rfl (Nat.le_of_ble_eq_true rfl) dX6_gap_170 rfl (fun n2 hn2 => ?_)
        rw [ln] at hn2
        have e2 : n2 = sd (M 83) (line + 2) := by
          rcases hnl with ⟨z1, z2⟩ | ⟨z1, z2⟩
          · rw [z2] at hn2
            rw [EndP_n hn2, sd_L (by omega)]
          · rw [enx] at hn2
            have z := hRl.2.2.2.1.end (l := line + 1) (by omega) z1 hn2
            rw [show line + 1 + 1 = line + 2 by omega] at z
            exact z
        have hb2 : nx ≤ n2 ∧ n2 ≤ M 83 0 := by
          rw [e2]
          rcases hnl with ⟨z1, z2⟩ | ⟨z1, z2⟩
          · rw [sd_L (by omega)]; omega
          · have z3 := hD.bd (l := line + 2) (by omega) (by omega)
            have z4 := (hD.2.2.2.2.2.2 (line + 1) (by omega) z1).1
            rw [show line + 1 + 1 = line + 2 by omega] at z4
            omega
        refine j_callVE (q := 176) F [vI (f + g), vI nx, vI n2] (ct_X4_gapsThatMeet l X hX Ml 45 (sh45) hsb (f + g) nx n2 (by omega) (by omega)) gX6_gap_X4_gapsThatMeet rfl cd_X4_gapsThatMeet ⟨by first | exact Nat.le_of_ble_eq_true rfl | (simp only [rm]; omega) | (simp [rm, vI, vR, Value.category]; omega), by first | exact Nat.le_of_ble_eq_true rfl | (simp only [rm]; omega) | (simp [rm, vI, vR, Value.category]; omega), by first | exact Nat.le_of_ble_eq_true rfl | (simp only [rm]; omega) | (simp [rm, vI, vR, Value.category]; omega), by first | exact Nat.le_of_ble_eq_true rfl | (simp only [rm]; omega) | (simp [rm, vI, vR, Value.category]; omega)⟩ (sh45).1 rfl rfl rfl (Nat.le_of_ble_eq_true rfl) dX6_gap_173 rfl ?_
        refine hret _ _ _ _ dX6_gap_176 ?_
        · refine ⟨fun q hq => lfr q (by omega), fun r' N hO => ?_⟩
          obtain ⟨qs, hO⟩ := hO
          refine ⟨?_, crel_lay hl.2.1 hl.2.2 hC qs⟩
          rcases hO with ⟨o0, o1⟩ | ⟨o0, o1, o2, o3, o4, o5, o6⟩
          · exact absurd hig o0
          · rw [o5 rfl, ← ef]; unfold beD; rw [← enx, ← e2, mt_cnt hD hl.1 (by omega) (by omega) (by omega), mt_cnt hD hl.1 (by omega) (by omega) (by omega)]
      · skip
        refine j_tableOut (tgt := 177) F dX6_gap_69 ⟨by omega, by omega⟩ hs_6 (by decide) ?_
        refine j_iconst (q := 178) F dX6_gap_177 rfl ?_
        refine hret _ _ _ _ dX6_gap_178 ?_
        · refine ⟨fun q hq => lfr q (by omega), fun r' N hO => ?_⟩
          obtain ⟨qs, hO⟩ := hO
          refine ⟨?_, crel_lay hl.2.1 hl.2.2 hC qs⟩
          rcases hO with ⟨o0, o1⟩ | ⟨o0, o1, o2, o3, o4, o5, o6⟩
          · exact absurd hig o0
          · exact (o6 (by omega)).symm
    · skip
      refine j_if_ne (q := 49) (tgt := 51) F dX6_gap_46 (by decide) rfl ⟨by decide, by decide⟩ (fun h => absurd h (by decide)) (fun _ => ?_)
      refine j_iconst (q := 50) F dX6_gap_49 rfl ?_
      refine hret _ _ _ _ dX6_gap_50 ?_
      · refine ⟨fun _ _ => rfl, fun r' N hO => ?_⟩
        obtain ⟨qs, hO⟩ := hO
        refine ⟨?_, hC.same (fun _ _ => rfl) qs⟩
        rcases hO with ⟨o0, o1⟩ | ⟨o0, o1⟩
        · omega
        · exfalso; have z1 := o0.2.1; have z2 := o0.2.2; omega
  · skip
    have hli : line < 0 ∨ M 83 3 ≤ line := by rw [← hct]; exact hli
    refine j_if_ne (q := 11) (tgt := 13) F dX6_gap_8 (by decide) rfl ⟨by decide, by decide⟩ (fun h => absurd h (by decide)) (fun _ => ?_)
    refine j_iconst (q := 12) F dX6_gap_11 rfl ?_
    refine hret _ _ _ _ dX6_gap_12 ?_
    · refine ⟨fun _ _ => rfl, fun r' N hO => ?_⟩
      obtain ⟨qs, hO⟩ := hO
      refine ⟨?_, hC.same (fun _ _ => rfl) qs⟩
      rcases hO with ⟨o0, o1⟩ | ⟨o0, o1⟩
      · omega
      · exfalso; have z1 := o0.1.1; have z2 := o0.1.2; omega
theorem fl_X6_gapAbove_10 : Cond.fieldLink RX6 10 "WhiteRivers" "page" "LWhiteRivers$Page;" ∈ wsX6_gapAbove := by decide +kernel
theorem fl_X6_gapAbove_26 : Cond.fieldLink RX6 26 "WhiteRivers" "sheet" "LWhiteRivers$Sheet;" ∈ wsX6_gapAbove := by decide +kernel
theorem in_X6_gapAbove_6 : ∀ w ∈ u_ws RX6 TX6 5, w ∈ wsX6_gapAbove := by decide +kernel
set_option maxRecDepth 100000 in
set_option maxHeartbeats 400000 in
theorem ct_X6_gapAbove (l : Launch) (X : Cx) (hX : Inj X) (M : Mem) (d : Int → Int) (hR : PRel M 1 d) (hD : DOK d) (hl : AllL M 45 d (d 3)) (hsb : SBd M 45) (b : Int) (h0 : 0 ≤ b) (h1 : b < d 0) : CtI l X yX6_gapAbove wsX6_gapAbove 2 [vR X 0, vI b] M (fun x M' => M' = M ∧ (StepR d b x ∨ x = b ∧ ∀ g, prv d (lnD d b) ≤ g → g < sd d (lnD d b) → ¬ nxD d b g)) := by
  refine CtI_of (cc := cX6_gapAbove) (maxL := 6) hX (by decide +kernel) rfl (Nat.le_of_ble_eq_true rfl) ?_
  intro zp ze zs zm zargs zbelow zmeth zc zQ F hret
  show J zp l ze (rm 2) zs zm zargs zbelow zmeth zc 0 0 zQ zs.heap X 6 M 0 [(0, vR X 0), (1, vI b)] []
  have hL24 := hD.L24
  have hnn := hD.1
  have hn : M 1 2 = d 0 := hR.2.2.1
  obtain ⟨a1, a2, a3, a4⟩ := lnD_seg hD h0 h1
  have hpr := hD.prvle a1 a2
  have hbw := hl.rows hD h0 h1
  have lrd : ∀ w, 0 ≤ w → w < d 0 → M 53 w = RD d w := fun w q0 q1 => hl.reach q0 q1
  have hrb := RD_bd d ⟨hL24.1, hL24.2.2⟩
  refine j_aload_n (q := 1) F dX6_gapAbove_0 rfl rfl 0 rfl ?_
  refine j_getR (q := 4) (z := 1) (index := 10) F wr0 rfl in_X6_gapAbove_6 0 (by decide) rfl fl_X6_gapAbove_10 dX6_gapAbove_1 rfl ?_
  refine j_iload_n (q := 5) F dX6_gapAbove_4 rfl rfl 1 rfl ?_
  refine j_callVE (q := 8) F [vI b] (ct_X1_lineOf l X hX M 1 (pg1) (by omega) b (by omega) (by omega)) gX6_gapAbove_X1_lineOf rfl cd_X1_lineOf ⟨by first | exact Nat.le_of_ble_eq_true rfl | (simp only [rm]; omega) | (simp [rm, vI, vR, Value.category]; omega), by first | exact Nat.le_of_ble_eq_true rfl | (simp only [rm]; omega) | (simp [rm, vI, vR, Value.category]; omega), by first | exact Nat.le_of_ble_eq_true rfl | (simp only [rm]; omega) | (simp [rm, vI, vR, Value.category]; omega), by first | exact Nat.le_of_ble_eq_true rfl | (simp only [rm]; omega) | (simp [rm, vI, vR, Value.category]; omega)⟩ (pg1).1 rfl rfl rfl (Nat.le_of_ble_eq_true rfl) dX6_gapAbove_5 rfl ?_
  rw [show cnt (M 5) (b + 1) - 1 = lnD d b from by have z := hR.2.2.2.1.cnt1 a1 a2 a3 a4; have z2 : cnt (M 5) (b + 1) = lnD d b + 1 := z; omega]
  refine j_istore_n (q := 9) (lv' := [(0, vR X 0), (1, vI b), (2, vI (lnD d b))]) F dX6_gapAbove_8 rfl rfl (by decide) rfl rfl ?_
  refine j_aload_n (q := 10) F dX6_gapAbove_9 rfl rfl 0 rfl ?_
  refine j_getR (q := 13) (z := 1) (index := 10) F wr0 rfl in_X6_gapAbove_6 0 (by decide) rfl fl_X6_gapAbove_10 dX6_gapAbove_10 rfl ?_
  refine j_iload_n (q := 14) F dX6_gapAbove_13 rfl rfl 2 rfl ?_
  refine j_iconst (q := 15) F dX6_gapAbove_14 rfl ?_
  refine j_isub (q := 16) (z := (lnD d b) - 1) F dX6_gapAbove_15 rfl rfl ?_
  refine j_callVP (q := 19) F [vI ((lnD d b) - 1)] (ct_X1_firstOf l X hX M 1 (pg1) (by omega) ((lnD d b) - 1) ⟨by omega, by omega⟩ (fun w' q0 q1 => by have := hR.2.2.2.1.cntbd q0 (show w' < d 0 by omega); exact ⟨by omega, by omega⟩)) gX6_gapAbove_X1_firstOf rfl cd_X1_firstOf ⟨by first | exact Nat.le_of_ble_eq_true rfl | (simp only [rm]; omega) | (simp [rm, vI, vR, Value.category]; omega), by first | exact Nat.le_of_ble_eq_true rfl | (simp only [rm]; omega) | (simp [rm, vI, vR, Value.category]; omega), by first | exact Nat.le_of_ble_eq_true rfl | (simp only [rm]; omega) | (simp [rm, vI, vR, Value.category]; omega), by first | exact Nat.le_of_ble_eq_true rfl | (simp only [rm]; omega) | (simp [rm, vI, vR, Value.category]; omega)⟩ (pg1).1 rfl rfl rfl (Nat.le_of_ble_eq_true rfl) dX6_gapAbove_16 rfl (fun f1 hf1 => ?_)
  rw [hn] at hf1
  have e1 : f1 = prv d (lnD d b) := prv_fst hR.2.2.2.1 a1 a2 hf1
  refine j_istore_n (q := 20) (lv' := [(0, vR X 0), (1, vI b), (2, vI (lnD d b)), (3, vI f1)]) F dX6_gapAbove_19 rfl rfl (by decide) rfl rfl ?_
  refine j_aload_n (q := 21) F dX6_gapAbove_20 rfl rfl 0 rfl ?_
  refine j_getR (q := 24) (z := 1) (index := 10) F wr0 rfl in_X6_gapAbove_6 0 (by decide) rfl fl_X6_gapAbove_10 dX6_gapAbove_21 rfl ?_
  refine j_iload_n (q := 25) F dX6_gapAbove_24 rfl rfl 2 rfl ?_
  refine j_callVP (q := 28) F [vI (lnD d b)] (ct_X1_firstOf l X hX M 1 (pg1) (by omega) (lnD d b) ⟨by omega, by omega⟩ (fun w' q0 q1 => by have := hR.2.2.2.1.cntbd q0 (show w' < d 0 by omega); exact ⟨by omega, by omega⟩)) gX6_gapAbove_X1_firstOf rfl cd_X1_firstOf ⟨by first | exact Nat.le_of_ble_eq_true rfl | (simp only [rm]; omega) | (simp [rm, vI, vR, Value.category]; omega), by first | exact Nat.le_of_ble_eq_true rfl | (simp only [rm]; omega) | (simp [rm, vI, vR, Value.category]; omega), by first | exact Nat.le_of_ble_eq_true rfl | (simp only [rm]; omega) | (simp [rm, vI, vR, Value.category]; omega), by first | exact Nat.le_of_ble_eq_true rfl | (simp only [rm]; omega) | (simp [rm, vI, vR, Value.category]; omega)⟩ (pg1).1 rfl rfl rfl (Nat.le_of_ble_eq_true rfl) dX6_gapAbove_25 rfl (fun f2 hf2 => ?_)
  rw [hn] at hf2
  have e2 : f2 = sd d (lnD d b) := hR.2.2.2.1.fst a1 a2 hf2
  refine j_istore (q := 30) (lv' := [(0, vR X 0), (1, vI b), (2, vI (lnD d b)), (3, vI f1), (4, vI f2)]) F dX6_gapAbove_28 rfl (by decide) rfl rfl ?_
  refine j_iload_n (q := 31) F dX6_gapAbove_30 rfl rfl 3 rfl ?_
  refine j_istore (q := 33) (lv' := [(0, vR X 0), (1, vI b), (2, vI (lnD d b)), (3, vI f1), (4, vI f2), (5, vI f1)]) F dX6_gapAbove_31 rfl (by decide) rfl rfl ?_
  have LP33 : ∀ (nn : Nat) (k : Int), (f1 ≤ k) → (k ≤ f2) → (∀ g, f1 ≤ g → g < k → ¬ nxD d b g) → (f2 - k).toNat < nn → J zp l ze (rm 2) zs zm zargs zbelow zmeth zc 0 0 zQ zs.heap X 6 M 33 [(0, vR X 0), (1, vI b), (2, vI (lnD d b)), (3, vI f1), (4, vI f2), (5, vI k)] [] := by
    intro nn
    induction nn with
    | zero => intro k g0 g1 g2 hm33; exact absurd hm33 (Nat.not_lt_zero _)
    | succ nn ih33 =>
      intro k g0 g1 g2 hm33
      refine j_iload (q := 35) F dX6_gapAbove_33 rfl 5 rfl ?_
      refine j_iload (q := 37) F dX6_gapAbove_35 rfl 4 rfl ?_
      refine j_icmp_ge (q := 40) (tgt := 84) F dX6_gapAbove_37 (by decide) rfl ⟨by omega, by omega⟩ ⟨by omega, by omega⟩ (fun h37_4 => ?_) (fun h37_4 => ?_)
      · skip
        refine j_iload_n (q := 85) F dX6_gapAbove_84 rfl rfl 1 rfl ?_
        exact hret _ _ _ _ dX6_gapAbove_85 (by exact ⟨rfl, Or.inr ⟨rfl, fun g q0 q1 => g2 g (by omega) (by omega)⟩⟩)
      · skip
        have hkw := hl.rows hD (show 0 ≤ k by omega) (show k < d 0 by omega)
        refine j_aload_n (q := 41) F dX6_gapAbove_40 rfl rfl 0 rfl ?_
        refine j_getR (q := 44) (z := 45) (index := 26) F wr0 rfl in_X6_gapAbove_6 2 (by decide) rfl fl_X6_gapAbove_26 dX6_gapAbove_41 rfl ?_
        refine j_iload (q := 46) F dX6_gapAbove_44 rfl 5 rfl ?_
        refine j_iload_n (q := 47) F dX6_gapAbove_46 rfl rfl 1 rfl ?_
        refine j_callVZ (q := 50) F [vI k, vI b] (ct_X4_meet l X hX M 45 (sh45) hsb k b (by omega) (by omega)) gX6_gapAbove_X4_meet rfl cd_X4_meet ⟨by first | exact Nat.le_of_ble_eq_true rfl | (simp only [rm]; omega) | (simp [rm, vI, vR, Value.category]; omega), by first | exact Nat.le_of_ble_eq_true rfl | (simp only [rm]; omega) | (simp [rm, vI, vR, Value.category]; omega), by first | exact Nat.le_of_ble_eq_true rfl | (simp only [rm]; omega) | (simp [rm, vI, vR, Value.category]; omega), by first | exact Nat.le_of_ble_eq_true rfl | (simp only [rm]; omega) | (simp [rm, vI, vR, Value.category]; omega)⟩ (sh45).1 rfl rfl rfl (Nat.le_of_ble_eq_true rfl) dX6_gapAbove_47 rfl (fun hm => ?_) (fun hm => ?_)
        · skip
          have hm : mtD d k b = true := by
            unfold mtD
            rw [← hkw.2.1, ← hkw.2.2, ← hbw.2.1, ← hbw.2.2]
            exact mtB_iff.mpr hm
          refine j_if_eq (q := 53) (tgt := 78) F dX6_gapAbove_50 (by decide) rfl ⟨by decide, by decide⟩ (fun h => absurd h (by decide)) (fun _ => ?_)
          refine j_aload_n (q := 54) F dX6_gapAbove_53 rfl rfl 0 rfl ?_
          refine j_getR (q := 57) (z := 45) (index := 26) F wr0 rfl in_X6_gapAbove_6 2 (by decide) rfl fl_X6_gapAbove_26 dX6_gapAbove_54 rfl ?_
          refine j_iload (q := 59) F dX6_gapAbove_57 rfl 5 rfl ?_
          refine j_callVE (q := 62) F [vI k] (ct_X4_reachOf l X hX M 45 (sh45) k (by omega) (by omega)) gX6_gapAbove_X4_reachOf rfl cd_X4_reachOf ⟨by first | exact Nat.le_of_ble_eq_true rfl | (simp only [rm]; omega) | (simp [rm, vI, vR, Value.category]; omega), by first | exact Nat.le_of_ble_eq_true rfl | (simp only [rm]; omega) | (simp [rm, vI, vR, Value.category]; omega), by first | exact Nat.le_of_ble_eq_true rfl | (simp only [rm]; omega) | (simp [rm, vI, vR, Value.category]; omega), by first | exact Nat.le_of_ble_eq_true rfl | (simp only [rm]; omega) | (simp [rm, vI, vR, Value.category]; omega)⟩ (sh45).1 rfl rfl rfl (Nat.le_of_ble_eq_true rfl) dX6_gapAbove_59 rfl ?_
          rw [show M 53 k = RD d k from by exact lrd k (by omega) (by omega)]
          refine j_aload_n (q := 63) F dX6_gapAbove_62 rfl rfl 0 rfl ?_
          refine j_getR (q := 66) (z := 45) (index := 26) F wr0 rfl in_X6_gapAbove_6 2 (by decide) rfl fl_X6_gapAbove_26 dX6_gapAbove_63 rfl ?_
          refine j_iload_n (q := 67) F dX6_gapAbove_66 rfl rfl 1 rfl ?_
          refine j_callVE (q := 70) F [vI b] (ct_X4_reachOf l X hX M 45 (sh45) b (by omega) (by omega)) gX6_gapAbove_X4_reachOf rfl cd_X4_reachOf ⟨by first | exact Nat.le_of_ble_eq_true rfl | (simp only [rm]; omega) | (simp [rm, vI, vR, Value.category]; omega), by first | exact Nat.le_of_ble_eq_true rfl | (simp only [rm]; omega) | (simp [rm, vI, vR, Value.category]; omega), by first | exact Nat.le_of_ble_eq_true rfl | (simp only [rm]; omega) | (simp [rm, vI, vR, Value.category]; omega), by first | exact Nat.le_of_ble_eq_true rfl | (simp only [rm]; omega) | (simp [rm, vI, vR, Value.category]; omega)⟩ (sh45).1 rfl rfl rfl (Nat.le_of_ble_eq_true rfl) dX6_gapAbove_67 rfl ?_
          rw [show M 53 b = RD d b from by exact lrd b (by omega) (by omega)]
          refine j_iconst (q := 71) F dX6_gapAbove_70 rfl ?_
          refine j_isub (q := 72) (z := (RD d b) - 1) F dX6_gapAbove_71 rfl rfl ?_
          refine j_icmp_ne (q := 75) (tgt := 78) F dX6_gapAbove_72 (by decide) rfl (by have := hrb k; exact ⟨by omega, by omega⟩) (by have := hrb b; exact ⟨by omega, by omega⟩) (fun h72_8 => ?_) (fun h72_8 => ?_)
          · skip
            refine j_iinc (q := 81) (lv' := [(0, vR X 0), (1, vI b), (2, vI (lnD d b)), (3, vI f1), (4, vI f2), (5, vI (k + 1))]) F dX6_gapAbove_78 rfl 5 rfl (by decide) rfl rfl ?_
            refine j_goto (q := 33) F dX6_gapAbove_81 (by decide) ?_
            refine ih33 (k + 1) (by omega) (by omega) ?_ (by omega)
            · intro g q0 q1; by_cases hg : g = k
              · subst hg; intro z; first | exact hm z.1 | (have := z.2; omega)
              · exact g2 g q0 (by omega)
          · skip
            refine j_iload (q := 77) F dX6_gapAbove_75 rfl 5 rfl ?_
            exact hret _ _ _ _ dX6_gapAbove_77 (by exact ⟨rfl, Or.inl ⟨by omega, by omega, ⟨hm, by omega⟩, fun x q0 q1 => g2 x (by omega) q1⟩⟩)
        · skip
          have hm : ¬ mtD d k b = true := by
            unfold mtD
            rw [← hkw.2.1, ← hkw.2.2, ← hbw.2.1, ← hbw.2.2]
            exact fun z => hm (mtB_iff.mp z)
          refine j_if_eq (q := 53) (tgt := 78) F dX6_gapAbove_50 (by decide) rfl ⟨by decide, by decide⟩ (fun _ => ?_) (fun h => absurd h (by decide))
          refine j_iinc (q := 81) (lv' := [(0, vR X 0), (1, vI b), (2, vI (lnD d b)), (3, vI f1), (4, vI f2), (5, vI (k + 1))]) F dX6_gapAbove_78 rfl 5 rfl (by decide) rfl rfl ?_
          refine j_goto (q := 33) F dX6_gapAbove_81 (by decide) ?_
          refine ih33 (k + 1) (by omega) (by omega) ?_ (by omega)
          · intro g q0 q1; by_cases hg : g = k
            · subst hg; intro z; first | exact hm z.1 | (have := z.2; omega)
            · exact g2 g q0 (by omega)
  exact LP33 _ f1 (by omega) (by omega) (by intro g q0 q1; omega) (by exact Nat.lt_succ_self _)
theorem cd_X4_firstOfReach : yX4_firstOfReach.cls = RX4 ∧ yX4_firstOfReach.cls ≠ "java/lang/invoke/MethodHandle" ∧ yX4_firstOfReach.cls ≠ "java/lang/invoke/VarHandle" ∧ (parseMethodDescriptor yX4_firstOfReach.desc).map (fun d => d.parameters.length) = some 3 := by decide +kernel
theorem cd_X6_gapAbove : yX6_gapAbove.cls = RX6 ∧ yX6_gapAbove.cls ≠ "java/lang/invoke/MethodHandle" ∧ yX6_gapAbove.cls ≠ "java/lang/invoke/VarHandle" ∧ (parseMethodDescriptor yX6_gapAbove.desc).map (fun d => d.parameters.length) = some 1 := by decide +kernel
theorem fl_X6_river_10 : Cond.fieldLink RX6 10 "WhiteRivers" "page" "LWhiteRivers$Page;" ∈ wsX6_river := by decide +kernel
theorem fl_X6_river_26 : Cond.fieldLink RX6 26 "WhiteRivers" "sheet" "LWhiteRivers$Sheet;" ∈ wsX6_river := by decide +kernel
theorem fl_X6_river_68 : Cond.fieldLink RX6 68 "WhiteRivers$Page" "words" "I" ∈ wsX6_river := by decide +kernel
theorem in_X6_river_1 : ∀ w ∈ u_ws RX1 TX1 6, w ∈ wsX6_river := by decide +kernel
theorem in_X6_river_6 : ∀ w ∈ u_ws RX6 TX6 5, w ∈ wsX6_river := by decide +kernel
set_option maxRecDepth 100000 in
set_option maxHeartbeats 1000000 in
theorem ct_X6_river (l : Launch) (X : Cx) (hX : Inj X) (M : Mem) (hC : CRel M M) (i w : Int) (hi00 : inR i) (hw00 : inR w) : CtI l X yX6_river wsX6_river 5 [vR X 0, vI i, vI w] M (fun r M' => CPO M (Oriver M i w) r M') := by
  refine CtI_of (cc := cX6_river) (maxL := 6) hX (by decide +kernel) rfl (Nat.le_of_ble_eq_true rfl) ?_
  intro zp ze zs zm zargs zbelow zmeth zc zQ F hret
  show J zp l ze (rm 5) zs zm zargs zbelow zmeth zc 0 0 zQ zs.heap X 6 M 0 [(0, vR X 0), (1, vI i), (2, vI w)] []
  have hR := hC.1
  have hD := hC.2.1
  have hn : M 1 2 = M 83 0 := hR.2.2.1
  have hw0 : M 1 0 = M 83 1 := hR.1
  have hs0 : M 1 1 = M 83 2 := hR.2.1
  have hnn := hD.1
  have hww := hD.2.1
  have hss := hD.2.2.1
  have hL24 := hD.L24
  have hl8 : ∀ w, 0 ≤ w → w < 24 → 0 ≤ M 3 w ∧ M 3 w ≤ 8 := hR.2.2.2.2.1
  have htot : cnt (M 5) (M 83 0) = M 83 3 := hR.2.2.2.1.total
  have hct : cnt (M 5) (M 1 2) = M 83 3 := by rw [hn]; exact htot
  obtain ⟨hia, hib⟩ := hi00
  obtain ⟨hwa, hwb⟩ := hw00
  have hLR := LR_bd hD
  refine j_iload_n (q := 1) F dX6_river_0 rfl rfl 1 rfl ?_
  refine j_if_lt (q := 4) (tgt := 13) F dX6_river_1 (by decide) rfl ⟨by omega, by omega⟩ (fun h1_1 => ?_) (fun h1_1 => ?_)
  · skip
    refine j_iconst (q := 14) F dX6_river_13 rfl ?_
    refine hret _ _ _ _ dX6_river_14 ?_
    · refine ⟨fun _ _ => rfl, fun r' N hO => ?_⟩
      obtain ⟨qs, hO⟩ := hO
      refine ⟨?_, hC.same (fun _ _ => rfl) qs⟩
      rcases hO with ⟨o0, o1⟩ | ⟨o0, o1, o2⟩ | ⟨o0, o1, o2⟩
      · omega
      · exfalso; have z1 := o0.1; have z2 := o0.2.1; have z3 := o0.2.2; omega
      · exfalso; have z1 := o0.1; have z2 := o0.2.1; have z3 := o0.2.2; omega
  · skip
    refine j_iload_n (q := 5) F dX6_river_4 rfl rfl 2 rfl ?_
    refine j_iconst (q := 6) F dX6_river_5 rfl ?_
    refine j_iconst (q := 7) F dX6_river_6 rfl ?_
    refine j_callSZ (q := 10) F [vI w, vI 0, vI 1] (ct_X6_isWithin l X hX M w 0 1 ⟨by omega, by omega⟩ ⟨by omega, by omega⟩ ⟨by omega, by omega⟩) gX6_river_X6_isWithin rfl cd_X6_isWithin ⟨by first | exact Nat.le_of_ble_eq_true rfl | (simp only [rm]; omega) | (simp [rm, vI, vR, Value.category]; omega), by first | exact Nat.le_of_ble_eq_true rfl | (simp only [rm]; omega) | (simp [rm, vI, vR, Value.category]; omega), by first | exact Nat.le_of_ble_eq_true rfl | (simp only [rm]; omega) | (simp [rm, vI, vR, Value.category]; omega), by first | exact Nat.le_of_ble_eq_true rfl | (simp only [rm]; omega) | (simp [rm, vI, vR, Value.category]; omega)⟩ rfl rfl (Nat.le_of_ble_eq_true rfl) dX6_river_7 rfl (fun hwi => ?_) (fun hwi => ?_)
    · skip
      refine j_if_ne (q := 13) (tgt := 15) F dX6_river_10 (by decide) rfl ⟨by decide, by decide⟩ (fun _ => ?_) (fun h => absurd h (by decide))
      refine j_aload_n (q := 16) F dX6_river_15 rfl rfl 0 rfl ?_
      refine j_getR (q := 19) (z := 45) (index := 26) F wr0 rfl in_X6_river_6 2 (by decide) rfl fl_X6_river_26 dX6_river_16 rfl ?_
      refine j_aload_n (q := 20) F dX6_river_19 rfl rfl 0 rfl ?_
      refine j_getR (q := 23) (z := 1) (index := 10) F wr0 rfl in_X6_river_6 0 (by decide) rfl fl_X6_river_10 dX6_river_20 rfl ?_
      refine j_callVV (q := 26) F [vR X 1] (ct_X4_layAll l X hX M 45 (sh45) 1 (pg1) (by omega) (M 83) hR hD hC.2.2.2.2.2.1) gX6_river_X4_layAll rfl cd_X4_layAll ⟨by first | exact Nat.le_of_ble_eq_true rfl | (simp only [rm]; omega) | (simp [rm, vI, vR, Value.category]; omega), by first | exact Nat.le_of_ble_eq_true rfl | (simp only [rm]; omega) | (simp [rm, vI, vR, Value.category]; omega), by first | exact Nat.le_of_ble_eq_true rfl | (simp only [rm]; omega) | (simp [rm, vI, vR, Value.category]; omega), by first | exact Nat.le_of_ble_eq_true rfl | (simp only [rm]; omega) | (simp [rm, vI, vR, Value.category]; omega)⟩ (sh45).1 rfl rfl rfl (Nat.le_of_ble_eq_true rfl) dX6_river_23 rfl (fun Ml hl => ?_)
      have lfr : ∀ q, q < 47 ∨ 53 < q → Ml q = M q := fun q hq => hl.2.1 q (by omega) (by omega) (by omega) (by omega)
      have hRl : PRel Ml 1 (M 83) := hR.congr (lfr _ (by decide)) (lfr _ (by decide)) (lfr _ (by decide)) (lfr _ (by decide))
      have l1 : Ml 1 = M 1 := lfr 1 (by decide)
      have l3 : Ml 3 = M 3 := lfr 3 (by decide)
      have l5 : Ml 5 = M 5 := lfr 5 (by decide)
      have l7 : Ml 7 = M 7 := lfr 7 (by decide)
      have ln : Ml 1 2 = M 83 0 := hRl.2.2.1
      have lrd : ∀ w, 0 ≤ w → w < M 83 0 → Ml 53 w = RD (M 83) w := fun w a b => hl.1.reach a b
      have lrb : ∀ w, 0 ≤ w → w < M 83 0 → 0 ≤ Ml 53 w ∧ Ml 53 w ≤ 100 := fun w a b => by rw [lrd w a b]; have := RD_bd (M 83) ⟨hL24.1, hL24.2.2⟩ w; omega
      have hsb := hl.2.2
      refine j_aload_n (q := 27) F dX6_river_26 rfl rfl 0 rfl ?_
      refine j_getR (q := 30) (z := 45) (index := 26) F wr0 rfl in_X6_river_6 2 (by decide) rfl fl_X6_river_26 dX6_river_27 rfl ?_
      refine j_iconst (q := 31) F dX6_river_30 rfl ?_
      refine j_aload_n (q := 32) F dX6_river_31 rfl rfl 0 rfl ?_
      refine j_getR (q := 35) (z := 1) (index := 10) F wr0 rfl in_X6_river_6 0 (by decide) rfl fl_X6_river_10 dX6_river_32 rfl ?_
      refine j_getI (q := 38) (i := 2) (index := 68) F (pg1).1 rfl in_X6_river_1 2 (by decide) rfl rfl fl_X6_river_68 dX6_river_35 rfl ?_
      refine j_callVE (q := 41) F [vI 0, vI (Ml 1 2)] (ct_X4_greatestReach l X hX Ml 45 (sh45) 0 (Ml 1 2) (by omega) (by rw [ln]; exact lrb)) gX6_river_X4_greatestReach rfl cd_X4_greatestReach ⟨by first | exact Nat.le_of_ble_eq_true rfl | (simp only [rm]; omega) | (simp [rm, vI, vR, Value.category]; omega), by first | exact Nat.le_of_ble_eq_true rfl | (simp only [rm]; omega) | (simp [rm, vI, vR, Value.category]; omega), by first | exact Nat.le_of_ble_eq_true rfl | (simp only [rm]; omega) | (simp [rm, vI, vR, Value.category]; omega), by first | exact Nat.le_of_ble_eq_true rfl | (simp only [rm]; omega) | (simp [rm, vI, vR, Value.category]; omega)⟩ (sh45).1 rfl rfl rfl (Nat.le_of_ble_eq_true rfl) dX6_river_38 rfl ?_
      rw [show mx (fun _ => true) (Ml 53) 0 (Ml 1 2) = LR (M 83) from by rw [ln]; exact mx_congr (fun w a b => ⟨rfl, fun _ => lrd w a b⟩)]
      refine j_istore_n (q := 42) (lv' := [(0, vR X 0), (1, vI i), (2, vI w), (3, vI (LR (M 83)))]) F dX6_river_41 rfl rfl (by decide) rfl rfl ?_
      refine j_iload_n (q := 43) F dX6_river_42 rfl rfl 1 rfl ?_
      refine j_iload_n (q := 44) F dX6_river_43 rfl rfl 3 rfl ?_
      refine j_icmp_lt (q := 47) (tgt := 50) F dX6_river_44 (by decide) rfl ⟨by omega, by omega⟩ ⟨by omega, by omega⟩ (fun h44_5 => ?_) (fun h44_5 => ?_)
      · skip
        refine j_aload_n (q := 51) F dX6_river_50 rfl rfl 0 rfl ?_
        refine j_getR (q := 54) (z := 45) (index := 26) F wr0 rfl in_X6_river_6 2 (by decide) rfl fl_X6_river_26 dX6_river_51 rfl ?_
        refine j_iload_n (q := 55) F dX6_river_54 rfl rfl 3 rfl ?_
        refine j_iconst (q := 56) F dX6_river_55 rfl ?_
        refine j_aload_n (q := 57) F dX6_river_56 rfl rfl 0 rfl ?_
        refine j_getR (q := 60) (z := 1) (index := 10) F wr0 rfl in_X6_river_6 0 (by decide) rfl fl_X6_river_10 dX6_river_57 rfl ?_
        refine j_getI (q := 63) (i := 2) (index := 68) F (pg1).1 rfl in_X6_river_1 2 (by decide) rfl rfl fl_X6_river_68 dX6_river_60 rfl ?_
        refine j_callVP (q := 66) F [vI (LR (M 83)), vI 0, vI (Ml 1 2)] (ct_X4_firstOfReach l X hX Ml 45 (sh45) (LR (M 83)) 0 (Ml 1 2) ⟨by omega, by omega⟩ (by omega) (by rw [ln]; exact lrb)) gX6_river_X4_firstOfReach rfl cd_X4_firstOfReach ⟨by first | exact Nat.le_of_ble_eq_true rfl | (simp only [rm]; omega) | (simp [rm, vI, vR, Value.category]; omega), by first | exact Nat.le_of_ble_eq_true rfl | (simp only [rm]; omega) | (simp [rm, vI, vR, Value.category]; omega), by first | exact Nat.le_of_ble_eq_true rfl | (simp only [rm]; omega) | (simp [rm, vI, vR, Value.category]; omega), by first | exact Nat.le_of_ble_eq_true rfl | (simp only [rm]; omega) | (simp [rm, vI, vR, Value.category]; omega)⟩ (sh45).1 rfl rfl rfl (Nat.le_of_ble_eq_true rfl) dX6_river_63 rfl (fun b0 hb0 => ?_)
        rw [ln] at hb0
        have hF : FstR (M 83) b0 := first_reach hD lrd (by omega) hb0
        refine j_istore (q := 68) (lv' := [(0, vR X 0), (1, vI i), (2, vI w), (3, vI (LR (M 83))), (4, vI b0)]) F dX6_river_66 rfl (by decide) rfl rfl ?_
        refine j_iconst (q := 69) F dX6_river_68 rfl ?_
        refine j_istore (q := 71) (lv' := [(0, vR X 0), (1, vI i), (2, vI w), (3, vI (LR (M 83))), (4, vI b0), (5, vI 0)]) F dX6_river_69 rfl (by decide) rfl rfl ?_
        have LP71 : ∀ (nn : Nat) (b k : Int) (fs : Int → Int), (0 ≤ k) → (k ≤ i) → (FstR (M 83) (fs 0)) → (∀ j, 0 ≤ j → j < k → StepR (M 83) (fs j) (fs (j + 1))) → (fs k = b) → (i - k).toNat < nn → J zp l ze (rm 5) zs zm zargs zbelow zmeth zc 0 0 zQ zs.heap X 6 Ml 71 [(0, vR X 0), (1, vI i), (2, vI w), (3, vI (LR (M 83))), (4, vI b), (5, vI k)] [] := by
          intro nn
          induction nn with
          | zero => intro b k fs g0 g1 hF hSt hfk hm71; exact absurd hm71 (Nat.not_lt_zero _)
          | succ nn ih71 =>
            intro b k fs g0 g1 hF hSt hfk hm71
            have hbb : 0 ≤ b ∧ b < M 83 0 ∧ RD (M 83) b = LR (M 83) - k := by
              have z := RivR.reach hD hF hSt k.toNat (by omega)
              rw [Int.toNat_of_nonneg g0, hfk] at z
              exact z
            refine j_iload (q := 73) F dX6_river_71 rfl 5 rfl ?_
            refine j_iload_n (q := 74) F dX6_river_73 rfl rfl 1 rfl ?_
            refine j_icmp_ge (q := 77) (tgt := 91) F dX6_river_74 (by decide) rfl ⟨by omega, by omega⟩ ⟨by omega, by omega⟩ (fun h74_7 => ?_) (fun h74_7 => ?_)
            · skip
              have hkk : k = i := by omega
              have hSt : ∀ j, 0 ≤ j → j < i → StepR (M 83) (fs j) (fs (j + 1)) := by rw [← hkk]; exact hSt
              refine j_aload_n (q := 92) F dX6_river_91 rfl rfl 0 rfl ?_
              refine j_getR (q := 95) (z := 1) (index := 10) F wr0 rfl in_X6_river_6 0 (by decide) rfl fl_X6_river_10 dX6_river_92 rfl ?_
              refine j_iload (q := 97) F dX6_river_95 rfl 4 rfl ?_
              refine j_callVE (q := 100) F [vI b] (ct_X1_lineOf l X hX Ml 1 (pg1) (by omega) b (by omega) (by omega)) gX6_river_X1_lineOf rfl cd_X1_lineOf ⟨by first | exact Nat.le_of_ble_eq_true rfl | (simp only [rm]; omega) | (simp [rm, vI, vR, Value.category]; omega), by first | exact Nat.le_of_ble_eq_true rfl | (simp only [rm]; omega) | (simp [rm, vI, vR, Value.category]; omega), by first | exact Nat.le_of_ble_eq_true rfl | (simp only [rm]; omega) | (simp [rm, vI, vR, Value.category]; omega), by first | exact Nat.le_of_ble_eq_true rfl | (simp only [rm]; omega) | (simp [rm, vI, vR, Value.category]; omega)⟩ (pg1).1 rfl rfl rfl (Nat.le_of_ble_eq_true rfl) dX6_river_97 rfl ?_
              rw [show cnt (Ml 5) (b + 1) - 1 = lnD (M 83) b from by obtain ⟨a1, a2, a3, a4⟩ := lnD_seg hD hbb.1 hbb.2.1; have z := hRl.2.2.2.1.cnt1 a1 a2 a3 a4; have z2 : cnt (Ml 5) (b + 1) = lnD (M 83) b + 1 := z; omega]
              refine j_istore (q := 102) (lv' := [(0, vR X 0), (1, vI i), (2, vI w), (3, vI (LR (M 83))), (4, vI b), (5, vI (lnD (M 83) b))]) F dX6_river_100 rfl (by decide) rfl rfl ?_
              refine j_iload_n (q := 103) F dX6_river_102 rfl rfl 2 rfl ?_
              refine j_if_ne (q := 106) (tgt := 111) F dX6_river_103 (by decide) rfl ⟨by omega, by omega⟩ (fun h103_9 => ?_) (fun h103_9 => ?_)
              · skip
                refine j_iload (q := 113) F dX6_river_111 rfl 4 rfl ?_
                refine j_aload_n (q := 114) F dX6_river_113 rfl rfl 0 rfl ?_
                refine j_getR (q := 117) (z := 1) (index := 10) F wr0 rfl in_X6_river_6 0 (by decide) rfl fl_X6_river_10 dX6_river_114 rfl ?_
                refine j_iload (q := 119) F dX6_river_117 rfl 5 rfl ?_
                refine j_callVP (q := 122) F [vI (lnD (M 83) b)] (ct_X1_firstOf l X hX Ml 1 (pg1) (by omega) (lnD (M 83) b) (by obtain ⟨a1, a2, a3, a4⟩ := lnD_seg hD hbb.1 hbb.2.1; exact ⟨by omega, by omega⟩) (fun w' q0 q1 => by have hq := hRl.2.2.2.1.cntbd q0 (show w' < M 83 0 by have := hRl.2.2.1; omega); exact ⟨by omega, by omega⟩)) gX6_river_X1_firstOf rfl cd_X1_firstOf ⟨by first | exact Nat.le_of_ble_eq_true rfl | (simp only [rm]; omega) | (simp [rm, vI, vR, Value.category]; omega), by first | exact Nat.le_of_ble_eq_true rfl | (simp only [rm]; omega) | (simp [rm, vI, vR, Value.category]; omega), by first | exact Nat.le_of_ble_eq_true rfl | (simp only [rm]; omega) | (simp [rm, vI, vR, Value.category]; omega), by first | exact Nat.le_of_ble_eq_true rfl | (simp only [rm]; omega) | (simp [rm, vI, vR, Value.category]; omega)⟩ (pg1).1 rfl rfl rfl (Nat.le_of_ble_eq_true rfl) dX6_river_119 rfl (fun fb hfb9 => ?_)
                rw [ln] at hfb9
                have efb : fb = sd (M 83) (lnD (M 83) b) := by
                  obtain ⟨a1, a2, a3, a4⟩ := lnD_seg hD hbb.1 hbb.2.1
                  exact hRl.2.2.2.1.fst a1 a2 hfb9
                refine j_isub (q := 123) (z := b - fb) F dX6_river_122 rfl rfl ?_
                refine hret _ _ _ _ dX6_river_123 ?_
                · refine ⟨fun q hq => lfr q (by omega), fun r' N hO => ?_⟩
                  obtain ⟨qs, hO⟩ := hO
                  refine ⟨?_, crel_lay hl.2.1 hl.2.2 hC qs⟩
                  rcases hO with ⟨o0, o1⟩ | ⟨o0, o1, o2⟩ | ⟨o0, o1, bb, o3, o4⟩
                  · exact absurd ⟨by omega, by omega, by omega⟩ o0
                  · omega
                  · have hbu : b = bb := RivR.uniq (by omega) ⟨fs, hF, hSt, by rw [← hkk]; exact hfk⟩ o3
                    subst hbu
                    rw [o4]
                    first | rw [if_pos (by omega)] | (rw [if_neg (by omega)]; omega)
              · skip
                refine j_iload (q := 108) F dX6_river_106 rfl 5 rfl ?_
                refine j_goto (q := 123) F dX6_river_108 (by decide) ?_
                refine hret _ _ _ _ dX6_river_123 ?_
                · refine ⟨fun q hq => lfr q (by omega), fun r' N hO => ?_⟩
                  obtain ⟨qs, hO⟩ := hO
                  refine ⟨?_, crel_lay hl.2.1 hl.2.2 hC qs⟩
                  rcases hO with ⟨o0, o1⟩ | ⟨o0, o1, o2⟩ | ⟨o0, o1, bb, o3, o4⟩
                  · exact absurd ⟨by omega, by omega, by omega⟩ o0
                  · omega
                  · have hbu : b = bb := RivR.uniq (by omega) ⟨fs, hF, hSt, by rw [← hkk]; exact hfk⟩ o3
                    subst hbu
                    rw [o4]
                    first | rw [if_pos (by omega)] | (rw [if_neg (by omega)]; omega)
            · skip
              refine j_aload_n (q := 78) F dX6_river_77 rfl rfl 0 rfl ?_
              refine j_iload (q := 80) F dX6_river_78 rfl 4 rfl ?_
              refine j_callVP (q := 83) F [vI b] (ct_X6_gapAbove l X hX Ml (M 83) hRl hD hl.1 hsb b (by omega) (by omega)) gX6_river_X6_gapAbove rfl cd_X6_gapAbove ⟨by first | exact Nat.le_of_ble_eq_true rfl | (simp only [rm]; omega) | (simp [rm, vI, vR, Value.category]; omega), by first | exact Nat.le_of_ble_eq_true rfl | (simp only [rm]; omega) | (simp [rm, vI, vR, Value.category]; omega), by first | exact Nat.le_of_ble_eq_true rfl | (simp only [rm]; omega) | (simp [rm, vI, vR, Value.category]; omega), by first | exact Nat.le_of_ble_eq_true rfl | (simp only [rm]; omega) | (simp [rm, vI, vR, Value.category]; omega)⟩ wr0 rfl rfl rfl (Nat.le_of_ble_eq_true rfl) dX6_river_80 rfl (fun nb hnb => ?_)
              have hst : StepR (M 83) b nb := by
                rcases hnb with z | ⟨-, z⟩
                · exact z
                · obtain ⟨x, x0, x1, x2⟩ := step_ex hD hbb.1 hbb.2.1 (by omega)
                  exact absurd x2 (z x x0 x1)
              refine j_istore (q := 85) (lv' := [(0, vR X 0), (1, vI i), (2, vI w), (3, vI (LR (M 83))), (4, vI nb), (5, vI k)]) F dX6_river_83 rfl (by decide) rfl rfl ?_
              refine j_iinc (q := 88) (lv' := [(0, vR X 0), (1, vI i), (2, vI w), (3, vI (LR (M 83))), (4, vI nb), (5, vI (k + 1))]) F dX6_river_85 rfl 5 rfl (by decide) rfl rfl ?_
              refine j_goto (q := 71) F dX6_river_88 (by decide) ?_
              refine ih71 nb (k + 1) ((qset fs (k + 1) nb)) (by omega) (by omega) (by rw [show qset fs (k + 1) nb 0 = fs 0 from if_neg (by omega)]; exact hF) ?_ (by exact if_pos rfl) (by omega)
              · intro j q0 q1
                rw [show qset fs (k + 1) nb j = fs j from if_neg (by omega)]
                by_cases hj : j = k
                · rw [hj, show qset fs (k + 1) nb (k + 1) = nb from if_pos rfl, hfk]; exact hst
                · rw [show qset fs (k + 1) nb (j + 1) = fs (j + 1) from if_neg (by omega)]; exact hSt j q0 (by omega)
        exact LP71 _ b0 0 ((fun _ => b0)) (by omega) (by omega) (by exact hF) (by intro j q0 q1; omega) (by rfl) (by exact Nat.lt_succ_self _)
      · skip
        refine j_bipush (q := 49) F dX6_river_47 rfl (by decide) ?_
        refine hret _ _ _ _ dX6_river_49 ?_
        · refine ⟨fun q hq => lfr q (by omega), fun r' N hO => ?_⟩
          obtain ⟨qs, hO⟩ := hO
          refine ⟨?_, crel_lay hl.2.1 hl.2.2 hC qs⟩
          rcases hO with ⟨o0, o1⟩ | ⟨o0, o1, o2⟩ | ⟨o0, o1, bb, o3, o4⟩
          · exact absurd ⟨by omega, by omega, by omega⟩ o0
          · omega
          · exfalso; omega
    · skip
      refine j_if_ne (q := 13) (tgt := 15) F dX6_river_10 (by decide) rfl ⟨by decide, by decide⟩ (fun h => absurd h (by decide)) (fun _ => ?_)
      refine j_iconst (q := 14) F dX6_river_13 rfl ?_
      refine hret _ _ _ _ dX6_river_14 ?_
      · refine ⟨fun _ _ => rfl, fun r' N hO => ?_⟩
        obtain ⟨qs, hO⟩ := hO
        refine ⟨?_, hC.same (fun _ _ => rfl) qs⟩
        rcases hO with ⟨o0, o1⟩ | ⟨o0, o1, o2⟩ | ⟨o0, o1, o2⟩
        · omega
        · exfalso; have z1 := o0.1; have z2 := o0.2.1; have z3 := o0.2.2; omega
        · exfalso; have z1 := o0.1; have z2 := o0.2.1; have z3 := o0.2.2; omega
theorem fl_X6_at_10 : Cond.fieldLink RX6 10 "WhiteRivers" "page" "LWhiteRivers$Page;" ∈ wsX6_at := by decide +kernel
theorem fl_X6_at_26 : Cond.fieldLink RX6 26 "WhiteRivers" "sheet" "LWhiteRivers$Sheet;" ∈ wsX6_at := by decide +kernel
theorem fl_X6_at_55 : Cond.fieldLink RX6 55 "WhiteRivers$Page" "width" "I" ∈ wsX6_at := by decide +kernel
theorem in_X6_at_1 : ∀ w ∈ u_ws RX1 TX1 6, w ∈ wsX6_at := by decide +kernel
theorem in_X6_at_6 : ∀ w ∈ u_ws RX6 TX6 5, w ∈ wsX6_at := by decide +kernel
set_option maxRecDepth 100000 in
set_option maxHeartbeats 1000000 in
theorem ct_X6_at (l : Launch) (X : Cx) (hX : Inj X) (M : Mem) (hC : CRel M M) (line : Int) (hli0 : inR line) (c : Int) (hc00 : inR c) : CtI l X yX6_at wsX6_at 5 [vR X 0, vI line, vI c] M (fun r M' => CPO M (Oat M line c) r M') := by
  refine CtI_of (cc := cX6_at) (maxL := 7) hX (by decide +kernel) rfl (Nat.le_of_ble_eq_true rfl) ?_
  intro zp ze zs zm zargs zbelow zmeth zc zQ F hret
  show J zp l ze (rm 5) zs zm zargs zbelow zmeth zc 0 0 zQ zs.heap X 7 M 0 [(0, vR X 0), (1, vI line), (2, vI c)] []
  have hR := hC.1
  have hD := hC.2.1
  have hn : M 1 2 = M 83 0 := hR.2.2.1
  have hw0 : M 1 0 = M 83 1 := hR.1
  have hs0 : M 1 1 = M 83 2 := hR.2.1
  have hnn := hD.1
  have hww := hD.2.1
  have hss := hD.2.2.1
  have hL24 := hD.L24
  have hl8 : ∀ w, 0 ≤ w → w < 24 → 0 ≤ M 3 w ∧ M 3 w ≤ 8 := hR.2.2.2.2.1
  have htot : cnt (M 5) (M 83 0) = M 83 3 := hR.2.2.2.1.total
  have hct : cnt (M 5) (M 1 2) = M 83 3 := by rw [hn]; exact htot
  obtain ⟨hli1, hli2⟩ := hli0
  obtain ⟨hca, hcb⟩ := hc00
  refine j_aload_n (q := 1) F dX6_at_0 rfl rfl 0 rfl ?_
  refine j_getR (q := 4) (z := 1) (index := 10) F wr0 rfl in_X6_at_6 0 (by decide) rfl fl_X6_at_10 dX6_at_1 rfl ?_
  refine j_iload_n (q := 5) F dX6_at_4 rfl rfl 1 rfl ?_
  refine j_callVZ (q := 8) F [vI line] (ct_X1_hasLine l X hX M 1 (pg1) (by omega) line ⟨by omega, by omega⟩ (by show inR (cnt (M 5) (M 1 2)); rw [hct]; exact ⟨by omega, by omega⟩)) gX6_at_X1_hasLine rfl cd_X1_hasLine ⟨by first | exact Nat.le_of_ble_eq_true rfl | (simp only [rm]; omega) | (simp [rm, vI, vR, Value.category]; omega), by first | exact Nat.le_of_ble_eq_true rfl | (simp only [rm]; omega) | (simp [rm, vI, vR, Value.category]; omega), by first | exact Nat.le_of_ble_eq_true rfl | (simp only [rm]; omega) | (simp [rm, vI, vR, Value.category]; omega), by first | exact Nat.le_of_ble_eq_true rfl | (simp only [rm]; omega) | (simp [rm, vI, vR, Value.category]; omega)⟩ (pg1).1 rfl rfl rfl (Nat.le_of_ble_eq_true rfl) dX6_at_5 rfl (fun hli => ?_) (fun hli => ?_)
  · skip
    have hli : 0 ≤ line ∧ line < M 83 3 := by rw [← hct]; exact hli
    have hbl := hD.bd (l := line) hli.1 (by omega)
    have hbl1 := hD.bd (l := line + 1) (by omega) (by omega)
    have hseg := hD.2.2.2.2.2.2 line hli.1 hli.2
    refine j_if_eq (q := 11) (tgt := 28) F dX6_at_8 (by decide) rfl ⟨by decide, by decide⟩ (fun h => absurd h (by decide)) (fun _ => ?_)
    refine j_iload_n (q := 12) F dX6_at_11 rfl rfl 2 rfl ?_
    refine j_iconst (q := 13) F dX6_at_12 rfl ?_
    refine j_aload_n (q := 14) F dX6_at_13 rfl rfl 0 rfl ?_
    refine j_getR (q := 17) (z := 1) (index := 10) F wr0 rfl in_X6_at_6 0 (by decide) rfl fl_X6_at_10 dX6_at_14 rfl ?_
    refine j_getI (q := 20) (i := 0) (index := 55) F (pg1).1 rfl in_X6_at_1 0 (by decide) rfl rfl fl_X6_at_55 dX6_at_17 rfl ?_
    refine j_iconst (q := 21) F dX6_at_20 rfl ?_
    refine j_isub (q := 22) (z := (M 1 0) - 1) F dX6_at_21 rfl rfl ?_
    refine j_callSZ (q := 25) F [vI c, vI 0, vI ((M 1 0) - 1)] (ct_X6_isWithin l X hX M c 0 ((M 1 0) - 1) ⟨by omega, by omega⟩ ⟨by omega, by omega⟩ ⟨by omega, by omega⟩) gX6_at_X6_isWithin rfl cd_X6_isWithin ⟨by first | exact Nat.le_of_ble_eq_true rfl | (simp only [rm]; omega) | (simp [rm, vI, vR, Value.category]; omega), by first | exact Nat.le_of_ble_eq_true rfl | (simp only [rm]; omega) | (simp [rm, vI, vR, Value.category]; omega), by first | exact Nat.le_of_ble_eq_true rfl | (simp only [rm]; omega) | (simp [rm, vI, vR, Value.category]; omega), by first | exact Nat.le_of_ble_eq_true rfl | (simp only [rm]; omega) | (simp [rm, vI, vR, Value.category]; omega)⟩ rfl rfl (Nat.le_of_ble_eq_true rfl) dX6_at_22 rfl (fun hwi => ?_) (fun hwi => ?_)
    · skip
      refine j_if_ne (q := 28) (tgt := 30) F dX6_at_25 (by decide) rfl ⟨by decide, by decide⟩ (fun _ => ?_) (fun h => absurd h (by decide))
      refine j_aload_n (q := 31) F dX6_at_30 rfl rfl 0 rfl ?_
      refine j_getR (q := 34) (z := 45) (index := 26) F wr0 rfl in_X6_at_6 2 (by decide) rfl fl_X6_at_26 dX6_at_31 rfl ?_
      refine j_aload_n (q := 35) F dX6_at_34 rfl rfl 0 rfl ?_
      refine j_getR (q := 38) (z := 1) (index := 10) F wr0 rfl in_X6_at_6 0 (by decide) rfl fl_X6_at_10 dX6_at_35 rfl ?_
      refine j_callVV (q := 41) F [vR X 1] (ct_X4_layAll l X hX M 45 (sh45) 1 (pg1) (by omega) (M 83) hR hD hC.2.2.2.2.2.1) gX6_at_X4_layAll rfl cd_X4_layAll ⟨by first | exact Nat.le_of_ble_eq_true rfl | (simp only [rm]; omega) | (simp [rm, vI, vR, Value.category]; omega), by first | exact Nat.le_of_ble_eq_true rfl | (simp only [rm]; omega) | (simp [rm, vI, vR, Value.category]; omega), by first | exact Nat.le_of_ble_eq_true rfl | (simp only [rm]; omega) | (simp [rm, vI, vR, Value.category]; omega), by first | exact Nat.le_of_ble_eq_true rfl | (simp only [rm]; omega) | (simp [rm, vI, vR, Value.category]; omega)⟩ (sh45).1 rfl rfl rfl (Nat.le_of_ble_eq_true rfl) dX6_at_38 rfl (fun Ml hl => ?_)
      have lfr : ∀ q, q < 47 ∨ 53 < q → Ml q = M q := fun q hq => hl.2.1 q (by omega) (by omega) (by omega) (by omega)
      have hRl : PRel Ml 1 (M 83) := hR.congr (lfr _ (by decide)) (lfr _ (by decide)) (lfr _ (by decide)) (lfr _ (by decide))
      have l1 : Ml 1 = M 1 := lfr 1 (by decide)
      have l3 : Ml 3 = M 3 := lfr 3 (by decide)
      have l5 : Ml 5 = M 5 := lfr 5 (by decide)
      have l7 : Ml 7 = M 7 := lfr 7 (by decide)
      have ln : Ml 1 2 = M 83 0 := hRl.2.2.1
      have lrd : ∀ w, 0 ≤ w → w < M 83 0 → Ml 53 w = RD (M 83) w := fun w a b => hl.1.reach a b
      have lrb : ∀ w, 0 ≤ w → w < M 83 0 → 0 ≤ Ml 53 w ∧ Ml 53 w ≤ 100 := fun w a b => by rw [lrd w a b]; have := RD_bd (M 83) ⟨hL24.1, hL24.2.2⟩ w; omega
      have hsb := hl.2.2
      refine j_aload_n (q := 42) F dX6_at_41 rfl rfl 0 rfl ?_
      refine j_getR (q := 45) (z := 1) (index := 10) F wr0 rfl in_X6_at_6 0 (by decide) rfl fl_X6_at_10 dX6_at_42 rfl ?_
      refine j_iload_n (q := 46) F dX6_at_45 rfl rfl 1 rfl ?_
      refine j_callVP (q := 49) F [vI line] (ct_X1_firstOf l X hX Ml 1 (pg1) (by omega) line ⟨by omega, by omega⟩ (fun w' q0 q1 => by have hq := hRl.2.2.2.1.cntbd q0 (show w' < M 83 0 by have := hRl.2.2.1; omega); exact ⟨by omega, by omega⟩)) gX6_at_X1_firstOf rfl cd_X1_firstOf ⟨by first | exact Nat.le_of_ble_eq_true rfl | (simp only [rm]; omega) | (simp [rm, vI, vR, Value.category]; omega), by first | exact Nat.le_of_ble_eq_true rfl | (simp only [rm]; omega) | (simp [rm, vI, vR, Value.category]; omega), by first | exact Nat.le_of_ble_eq_true rfl | (simp only [rm]; omega) | (simp [rm, vI, vR, Value.category]; omega), by first | exact Nat.le_of_ble_eq_true rfl | (simp only [rm]; omega) | (simp [rm, vI, vR, Value.category]; omega)⟩ (pg1).1 rfl rfl rfl (Nat.le_of_ble_eq_true rfl) dX6_at_46 rfl (fun f hf => ?_)
      rw [ln] at hf
      have ef : f = sd (M 83) line := hRl.2.2.2.1.fst hli.1 hli.2 hf
      refine j_istore_n (q := 50) (lv' := [(0, vR X 0), (1, vI line), (2, vI c), (3, vI f)]) F dX6_at_49 rfl rfl (by decide) rfl rfl ?_
      refine j_aload_n (q := 51) F dX6_at_50 rfl rfl 0 rfl ?_
      refine j_getR (q := 54) (z := 1) (index := 10) F wr0 rfl in_X6_at_6 0 (by decide) rfl fl_X6_at_10 dX6_at_51 rfl ?_
      refine j_iload_n (q := 55) F dX6_at_54 rfl rfl 3 rfl ?_
      refine j_callVP (q := 58) F [vI f] (ct_X1_endOf l X hX Ml 1 (pg1) (by omega) f ⟨by omega, by omega⟩ (fun w' q0 q1 => by have hq := hRl.2.2.2.1.bin q0 (show w' < M 83 0 by have := hRl.2.2.1; omega); exact ⟨by omega, by omega⟩)) gX6_at_X1_endOf rfl cd_X1_endOf ⟨by first | exact Nat.le_of_ble_eq_true rfl | (simp only [rm]; omega) | (simp [rm, vI, vR, Value.category]; omega), by first | exact Nat.le_of_ble_eq_true rfl | (simp only [rm]; omega) | (simp [rm, vI, vR, Value.category]; omega), by first | exact Nat.le_of_ble_eq_true rfl | (simp only [rm]; omega) | (simp [rm, vI, vR, Value.category]; omega), by first | exact Nat.le_of_ble_eq_true rfl | (simp only [rm]; omega) | (simp [rm, vI, vR, Value.category]; omega)⟩ (pg1).1 rfl rfl rfl (Nat.le_of_ble_eq_true rfl) dX6_at_55 rfl (fun nx hnx => ?_)
      rw [ln, ef] at hnx
      have enx : nx = sd (M 83) (line + 1) := hRl.2.2.2.1.end hli.1 hli.2 hnx
      refine j_istore (q := 60) (lv' := [(0, vR X 0), (1, vI line), (2, vI c), (3, vI f), (4, vI nx)]) F dX6_at_58 rfl (by decide) rfl rfl ?_
      refine j_iload_n (q := 61) F dX6_at_60 rfl rfl 3 rfl ?_
      refine j_istore (q := 63) (lv' := [(0, vR X 0), (1, vI line), (2, vI c), (3, vI f), (4, vI nx), (5, vI f)]) F dX6_at_61 rfl (by decide) rfl rfl ?_
      have LP63 : ∀ (nn : Nat) (k : Int), (f ≤ k) → (k ≤ nx) → (∀ w, f ≤ w → w < k → ¬ inC (M 83) w c) → (nx - k).toNat < nn → J zp l ze (rm 5) zs zm zargs zbelow zmeth zc 0 0 zQ zs.heap X 7 Ml 63 [(0, vR X 0), (1, vI line), (2, vI c), (3, vI f), (4, vI nx), (5, vI k)] [] := by
        intro nn
        induction nn with
        | zero => intro k g0 g1 g2 hm63; exact absurd hm63 (Nat.not_lt_zero _)
        | succ nn ih63 =>
          intro k g0 g1 g2 hm63
          refine j_iload (q := 65) F dX6_at_63 rfl 5 rfl ?_
          refine j_iload (q := 67) F dX6_at_65 rfl 4 rfl ?_
          refine j_icmp_ge (q := 70) (tgt := 112) F dX6_at_67 (by decide) rfl ⟨by omega, by omega⟩ ⟨by omega, by omega⟩ (fun h67_6 => ?_) (fun h67_6 => ?_)
          · skip
            refine j_bipush (q := 114) F dX6_at_112 rfl (by decide) ?_
            refine hret _ _ _ _ dX6_at_114 ?_
            · refine ⟨fun q hq => lfr q (by omega), fun r' N hO => ?_⟩
              obtain ⟨qs, hO⟩ := hO
              refine ⟨?_, crel_lay hl.2.1 hl.2.2 hC qs⟩
              rcases hO with ⟨o0, o1⟩ | ⟨o0, ⟨o1, o2, o3, o4⟩ | ⟨o1, o2⟩⟩
              · exact absurd ⟨hli, by omega, by omega⟩ o0
              · exact absurd o3 (g2 r' (by omega) (by omega))
              · omega
          · skip
            have hco := CO_bd hR hD (show 0 ≤ k by omega) (show k < M 83 0 by omega)
            have hln8 := hD.2.2.2.2.1 k (by omega) (by omega)
            refine j_aload_n (q := 71) F dX6_at_70 rfl rfl 0 rfl ?_
            refine j_getR (q := 74) (z := 45) (index := 26) F wr0 rfl in_X6_at_6 2 (by decide) rfl fl_X6_at_26 dX6_at_71 rfl ?_
            refine j_iload (q := 76) F dX6_at_74 rfl 5 rfl ?_
            refine j_callVE (q := 79) F [vI k] (ct_X4_columnOf l X hX Ml 45 (sh45) k (by omega) (by omega)) gX6_at_X4_columnOf rfl cd_X4_columnOf ⟨by first | exact Nat.le_of_ble_eq_true rfl | (simp only [rm]; omega) | (simp [rm, vI, vR, Value.category]; omega), by first | exact Nat.le_of_ble_eq_true rfl | (simp only [rm]; omega) | (simp [rm, vI, vR, Value.category]; omega), by first | exact Nat.le_of_ble_eq_true rfl | (simp only [rm]; omega) | (simp [rm, vI, vR, Value.category]; omega), by first | exact Nat.le_of_ble_eq_true rfl | (simp only [rm]; omega) | (simp [rm, vI, vR, Value.category]; omega)⟩ (sh45).1 rfl rfl rfl (Nat.le_of_ble_eq_true rfl) dX6_at_76 rfl ?_
            rw [show Ml 47 k = CO (M 83) k from by exact (hl.1.rows hD (by omega) (by omega)).1]
            refine j_istore (q := 81) (lv' := [(0, vR X 0), (1, vI line), (2, vI c), (3, vI f), (4, vI nx), (5, vI k), (6, vI (CO (M 83) k))]) F dX6_at_79 rfl (by decide) rfl rfl ?_
            refine j_iload_n (q := 82) F dX6_at_81 rfl rfl 2 rfl ?_
            refine j_iload (q := 84) F dX6_at_82 rfl 6 rfl ?_
            refine j_icmp_lt (q := 87) (tgt := 106) F dX6_at_84 (by decide) rfl ⟨by omega, by omega⟩ ⟨by omega, by omega⟩ (fun h84_8 => ?_) (fun h84_8 => ?_)
            · skip
              refine j_iinc (q := 109) (lv' := [(0, vR X 0), (1, vI line), (2, vI c), (3, vI f), (4, vI nx), (5, vI (k + 1)), (6, vI (CO (M 83) k))]) F dX6_at_106 rfl 5 rfl (by decide) rfl rfl ?_
              refine j_goto (q := 63) F dX6_at_109 (by decide) ?_
              refine j_sub (lv' := [(0, vR X 0), (1, vI line), (2, vI c), (3, vI f), (4, vI nx), (5, vI (k + 1))]) [0, 1, 2, 3, 4, 5] rfl ?_
              refine ih63 (k + 1) (by omega) (by omega) ?_ (by omega)
              · intro w q0 q1; by_cases hw : w = k
                · subst hw; intro z; have z1 := z.1; have z2 := z.2; omega
                · exact g2 w q0 (by omega)
            · skip
              refine j_iload_n (q := 88) F dX6_at_87 rfl rfl 2 rfl ?_
              refine j_iload (q := 90) F dX6_at_88 rfl 6 rfl ?_
              refine j_aload_n (q := 91) F dX6_at_90 rfl rfl 0 rfl ?_
              refine j_getR (q := 94) (z := 1) (index := 10) F wr0 rfl in_X6_at_6 0 (by decide) rfl fl_X6_at_10 dX6_at_91 rfl ?_
              refine j_iload (q := 96) F dX6_at_94 rfl 5 rfl ?_
              refine j_callVE (q := 99) F [vI k] (ct_X1_lengthOf l X hX Ml 1 (pg1) k (by omega) (by omega)) gX6_at_X1_lengthOf rfl cd_X1_lengthOf ⟨by first | exact Nat.le_of_ble_eq_true rfl | (simp only [rm]; omega) | (simp [rm, vI, vR, Value.category]; omega), by first | exact Nat.le_of_ble_eq_true rfl | (simp only [rm]; omega) | (simp [rm, vI, vR, Value.category]; omega), by first | exact Nat.le_of_ble_eq_true rfl | (simp only [rm]; omega) | (simp [rm, vI, vR, Value.category]; omega), by first | exact Nat.le_of_ble_eq_true rfl | (simp only [rm]; omega) | (simp [rm, vI, vR, Value.category]; omega)⟩ (pg1).1 rfl rfl rfl (Nat.le_of_ble_eq_true rfl) dX6_at_96 rfl ?_
              rw [show Ml 3 k = M 83 (4 + k) from by exact hRl.2.2.2.2.2.1 k (by omega) (by omega)]
              refine j_iadd (q := 100) (z := (CO (M 83) k) + (M 83 (4 + k))) F dX6_at_99 rfl rfl ?_
              refine j_icmp_ge (q := 103) (tgt := 106) F dX6_at_100 (by decide) rfl ⟨by omega, by omega⟩ ⟨by omega, by omega⟩ (fun h100_10 => ?_) (fun h100_10 => ?_)
              · skip
                refine j_iinc (q := 109) (lv' := [(0, vR X 0), (1, vI line), (2, vI c), (3, vI f), (4, vI nx), (5, vI (k + 1)), (6, vI (CO (M 83) k))]) F dX6_at_106 rfl 5 rfl (by decide) rfl rfl ?_
                refine j_goto (q := 63) F dX6_at_109 (by decide) ?_
                refine j_sub (lv' := [(0, vR X 0), (1, vI line), (2, vI c), (3, vI f), (4, vI nx), (5, vI (k + 1))]) [0, 1, 2, 3, 4, 5] rfl ?_
                refine ih63 (k + 1) (by omega) (by omega) ?_ (by omega)
                · intro w q0 q1; by_cases hw : w = k
                  · subst hw; intro z; have z1 := z.1; have z2 := z.2; omega
                  · exact g2 w q0 (by omega)
              · skip
                refine j_iload (q := 105) F dX6_at_103 rfl 5 rfl ?_
                refine hret _ _ _ _ dX6_at_105 ?_
                · refine ⟨fun q hq => lfr q (by omega), fun r' N hO => ?_⟩
                  obtain ⟨qs, hO⟩ := hO
                  refine ⟨?_, crel_lay hl.2.1 hl.2.2 hC qs⟩
                  rcases hO with ⟨o0, o1⟩ | ⟨o0, ⟨o1, o2, o3, o4⟩ | ⟨o1, o2⟩⟩
                  · exact absurd ⟨hli, by omega, by omega⟩ o0
                  · by_cases z1 : r' < k
                    · exact absurd o3 (g2 r' (by omega) z1)
                    · by_cases z2 : k < r'
                      · exact absurd ⟨by omega, by omega⟩ (o4 k (by omega) z2)
                      · omega
                  · exact absurd ⟨by omega, by omega⟩ (o2 k (by omega) (by omega))
      exact LP63 _ f (by omega) (by omega) (by intro w q0 q1; omega) (by exact Nat.lt_succ_self _)
    · skip
      refine j_if_ne (q := 28) (tgt := 30) F dX6_at_25 (by decide) rfl ⟨by decide, by decide⟩ (fun h => absurd h (by decide)) (fun _ => ?_)
      refine j_iconst (q := 29) F dX6_at_28 rfl ?_
      refine hret _ _ _ _ dX6_at_29 ?_
      · refine ⟨fun _ _ => rfl, fun r' N hO => ?_⟩
        obtain ⟨qs, hO⟩ := hO
        refine ⟨?_, hC.same (fun _ _ => rfl) qs⟩
        rcases hO with ⟨o0, o1⟩ | ⟨o0, o1⟩
        · omega
        · exfalso; have z1 := o0.1.1; have z2 := o0.1.2; have z3 := o0.2.1; have z4 := o0.2.2; omega
  · skip
    have hli : line < 0 ∨ M 83 3 ≤ line := by rw [← hct]; exact hli
    refine j_if_eq (q := 11) (tgt := 28) F dX6_at_8 (by decide) rfl ⟨by decide, by decide⟩ (fun _ => ?_) (fun h => absurd h (by decide))
    refine j_iconst (q := 29) F dX6_at_28 rfl ?_
    refine hret _ _ _ _ dX6_at_29 ?_
    · refine ⟨fun _ _ => rfl, fun r' N hO => ?_⟩
      obtain ⟨qs, hO⟩ := hO
      refine ⟨?_, hC.same (fun _ _ => rfl) qs⟩
      rcases hO with ⟨o0, o1⟩ | ⟨o0, o1⟩
      · omega
      · exfalso; have z1 := o0.1.1; have z2 := o0.1.2; have z3 := o0.2.1; have z4 := o0.2.2; omega
