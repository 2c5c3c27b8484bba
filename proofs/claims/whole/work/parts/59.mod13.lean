theorem cd_X7_above : yX7_above.cls = RX7 ∧ yX7_above.cls ≠ "java/lang/invoke/MethodHandle" ∧ yX7_above.cls ≠ "java/lang/invoke/VarHandle" ∧ (parseMethodDescriptor yX7_above.desc).map (fun d => d.parameters.length) = some 2 := by decide +kernel
theorem cd_X7_below : yX7_below.cls = RX7 ∧ yX7_below.cls ≠ "java/lang/invoke/MethodHandle" ∧ yX7_below.cls ≠ "java/lang/invoke/VarHandle" ∧ (parseMethodDescriptor yX7_below.desc).map (fun d => d.parameters.length) = some 2 := by decide +kernel
theorem cd_X7_laysAll : yX7_laysAll.cls = RX7 ∧ yX7_laysAll.cls ≠ "java/lang/invoke/MethodHandle" ∧ yX7_laysAll.cls ≠ "java/lang/invoke/VarHandle" ∧ (parseMethodDescriptor yX7_laysAll.desc).map (fun d => d.parameters.length) = some 0 := by decide +kernel
theorem fl_X7_gap_23 : Cond.fieldLink RX7 23 "WhiteRiversModel" "gapAt" "[I" ∈ wsX7_gap := by decide +kernel
theorem fl_X7_gap_26 : Cond.fieldLink RX7 26 "WhiteRiversModel" "wide" "[I" ∈ wsX7_gap := by decide +kernel
theorem fl_X7_gap_29 : Cond.fieldLink RX7 29 "WhiteRiversModel" "reach" "[I" ∈ wsX7_gap := by decide +kernel
theorem in_X7_gap_7 : ∀ w ∈ u_ws RX7 TX7 19, w ∈ wsX7_gap := by decide +kernel
set_option maxRecDepth 100000 in
set_option maxHeartbeats 1000000 in
theorem ct_X7_gap (l : Launch) (X : Cx) (hX : Inj X) (M : Mem) (hD : DOK (M 83)) (n : Int) (hn0 : inR n) (g : Int) (hg0 : inR g) (w : Int) (hw0 : inR w) : CtI l X yX7_gap wsX7_gap 3 [vR X 82, vI n, vI g, vI w] M (fun r M' => MPO M (Ogap M n g w) r M') := by
  refine CtI_of (cc := cX7_gap) (maxL := 5) hX (by decide +kernel) rfl (Nat.le_of_ble_eq_true rfl) ?_
  intro zp ze zs zm zargs zbelow zmeth zc zQ F hret
  show J zp l ze (rm 3) zs zm zargs zbelow zmeth zc 0 0 zQ zs.heap X 5 M 0 [(0, vR X 82), (1, vI n), (2, vI g), (3, vI w)] []
  have hw := hD.w
  have hnn := hD.1
  have hww := hD.2.1
  have hlen := hw.2.2
  have hL24 := hD.L24
  have hss := hD.2.2.1
  obtain ⟨hn1, hn2⟩ := hn0
  obtain ⟨hg1, hg2⟩ := hg0
  obtain ⟨hw1, hw2⟩ := hw0
  refine j_aload_n (q := 1) F dX7_gap_0 rfl rfl 0 rfl ?_
  refine j_iload_n (q := 2) F dX7_gap_1 rfl rfl 1 rfl ?_
  refine j_callVZ (q := 5) F [vI n] (ct_X7_isLine l X hX M hD n ⟨by omega, by omega⟩) gX7_gap_X7_isLine rfl cd_X7_isLine ⟨by first | exact Nat.le_of_ble_eq_true rfl | (simp only [rm]; omega) | (simp [rm, vI, vR, Value.category]; omega), by first | exact Nat.le_of_ble_eq_true rfl | (simp only [rm]; omega) | (simp [rm, vI, vR, Value.category]; omega), by first | exact Nat.le_of_ble_eq_true rfl | (simp only [rm]; omega) | (simp [rm, vI, vR, Value.category]; omega), by first | exact Nat.le_of_ble_eq_true rfl | (simp only [rm]; omega) | (simp [rm, vI, vR, Value.category]; omega)⟩ md82 rfl rfl rfl (Nat.le_of_ble_eq_true rfl) dX7_gap_2 rfl (fun hli => ?_) (fun hli => ?_)
  · skip
    have hbl := hD.bd (l := n) hli.1 (by omega)
    have hbl1 := hD.bd (l := n + 1) (by omega) (by omega)
    have hseg := hD.2.2.2.2.2.2 n hli.1 hli.2
    have hfn : M 83 (28 + n) = sd (M 83) n := (sd_in hli.2).symm
    refine j_if_eq (q := 8) (tgt := 38) F dX7_gap_5 (by decide) rfl ⟨by decide, by decide⟩ (fun h => absurd h (by decide)) (fun _ => ?_)
    refine j_iload_n (q := 9) F dX7_gap_8 rfl rfl 2 rfl ?_
    refine j_iconst (q := 10) F dX7_gap_9 rfl ?_
    refine j_aload_n (q := 11) F dX7_gap_10 rfl rfl 0 rfl ?_
    refine j_iload_n (q := 12) F dX7_gap_11 rfl rfl 1 rfl ?_
    refine j_callVE (q := 15) F [vI n] (ct_X7_behind l X hX M (by omega) n (by omega) (by omega)) gX7_gap_X7_behind rfl cd_X7_behind ⟨by first | exact Nat.le_of_ble_eq_true rfl | (simp only [rm]; omega) | (simp [rm, vI, vR, Value.category]; omega), by first | exact Nat.le_of_ble_eq_true rfl | (simp only [rm]; omega) | (simp [rm, vI, vR, Value.category]; omega), by first | exact Nat.le_of_ble_eq_true rfl | (simp only [rm]; omega) | (simp [rm, vI, vR, Value.category]; omega), by first | exact Nat.le_of_ble_eq_true rfl | (simp only [rm]; omega) | (simp [rm, vI, vR, Value.category]; omega)⟩ md82 rfl rfl rfl (Nat.le_of_ble_eq_true rfl) dX7_gap_12 rfl ?_
    refine j_aload_n (q := 16) F dX7_gap_15 rfl rfl 0 rfl ?_
    refine j_iload_n (q := 17) F dX7_gap_16 rfl rfl 1 rfl ?_
    refine j_callVE (q := 20) F [vI n] (ct_X7_first l X hX M n (by omega) (by omega)) gX7_gap_X7_first rfl cd_X7_first ⟨by first | exact Nat.le_of_ble_eq_true rfl | (simp only [rm]; omega) | (simp [rm, vI, vR, Value.category]; omega), by first | exact Nat.le_of_ble_eq_true rfl | (simp only [rm]; omega) | (simp [rm, vI, vR, Value.category]; omega), by first | exact Nat.le_of_ble_eq_true rfl | (simp only [rm]; omega) | (simp [rm, vI, vR, Value.category]; omega), by first | exact Nat.le_of_ble_eq_true rfl | (simp only [rm]; omega) | (simp [rm, vI, vR, Value.category]; omega)⟩ md82 rfl rfl rfl (Nat.le_of_ble_eq_true rfl) dX7_gap_17 rfl ?_
    rw [show M 83 (28 + n) = sd (M 83) n from by exact hfn]
    refine j_isub (q := 21) (z := (sd (M 83) (n + 1)) - (sd (M 83) n)) F dX7_gap_20 rfl rfl ?_
    refine j_iconst (q := 22) F dX7_gap_21 rfl ?_
    refine j_isub (q := 23) (z := ((sd (M 83) (n + 1)) - (sd (M 83) n)) - 2) F dX7_gap_22 rfl rfl ?_
    refine j_callSZ (q := 26) F [vI g, vI 0, vI (((sd (M 83) (n + 1)) - (sd (M 83) n)) - 2)] (ct_X7_in l X hX M g 0 (((sd (M 83) (n + 1)) - (sd (M 83) n)) - 2) ⟨by omega, by omega⟩ ⟨by omega, by omega⟩ ⟨by omega, by omega⟩) gX7_gap_X7_in rfl cd_X7_in ⟨by first | exact Nat.le_of_ble_eq_true rfl | (simp only [rm]; omega) | (simp [rm, vI, vR, Value.category]; omega), by first | exact Nat.le_of_ble_eq_true rfl | (simp only [rm]; omega) | (simp [rm, vI, vR, Value.category]; omega), by first | exact Nat.le_of_ble_eq_true rfl | (simp only [rm]; omega) | (simp [rm, vI, vR, Value.category]; omega), by first | exact Nat.le_of_ble_eq_true rfl | (simp only [rm]; omega) | (simp [rm, vI, vR, Value.category]; omega)⟩ rfl rfl (Nat.le_of_ble_eq_true rfl) dX7_gap_23 rfl (fun hg1 => ?_) (fun hg1 => ?_)
    · skip
      refine j_if_eq (q := 29) (tgt := 38) F dX7_gap_26 (by decide) rfl ⟨by decide, by decide⟩ (fun h => absurd h (by decide)) (fun _ => ?_)
      refine j_iload_n (q := 30) F dX7_gap_29 rfl rfl 3 rfl ?_
      refine j_iconst (q := 31) F dX7_gap_30 rfl ?_
      refine j_iconst (q := 32) F dX7_gap_31 rfl ?_
      refine j_callSZ (q := 35) F [vI w, vI 0, vI 4] (ct_X7_in l X hX M w 0 4 ⟨by omega, by omega⟩ ⟨by omega, by omega⟩ ⟨by omega, by omega⟩) gX7_gap_X7_in rfl cd_X7_in ⟨by first | exact Nat.le_of_ble_eq_true rfl | (simp only [rm]; omega) | (simp [rm, vI, vR, Value.category]; omega), by first | exact Nat.le_of_ble_eq_true rfl | (simp only [rm]; omega) | (simp [rm, vI, vR, Value.category]; omega), by first | exact Nat.le_of_ble_eq_true rfl | (simp only [rm]; omega) | (simp [rm, vI, vR, Value.category]; omega), by first | exact Nat.le_of_ble_eq_true rfl | (simp only [rm]; omega) | (simp [rm, vI, vR, Value.category]; omega)⟩ rfl rfl (Nat.le_of_ble_eq_true rfl) dX7_gap_32 rfl (fun hw1 => ?_) (fun hw1 => ?_)
      · skip
        refine j_if_ne (q := 38) (tgt := 40) F dX7_gap_35 (by decide) rfl ⟨by decide, by decide⟩ (fun _ => ?_) (fun h => absurd h (by decide))
        refine j_aload_n (q := 41) F dX7_gap_40 rfl rfl 0 rfl ?_
        refine j_callVI (q := 44) F [] (ct_X7_laysAll l X hX M hD) gX7_gap_X7_laysAll rfl cd_X7_laysAll ⟨by first | exact Nat.le_of_ble_eq_true rfl | (simp only [rm]; omega) | (simp [rm, vI, vR, Value.category]; omega), by first | exact Nat.le_of_ble_eq_true rfl | (simp only [rm]; omega) | (simp [rm, vI, vR, Value.category]; omega), by first | exact Nat.le_of_ble_eq_true rfl | (simp only [rm]; omega) | (simp [rm, vI, vR, Value.category]; omega), by first | exact Nat.le_of_ble_eq_true rfl | (simp only [rm]; omega) | (simp [rm, vI, vR, Value.category]; omega)⟩ md82 rfl rfl rfl (Nat.le_of_ble_eq_true rfl) dX7_gap_41 rfl (fun lr Ml hl => ?_)
        have l83 : Ml 83 = M 83 := hl.1 83 (by decide)
        have hLM : LM Ml (Ml 83) := by rw [l83]; exact hl.2.1
        have hDl : DOK (Ml 83) := by rw [l83]; exact hD
        have hlr := LR_bd hD
        have e30 : Ml 83 3 = M 83 3 := by rw [l83]
        refine j_pop (q := 45) F dX7_gap_44 rfl rfl ?_
        refine j_aload_n (q := 46) F dX7_gap_45 rfl rfl 0 rfl ?_
        refine j_iload_n (q := 47) F dX7_gap_46 rfl rfl 1 rfl ?_
        refine j_callVE (q := 50) F [vI n] (ct_X7_first l X hX Ml n (by omega) (by omega)) gX7_gap_X7_first rfl cd_X7_first ⟨by first | exact Nat.le_of_ble_eq_true rfl | (simp only [rm]; omega) | (simp [rm, vI, vR, Value.category]; omega), by first | exact Nat.le_of_ble_eq_true rfl | (simp only [rm]; omega) | (simp [rm, vI, vR, Value.category]; omega), by first | exact Nat.le_of_ble_eq_true rfl | (simp only [rm]; omega) | (simp [rm, vI, vR, Value.category]; omega), by first | exact Nat.le_of_ble_eq_true rfl | (simp only [rm]; omega) | (simp [rm, vI, vR, Value.category]; omega)⟩ md82 rfl rfl rfl (Nat.le_of_ble_eq_true rfl) dX7_gap_47 rfl ?_
        rw [show Ml 83 (28 + n) = sd (M 83) n from by rw [l83]; exact hfn]
        refine j_iload_n (q := 51) F dX7_gap_50 rfl rfl 2 rfl ?_
        refine j_iadd (q := 52) (z := (sd (M 83) n) + g) F dX7_gap_51 rfl rfl ?_
        refine j_istore (q := 54) (lv' := [(0, vR X 82), (1, vI n), (2, vI g), (3, vI w), (4, vI ((sd (M 83) n) + g))]) F dX7_gap_52 rfl (by decide) rfl rfl ?_
        have elg : lnD (M 83) (sd (M 83) n + g) = n := lnD_eq hD hli.1 hli.2 (by omega) (by omega)
        have hgr := (hl.2.1 (sd (M 83) n + g) (by omega) (by omega)).2 (by rw [elg]; omega)
        have hig : isG (M 83) n g := ⟨hli, by omega, by omega⟩
        refine j_iload_n (q := 55) F dX7_gap_54 rfl rfl 3 rfl ?_
        rcases (show w = 0 ∨ w = 1 ∨ w = 2 ∨ w = 3 ∨ (w < 0 ∨ 3 < w) by omega) with hs_8 | hs_8 | hs_8 | hs_8 | hs_8
        · subst hs_8
          refine j_tableIn (tgt := 84) F dX7_gap_55 ⟨by decide, by decide⟩ ⟨by decide, by decide⟩ rfl (by decide) ?_
          refine j_aload_n (q := 85) F dX7_gap_84 rfl rfl 0 rfl ?_
          refine j_getR (q := 88) (z := 87) (index := 23) F md82 rfl in_X7_gap_7 6 (by decide) rfl fl_X7_gap_23 dX7_gap_85 rfl ?_
          refine j_iload (q := 90) F dX7_gap_88 rfl 4 rfl ?_
          refine j_iald (q := 91) F ar87 (by omega) (by omega) (by decide) dX7_gap_90 rfl ?_
          exact hret _ _ _ _ dX7_gap_91 (by refine mpo_lay hl.1 (fun hsm => ⟨hsm, Or.inr ⟨hig, (fun z => by first | (exfalso; omega) | exact hgr.1), (fun z => by exfalso; omega), (fun z => by exfalso; omega), (fun z => by exfalso; omega), (fun z => by exfalso; omega), (fun z => by exfalso; omega)⟩⟩))
        · subst hs_8
          refine j_tableIn (tgt := 92) F dX7_gap_55 ⟨by decide, by decide⟩ ⟨by decide, by decide⟩ rfl (by decide) ?_
          refine j_aload_n (q := 93) F dX7_gap_92 rfl rfl 0 rfl ?_
          refine j_getR (q := 96) (z := 88) (index := 26) F md82 rfl in_X7_gap_7 7 (by decide) rfl fl_X7_gap_26 dX7_gap_93 rfl ?_
          refine j_iload (q := 98) F dX7_gap_96 rfl 4 rfl ?_
          refine j_iald (q := 99) F ar88 (by omega) (by omega) (by decide) dX7_gap_98 rfl ?_
          exact hret _ _ _ _ dX7_gap_99 (by refine mpo_lay hl.1 (fun hsm => ⟨hsm, Or.inr ⟨hig, (fun z => by exfalso; omega), (fun z => by first | (exfalso; omega) | exact hgr.2.1), (fun z => by exfalso; omega), (fun z => by exfalso; omega), (fun z => by exfalso; omega), (fun z => by exfalso; omega)⟩⟩))
        · subst hs_8
          refine j_tableIn (tgt := 100) F dX7_gap_55 ⟨by decide, by decide⟩ ⟨by decide, by decide⟩ rfl (by decide) ?_
          refine j_aload_n (q := 101) F dX7_gap_100 rfl rfl 0 rfl ?_
          refine j_getR (q := 104) (z := 89) (index := 29) F md82 rfl in_X7_gap_7 8 (by decide) rfl fl_X7_gap_29 dX7_gap_101 rfl ?_
          refine j_iload (q := 106) F dX7_gap_104 rfl 4 rfl ?_
          refine j_iald (q := 107) F ar89 (by omega) (by omega) (by decide) dX7_gap_106 rfl ?_
          exact hret _ _ _ _ dX7_gap_107 (by refine mpo_lay hl.1 (fun hsm => ⟨hsm, Or.inr ⟨hig, (fun z => by exfalso; omega), (fun z => by exfalso; omega), (fun z => by first | (exfalso; omega) | exact hgr.2.2), (fun z => by exfalso; omega), (fun z => by exfalso; omega), (fun z => by exfalso; omega)⟩⟩))
        · subst hs_8
          refine j_tableIn (tgt := 108) F dX7_gap_55 ⟨by decide, by decide⟩ ⟨by decide, by decide⟩ rfl (by decide) ?_
          refine j_aload_n (q := 109) F dX7_gap_108 rfl rfl 0 rfl ?_
          refine j_iload (q := 111) F dX7_gap_109 rfl 4 rfl ?_
          refine j_iload_n (q := 112) F dX7_gap_111 rfl rfl 1 rfl ?_
          refine j_callVE (q := 115) F [vI ((sd (M 83) n) + g), vI n] (ct_X7_above l X hX Ml hDl hLM ((sd (M 83) n) + g) n (by omega) (by rw [l83]; omega) (by rw [l83, elg]; omega) (by rw [l83, elg])) gX7_gap_X7_above rfl cd_X7_above ⟨by first | exact Nat.le_of_ble_eq_true rfl | (simp only [rm]; omega) | (simp [rm, vI, vR, Value.category]; omega), by first | exact Nat.le_of_ble_eq_true rfl | (simp only [rm]; omega) | (simp [rm, vI, vR, Value.category]; omega), by first | exact Nat.le_of_ble_eq_true rfl | (simp only [rm]; omega) | (simp [rm, vI, vR, Value.category]; omega), by first | exact Nat.le_of_ble_eq_true rfl | (simp only [rm]; omega) | (simp [rm, vI, vR, Value.category]; omega)⟩ md82 rfl rfl rfl (Nat.le_of_ble_eq_true rfl) dX7_gap_112 rfl ?_
          rw [show abD (Ml 83) ((sd (M 83) n) + g) = abD (M 83) (sd (M 83) n + g) from by rw [l83]]
          exact hret _ _ _ _ dX7_gap_115 (by refine mpo_lay hl.1 (fun hsm => ⟨hsm, Or.inr ⟨hig, (fun z => by exfalso; omega), (fun z => by exfalso; omega), (fun z => by exfalso; omega), (fun z => by first | (exfalso; omega) | rfl), (fun z => by exfalso; omega), (fun z => by exfalso; omega)⟩⟩))
        · skip
          refine j_tableOut (tgt := 116) F dX7_gap_55 ⟨by omega, by omega⟩ hs_8 (by decide) ?_
          refine j_aload_n (q := 117) F dX7_gap_116 rfl rfl 0 rfl ?_
          refine j_iload (q := 119) F dX7_gap_117 rfl 4 rfl ?_
          refine j_iload_n (q := 120) F dX7_gap_119 rfl rfl 1 rfl ?_
          refine j_callVE (q := 123) F [vI ((sd (M 83) n) + g), vI n] (ct_X7_below l X hX Ml hDl hLM ((sd (M 83) n) + g) n (by omega) (by rw [l83]; omega) (by rw [l83, elg]; omega) (by rw [l83, elg])) gX7_gap_X7_below rfl cd_X7_below ⟨by first | exact Nat.le_of_ble_eq_true rfl | (simp only [rm]; omega) | (simp [rm, vI, vR, Value.category]; omega), by first | exact Nat.le_of_ble_eq_true rfl | (simp only [rm]; omega) | (simp [rm, vI, vR, Value.category]; omega), by first | exact Nat.le_of_ble_eq_true rfl | (simp only [rm]; omega) | (simp [rm, vI, vR, Value.category]; omega), by first | exact Nat.le_of_ble_eq_true rfl | (simp only [rm]; omega) | (simp [rm, vI, vR, Value.category]; omega)⟩ md82 rfl rfl rfl (Nat.le_of_ble_eq_true rfl) dX7_gap_120 rfl ?_
          rw [show beD (Ml 83) n ((sd (M 83) n) + g) = beD (M 83) n (sd (M 83) n + g) from by rw [l83]]
          exact hret _ _ _ _ dX7_gap_123 (by refine mpo_lay hl.1 (fun hsm => ⟨hsm, Or.inr ⟨hig, (fun z => by exfalso; omega), (fun z => by exfalso; omega), (fun z => by exfalso; omega), (fun z => by exfalso; omega), (fun z => by first | (exfalso; omega) | rfl), (fun z => by exfalso; omega)⟩⟩))
      · skip
        refine j_if_ne (q := 38) (tgt := 40) F dX7_gap_35 (by decide) rfl ⟨by decide, by decide⟩ (fun h => absurd h (by decide)) (fun _ => ?_)
        refine j_iconst (q := 39) F dX7_gap_38 rfl ?_
        refine hret _ _ _ _ dX7_gap_39 ?_
        · by_cases hig : isG (M 83) n g
          · have z1 := hig.1.1; have z2 := hig.1.2; have z3 := hig.2.1; have z4 := hig.2.2
            first | (exfalso; omega) | exact mpo_of (fun _ _ _ _ => rfl) ⟨SM.rf M, Or.inr ⟨hig, (fun z => by exfalso; omega), (fun z => by exfalso; omega), (fun z => by exfalso; omega), (fun z => by exfalso; omega), (fun z => by exfalso; omega), fun _ => rfl⟩⟩
          · exact mpo_of (fun _ _ _ _ => rfl) ⟨SM.rf M, Or.inl ⟨hig, rfl⟩⟩
    · skip
      refine j_if_eq (q := 29) (tgt := 38) F dX7_gap_26 (by decide) rfl ⟨by decide, by decide⟩ (fun _ => ?_) (fun h => absurd h (by decide))
      refine j_iconst (q := 39) F dX7_gap_38 rfl ?_
      refine hret _ _ _ _ dX7_gap_39 ?_
      · by_cases hig : isG (M 83) n g
        · have z1 := hig.1.1; have z2 := hig.1.2; have z3 := hig.2.1; have z4 := hig.2.2
          first | (exfalso; omega) | exact mpo_of (fun _ _ _ _ => rfl) ⟨SM.rf M, Or.inr ⟨hig, (fun z => by exfalso; omega), (fun z => by exfalso; omega), (fun z => by exfalso; omega), (fun z => by exfalso; omega), (fun z => by exfalso; omega), fun _ => rfl⟩⟩
        · exact mpo_of (fun _ _ _ _ => rfl) ⟨SM.rf M, Or.inl ⟨hig, rfl⟩⟩
  · skip
    refine j_if_eq (q := 8) (tgt := 38) F dX7_gap_5 (by decide) rfl ⟨by decide, by decide⟩ (fun _ => ?_) (fun h => absurd h (by decide))
    refine j_iconst (q := 39) F dX7_gap_38 rfl ?_
    refine hret _ _ _ _ dX7_gap_39 ?_
    · by_cases hig : isG (M 83) n g
      · have z1 := hig.1.1; have z2 := hig.1.2; have z3 := hig.2.1; have z4 := hig.2.2
        first | (exfalso; omega) | exact mpo_of (fun _ _ _ _ => rfl) ⟨SM.rf M, Or.inr ⟨hig, (fun z => by exfalso; omega), (fun z => by exfalso; omega), (fun z => by exfalso; omega), (fun z => by exfalso; omega), (fun z => by exfalso; omega), fun _ => rfl⟩⟩
      · exact mpo_of (fun _ _ _ _ => rfl) ⟨SM.rf M, Or.inl ⟨hig, rfl⟩⟩
theorem cd_X7_lineOf : yX7_lineOf.cls = RX7 ∧ yX7_lineOf.cls ≠ "java/lang/invoke/MethodHandle" ∧ yX7_lineOf.cls ≠ "java/lang/invoke/VarHandle" ∧ (parseMethodDescriptor yX7_lineOf.desc).map (fun d => d.parameters.length) = some 1 := by decide +kernel
theorem fl_X7_word_20 : Cond.fieldLink RX7 20 "WhiteRiversModel" "column" "[I" ∈ wsX7_word := by decide +kernel
theorem fl_X7_word_7 : Cond.fieldLink RX7 7 "WhiteRiversModel" "d" "[I" ∈ wsX7_word := by decide +kernel
theorem in_X7_word_7 : ∀ w ∈ u_ws RX7 TX7 19, w ∈ wsX7_word := by decide +kernel
set_option maxRecDepth 100000 in
set_option maxHeartbeats 1000000 in
theorem ct_X7_word (l : Launch) (X : Cx) (hX : Inj X) (M : Mem) (hD : DOK (M 83)) (k : Int) (hk0 : inR k) (w : Int) (hw0 : inR w) : CtI l X yX7_word wsX7_word 3 [vR X 82, vI k, vI w] M (fun r M' => MPO M (Oword M k w) r M') := by
  refine CtI_of (cc := cX7_word) (maxL := 3) hX (by decide +kernel) rfl (Nat.le_of_ble_eq_true rfl) ?_
  intro zp ze zs zm zargs zbelow zmeth zc zQ F hret
  show J zp l ze (rm 3) zs zm zargs zbelow zmeth zc 0 0 zQ zs.heap X 3 M 0 [(0, vR X 82), (1, vI k), (2, vI w)] []
  have hw := hD.w
  have hnn := hD.1
  have hww := hD.2.1
  have hlen := hw.2.2
  have hL24 := hD.L24
  have hss := hD.2.2.1
  obtain ⟨hk1, hk2⟩ := hk0
  obtain ⟨hw1, hw2⟩ := hw0
  refine j_iload_n (q := 1) F dX7_word_0 rfl rfl 1 rfl ?_
  refine j_iconst (q := 2) F dX7_word_1 rfl ?_
  refine j_aload_n (q := 3) F dX7_word_2 rfl rfl 0 rfl ?_
  refine j_getR (q := 6) (z := 83) (index := 7) F md82 rfl in_X7_word_7 0 (by decide) rfl fl_X7_word_7 dX7_word_3 rfl ?_
  refine j_iconst (q := 7) F dX7_word_6 rfl ?_
  refine j_iald (q := 8) F ar83 (by omega) (by omega) (by decide) dX7_word_7 rfl ?_
  refine j_iconst (q := 9) F dX7_word_8 rfl ?_
  refine j_isub (q := 10) (z := (M 83 0) - 1) F dX7_word_9 rfl rfl ?_
  refine j_callSZ (q := 13) F [vI k, vI 0, vI ((M 83 0) - 1)] (ct_X7_in l X hX M k 0 ((M 83 0) - 1) ⟨by omega, by omega⟩ ⟨by omega, by omega⟩ ⟨by omega, by omega⟩) gX7_word_X7_in rfl cd_X7_in ⟨by first | exact Nat.le_of_ble_eq_true rfl | (simp only [rm]; omega) | (simp [rm, vI, vR, Value.category]; omega), by first | exact Nat.le_of_ble_eq_true rfl | (simp only [rm]; omega) | (simp [rm, vI, vR, Value.category]; omega), by first | exact Nat.le_of_ble_eq_true rfl | (simp only [rm]; omega) | (simp [rm, vI, vR, Value.category]; omega), by first | exact Nat.le_of_ble_eq_true rfl | (simp only [rm]; omega) | (simp [rm, vI, vR, Value.category]; omega)⟩ rfl rfl (Nat.le_of_ble_eq_true rfl) dX7_word_10 rfl (fun hk1 => ?_) (fun hk1 => ?_)
  · skip
    refine j_if_eq (q := 16) (tgt := 25) F dX7_word_13 (by decide) rfl ⟨by decide, by decide⟩ (fun h => absurd h (by decide)) (fun _ => ?_)
    refine j_iload_n (q := 17) F dX7_word_16 rfl rfl 2 rfl ?_
    refine j_iconst (q := 18) F dX7_word_17 rfl ?_
    refine j_iconst (q := 19) F dX7_word_18 rfl ?_
    refine j_callSZ (q := 22) F [vI w, vI 0, vI 2] (ct_X7_in l X hX M w 0 2 ⟨by omega, by omega⟩ ⟨by omega, by omega⟩ ⟨by omega, by omega⟩) gX7_word_X7_in rfl cd_X7_in ⟨by first | exact Nat.le_of_ble_eq_true rfl | (simp only [rm]; omega) | (simp [rm, vI, vR, Value.category]; omega), by first | exact Nat.le_of_ble_eq_true rfl | (simp only [rm]; omega) | (simp [rm, vI, vR, Value.category]; omega), by first | exact Nat.le_of_ble_eq_true rfl | (simp only [rm]; omega) | (simp [rm, vI, vR, Value.category]; omega), by first | exact Nat.le_of_ble_eq_true rfl | (simp only [rm]; omega) | (simp [rm, vI, vR, Value.category]; omega)⟩ rfl rfl (Nat.le_of_ble_eq_true rfl) dX7_word_19 rfl (fun hw1 => ?_) (fun hw1 => ?_)
    · skip
      refine j_if_ne (q := 25) (tgt := 27) F dX7_word_22 (by decide) rfl ⟨by decide, by decide⟩ (fun _ => ?_) (fun h => absurd h (by decide))
      refine j_iload_n (q := 28) F dX7_word_27 rfl rfl 2 rfl ?_
      refine j_iconst (q := 29) F dX7_word_28 rfl ?_
      refine j_icmp_ne (q := 32) (tgt := 37) F dX7_word_29 (by decide) rfl ⟨by omega, by omega⟩ ⟨by decide, by decide⟩ (fun h29_3 => ?_) (fun h29_3 => ?_)
      · skip
        refine j_iload_n (q := 38) F dX7_word_37 rfl rfl 2 rfl ?_
        refine j_if_ne (q := 41) (tgt := 52) F dX7_word_38 (by decide) rfl ⟨by omega, by omega⟩ (fun h38_4 => ?_) (fun h38_4 => ?_)
        · skip
          refine j_iload_n (q := 53) F dX7_word_52 rfl rfl 2 rfl ?_
          refine j_iconst (q := 54) F dX7_word_53 rfl ?_
          refine j_icmp_ne (q := 57) (tgt := 65) F dX7_word_54 (by decide) rfl ⟨by omega, by omega⟩ ⟨by decide, by decide⟩ (fun h54_5 => ?_) (fun h54_5 => ?_)
          · skip
            refine j_aload_n (q := 66) F dX7_word_65 rfl rfl 0 rfl ?_
            refine j_getR (q := 69) (z := 86) (index := 20) F md82 rfl in_X7_word_7 5 (by decide) rfl fl_X7_word_20 dX7_word_66 rfl ?_
            refine j_iload_n (q := 70) F dX7_word_69 rfl rfl 1 rfl ?_
            refine j_iald (q := 71) F ar86 (by omega) (by omega) (by decide) dX7_word_70 rfl ?_
            exact hret _ _ _ _ dX7_word_71 (by refine mpo_of (fun _ _ _ _ => rfl) ⟨SM.rf M, Or.inr ⟨by omega, (fun z => by exfalso; omega), (fun z => by exfalso; omega), (fun z => by first | (exfalso; omega) | rfl), (fun z => by exfalso; omega)⟩⟩)
          · skip
            refine j_aload_n (q := 58) F dX7_word_57 rfl rfl 0 rfl ?_
            refine j_iload_n (q := 59) F dX7_word_58 rfl rfl 1 rfl ?_
            refine j_callVE (q := 62) F [vI k] (ct_X7_lineOf l X hX M (by first | exact hD | exact hDl) k (by omega) (by omega)) gX7_word_X7_lineOf rfl cd_X7_lineOf ⟨by first | exact Nat.le_of_ble_eq_true rfl | (simp only [rm]; omega) | (simp [rm, vI, vR, Value.category]; omega), by first | exact Nat.le_of_ble_eq_true rfl | (simp only [rm]; omega) | (simp [rm, vI, vR, Value.category]; omega), by first | exact Nat.le_of_ble_eq_true rfl | (simp only [rm]; omega) | (simp [rm, vI, vR, Value.category]; omega), by first | exact Nat.le_of_ble_eq_true rfl | (simp only [rm]; omega) | (simp [rm, vI, vR, Value.category]; omega)⟩ md82 rfl rfl rfl (Nat.le_of_ble_eq_true rfl) dX7_word_59 rfl ?_
            refine j_goto (q := 71) F dX7_word_62 (by decide) ?_
            exact hret _ _ _ _ dX7_word_71 (by refine mpo_of (fun _ _ _ _ => rfl) ⟨SM.rf M, Or.inr ⟨by omega, (fun z => by exfalso; omega), (fun z => by first | (exfalso; omega) | rfl), (fun z => by exfalso; omega), (fun z => by exfalso; omega)⟩⟩)
        · skip
          refine j_aload_n (q := 42) F dX7_word_41 rfl rfl 0 rfl ?_
          refine j_getR (q := 45) (z := 83) (index := 7) F md82 rfl in_X7_word_7 0 (by decide) rfl fl_X7_word_7 dX7_word_42 rfl ?_
          refine j_iconst (q := 46) F dX7_word_45 rfl ?_
          refine j_iload_n (q := 47) F dX7_word_46 rfl rfl 1 rfl ?_
          refine j_iadd (q := 48) (z := 4 + k) F dX7_word_47 rfl rfl ?_
          refine j_iald (q := 49) F ar83 (by omega) (by omega) (by decide) dX7_word_48 rfl ?_
          refine j_goto (q := 71) F dX7_word_49 (by decide) ?_
          exact hret _ _ _ _ dX7_word_71 (by refine mpo_of (fun _ _ _ _ => rfl) ⟨SM.rf M, Or.inr ⟨by omega, (fun z => by first | (exfalso; omega) | rfl), (fun z => by exfalso; omega), (fun z => by exfalso; omega), (fun z => by exfalso; omega)⟩⟩)
      · skip
        refine j_aload_n (q := 33) F dX7_word_32 rfl rfl 0 rfl ?_
        refine j_callVI (q := 36) F [] (ct_X7_laysAll l X hX M hD) gX7_word_X7_laysAll rfl cd_X7_laysAll ⟨by first | exact Nat.le_of_ble_eq_true rfl | (simp only [rm]; omega) | (simp [rm, vI, vR, Value.category]; omega), by first | exact Nat.le_of_ble_eq_true rfl | (simp only [rm]; omega) | (simp [rm, vI, vR, Value.category]; omega), by first | exact Nat.le_of_ble_eq_true rfl | (simp only [rm]; omega) | (simp [rm, vI, vR, Value.category]; omega), by first | exact Nat.le_of_ble_eq_true rfl | (simp only [rm]; omega) | (simp [rm, vI, vR, Value.category]; omega)⟩ md82 rfl rfl rfl (Nat.le_of_ble_eq_true rfl) dX7_word_33 rfl (fun lr Ml hl => ?_)
        have l83 : Ml 83 = M 83 := hl.1 83 (by decide)
        have hLM : LM Ml (Ml 83) := by rw [l83]; exact hl.2.1
        have hDl : DOK (Ml 83) := by rw [l83]; exact hD
        have hlr := LR_bd hD
        have e30 : Ml 83 3 = M 83 3 := by rw [l83]
        refine j_pop (q := 37) F dX7_word_36 rfl rfl ?_
        refine j_iload_n (q := 38) F dX7_word_37 rfl rfl 2 rfl ?_
        refine j_if_ne (q := 41) (tgt := 52) F dX7_word_38 (by decide) rfl ⟨by omega, by omega⟩ (fun h38_8 => ?_) (fun h38_8 => ?_)
        · skip
          refine j_iload_n (q := 53) F dX7_word_52 rfl rfl 2 rfl ?_
          refine j_iconst (q := 54) F dX7_word_53 rfl ?_
          refine j_icmp_ne (q := 57) (tgt := 65) F dX7_word_54 (by decide) rfl ⟨by omega, by omega⟩ ⟨by decide, by decide⟩ (fun h54_9 => ?_) (fun h54_9 => ?_)
          · skip
            refine j_aload_n (q := 66) F dX7_word_65 rfl rfl 0 rfl ?_
            refine j_getR (q := 69) (z := 86) (index := 20) F md82 rfl in_X7_word_7 5 (by decide) rfl fl_X7_word_20 dX7_word_66 rfl ?_
            refine j_iload_n (q := 70) F dX7_word_69 rfl rfl 1 rfl ?_
            refine j_iald (q := 71) F ar86 (by omega) (by omega) (by decide) dX7_word_70 rfl ?_
            exact hret _ _ _ _ dX7_word_71 (by refine mpo_lay hl.1 (fun hsm => ⟨hsm, Or.inr ⟨by omega, (fun z => by exfalso; omega), (fun z => by exfalso; omega), (fun z => by first | (exfalso; omega) | exact (hl.2.1 k (by omega) (by omega)).1), (fun z => by exfalso; omega)⟩⟩))
          · skip
            refine j_aload_n (q := 58) F dX7_word_57 rfl rfl 0 rfl ?_
            refine j_iload_n (q := 59) F dX7_word_58 rfl rfl 1 rfl ?_
            refine j_callVE (q := 62) F [vI k] (ct_X7_lineOf l X hX Ml (by first | exact hD | exact hDl) k (by omega) (by omega)) gX7_word_X7_lineOf rfl cd_X7_lineOf ⟨by first | exact Nat.le_of_ble_eq_true rfl | (simp only [rm]; omega) | (simp [rm, vI, vR, Value.category]; omega), by first | exact Nat.le_of_ble_eq_true rfl | (simp only [rm]; omega) | (simp [rm, vI, vR, Value.category]; omega), by first | exact Nat.le_of_ble_eq_true rfl | (simp only [rm]; omega) | (simp [rm, vI, vR, Value.category]; omega), by first | exact Nat.le_of_ble_eq_true rfl | (simp only [rm]; omega) | (simp [rm, vI, vR, Value.category]; omega)⟩ md82 rfl rfl rfl (Nat.le_of_ble_eq_true rfl) dX7_word_59 rfl ?_
            refine j_goto (q := 71) F dX7_word_62 (by decide) ?_
            exact hret _ _ _ _ dX7_word_71 (by refine mpo_lay hl.1 (fun hsm => ⟨hsm, Or.inr ⟨by omega, (fun z => by exfalso; omega), (fun z => by first | (exfalso; omega) | exact (hl.2.1 k (by omega) (by omega)).1), (fun z => by exfalso; omega), (fun z => by exfalso; omega)⟩⟩))
        · skip
          refine j_aload_n (q := 42) F dX7_word_41 rfl rfl 0 rfl ?_
          refine j_getR (q := 45) (z := 83) (index := 7) F md82 rfl in_X7_word_7 0 (by decide) rfl fl_X7_word_7 dX7_word_42 rfl ?_
          refine j_iconst (q := 46) F dX7_word_45 rfl ?_
          refine j_iload_n (q := 47) F dX7_word_46 rfl rfl 1 rfl ?_
          refine j_iadd (q := 48) (z := 4 + k) F dX7_word_47 rfl rfl ?_
          refine j_iald (q := 49) F ar83 (by omega) (by omega) (by decide) dX7_word_48 rfl ?_
          refine j_goto (q := 71) F dX7_word_49 (by decide) ?_
          exact hret _ _ _ _ dX7_word_71 (by refine mpo_lay hl.1 (fun hsm => ⟨hsm, Or.inr ⟨by omega, (fun z => by first | (exfalso; omega) | exact (hl.2.1 k (by omega) (by omega)).1), (fun z => by exfalso; omega), (fun z => by exfalso; omega), (fun z => by exfalso; omega)⟩⟩))
    · skip
      refine j_if_ne (q := 25) (tgt := 27) F dX7_word_22 (by decide) rfl ⟨by decide, by decide⟩ (fun h => absurd h (by decide)) (fun _ => ?_)
      refine j_iconst (q := 26) F dX7_word_25 rfl ?_
      refine hret _ _ _ _ dX7_word_26 ?_
      · by_cases hik : 0 ≤ k ∧ k < M 83 0
        · first | (exfalso; omega) | exact mpo_of (fun _ _ _ _ => rfl) ⟨SM.rf M, Or.inr ⟨hik, (fun z => by exfalso; omega), (fun z => by exfalso; omega), (fun z => by exfalso; omega), fun _ => rfl⟩⟩
        · exact mpo_of (fun _ _ _ _ => rfl) ⟨SM.rf M, Or.inl ⟨hik, rfl⟩⟩
  · skip
    refine j_if_eq (q := 16) (tgt := 25) F dX7_word_13 (by decide) rfl ⟨by decide, by decide⟩ (fun _ => ?_) (fun h => absurd h (by decide))
    refine j_iconst (q := 26) F dX7_word_25 rfl ?_
    refine hret _ _ _ _ dX7_word_26 ?_
    · by_cases hik : 0 ≤ k ∧ k < M 83 0
      · first | (exfalso; omega) | exact mpo_of (fun _ _ _ _ => rfl) ⟨SM.rf M, Or.inr ⟨hik, (fun z => by exfalso; omega), (fun z => by exfalso; omega), (fun z => by exfalso; omega), fun _ => rfl⟩⟩
      · exact mpo_of (fun _ _ _ _ => rfl) ⟨SM.rf M, Or.inl ⟨hik, rfl⟩⟩
theorem fl_X7_columnIn_20 : Cond.fieldLink RX7 20 "WhiteRiversModel" "column" "[I" ∈ wsX7_columnIn := by decide +kernel
theorem fl_X7_columnIn_7 : Cond.fieldLink RX7 7 "WhiteRiversModel" "d" "[I" ∈ wsX7_columnIn := by decide +kernel
theorem in_X7_columnIn_7 : ∀ w ∈ u_ws RX7 TX7 19, w ∈ wsX7_columnIn := by decide +kernel
set_option maxRecDepth 100000 in
set_option maxHeartbeats 400000 in
theorem ct_X7_columnIn (l : Launch) (X : Cx) (hX : Inj X) (M : Mem) (hD : DOK (M 83)) (hL : LM M (M 83)) (w c : Int) (h0 : 0 ≤ w) (h1 : w < M 83 0) (hc : inR c) (hb : 0 ≤ CO (M 83) w ∧ CO (M 83) w ≤ 2000) : CtI l X yX7_columnIn wsX7_columnIn 0 [vR X 82, vI w, vI c] M (fun x M' => M' = M ∧ (x = 1 ∧ inC (M 83) w c ∨ x = 0 ∧ ¬ inC (M 83) w c)) := by
  refine CtI_ofZ (cc := cX7_columnIn) (maxL := 3) hX (by decide +kernel) rfl (Nat.le_of_ble_eq_true rfl) ?_
  intro zp ze zs zm zargs zbelow zmeth zc zQ F hret
  show J zp l ze (rm 0) zs zm zargs zbelow zmeth zc 0 0 zQ zs.heap X 3 M 0 [(0, vR X 82), (1, vI w), (2, vI c)] []
  have hw := hD.w
  have hnn := hD.1
  have hww := hD.2.1
  have hlen := hw.2.2
  have hL24 := hD.L24
  have hss := hD.2.2.1
  obtain ⟨hc1, hc2⟩ := hc
  have e86 := (hL w h0 h1).1
  have hl8 := hlen w h0 h1
  refine j_iload_n (q := 1) F dX7_columnIn_0 rfl rfl 2 rfl ?_
  refine j_aload_n (q := 2) F dX7_columnIn_1 rfl rfl 0 rfl ?_
  refine j_getR (q := 5) (z := 86) (index := 20) F md82 rfl in_X7_columnIn_7 5 (by decide) rfl fl_X7_columnIn_20 dX7_columnIn_2 rfl ?_
  refine j_iload_n (q := 6) F dX7_columnIn_5 rfl rfl 1 rfl ?_
  refine j_iald (q := 7) F ar86 (by omega) (by omega) (by decide) dX7_columnIn_6 rfl ?_
  refine j_icmp_lt (q := 10) (tgt := 33) F dX7_columnIn_7 (by decide) rfl ⟨by omega, by omega⟩ ⟨by omega, by omega⟩ (fun h7_1 => ?_) (fun h7_1 => ?_)
  · skip
    refine j_iconst (q := 34) F dX7_columnIn_33 rfl ?_
    exact hret _ _ _ _ dX7_columnIn_34 (Or.inl rfl) (by refine ⟨rfl, ?_⟩; unfold inC; omega)
  · skip
    refine j_iload_n (q := 11) F dX7_columnIn_10 rfl rfl 2 rfl ?_
    refine j_aload_n (q := 12) F dX7_columnIn_11 rfl rfl 0 rfl ?_
    refine j_getR (q := 15) (z := 86) (index := 20) F md82 rfl in_X7_columnIn_7 5 (by decide) rfl fl_X7_columnIn_20 dX7_columnIn_12 rfl ?_
    refine j_iload_n (q := 16) F dX7_columnIn_15 rfl rfl 1 rfl ?_
    refine j_iald (q := 17) F ar86 (by omega) (by omega) (by decide) dX7_columnIn_16 rfl ?_
    refine j_aload_n (q := 18) F dX7_columnIn_17 rfl rfl 0 rfl ?_
    refine j_getR (q := 21) (z := 83) (index := 7) F md82 rfl in_X7_columnIn_7 0 (by decide) rfl fl_X7_columnIn_7 dX7_columnIn_18 rfl ?_
    refine j_iconst (q := 22) F dX7_columnIn_21 rfl ?_
    refine j_iload_n (q := 23) F dX7_columnIn_22 rfl rfl 1 rfl ?_
    refine j_iadd (q := 24) (z := 4 + w) F dX7_columnIn_23 rfl rfl ?_
    refine j_iald (q := 25) F ar83 (by omega) (by omega) (by decide) dX7_columnIn_24 rfl ?_
    refine j_iadd (q := 26) (z := (M 86 w) + (M 83 (4 + w))) F dX7_columnIn_25 rfl rfl ?_
    refine j_icmp_ge (q := 29) (tgt := 33) F dX7_columnIn_26 (by decide) rfl ⟨by omega, by omega⟩ ⟨by omega, by omega⟩ (fun h26_2 => ?_) (fun h26_2 => ?_)
    · skip
      refine j_iconst (q := 34) F dX7_columnIn_33 rfl ?_
      exact hret _ _ _ _ dX7_columnIn_34 (Or.inl rfl) (by refine ⟨rfl, ?_⟩; unfold inC; omega)
    · skip
      refine j_iconst (q := 30) F dX7_columnIn_29 rfl ?_
      refine j_goto (q := 34) F dX7_columnIn_30 (by decide) ?_
      exact hret _ _ _ _ dX7_columnIn_34 (Or.inr rfl) (by refine ⟨rfl, ?_⟩; unfold inC; omega)
