theorem cd_X1_join : yX1_join.cls = RX1 ∧ yX1_join.cls ≠ "java/lang/invoke/MethodHandle" ∧ yX1_join.cls ≠ "java/lang/invoke/VarHandle" ∧ (parseMethodDescriptor yX1_join.desc).map (fun d => d.parameters.length) = some 1 := by decide +kernel
theorem fl_X6_pull_10 : Cond.fieldLink RX6 10 "WhiteRivers" "page" "LWhiteRivers$Page;" ∈ wsX6_pull := by decide +kernel
theorem fl_X6_pull_68 : Cond.fieldLink RX6 68 "WhiteRivers$Page" "words" "I" ∈ wsX6_pull := by decide +kernel
theorem in_X6_pull_1 : ∀ w ∈ u_ws RX1 TX1 6, w ∈ wsX6_pull := by decide +kernel
theorem in_X6_pull_6 : ∀ w ∈ u_ws RX6 TX6 5, w ∈ wsX6_pull := by decide +kernel
set_option maxRecDepth 100000 in
set_option maxHeartbeats 400000 in
theorem ct_X6_pull (l : Launch) (X : Cx) (hX : Inj X) (M : Mem) (hC : CRel M M) (line : Int) (hli0 : inR line) : CtI l X yX6_pull wsX6_pull 5 [vR X 0, vI line] M (fun r M' => CPO M (Opull M line) r M') := by
  refine CtI_of (cc := cX6_pull) (maxL := 4) hX (by decide +kernel) rfl (Nat.le_of_ble_eq_true rfl) ?_
  intro zp ze zs zm zargs zbelow zmeth zc zQ F hret
  show J zp l ze (rm 5) zs zm zargs zbelow zmeth zc 0 0 zQ zs.heap X 4 M 0 [(0, vR X 0), (1, vI line)] []
  have hR := hC.1
  have hD := hC.2.1
  have hn : M 1 2 = M 83 0 := hR.2.2.1
  have hw0 : M 1 0 = M 83 1 := hR.1
  have hs0 : M 1 1 = M 83 2 := hR.2.1
  have hnn := hD.1
  have hww := hD.2.1
  have hss := hD.2.2.1
  have hL24 := hD.L24
  have hl8 : ∀ w, 0 ≤ w → w < 24 → 0 ≤ M 3 w ∧ M 3 w ≤ 8 := hR.2.2.2.2.1
  have htot : cnt (M 5) (M 83 0) = M 83 3 := hR.2.2.2.1.total
  have hct : cnt (M 5) (M 1 2) = M 83 3 := by rw [hn]; exact htot
  obtain ⟨hli1, hli2⟩ := hli0
  refine j_aload_n (q := 1) F dX6_pull_0 rfl rfl 0 rfl ?_
  refine j_getR (q := 4) (z := 1) (index := 10) F wr0 rfl in_X6_pull_6 0 (by decide) rfl fl_X6_pull_10 dX6_pull_1 rfl ?_
  refine j_iload_n (q := 5) F dX6_pull_4 rfl rfl 1 rfl ?_
  refine j_callVZ (q := 8) F [vI line] (ct_X1_hasLine l X hX M 1 (pg1) (by omega) line ⟨by omega, by omega⟩ (by show inR (cnt (M 5) (M 1 2)); rw [hct]; exact ⟨by omega, by omega⟩)) gX6_pull_X1_hasLine rfl cd_X1_hasLine ⟨by first | exact Nat.le_of_ble_eq_true rfl | (simp only [rm]; omega) | (simp [rm, vI, vR, Value.category]; omega), by first | exact Nat.le_of_ble_eq_true rfl | (simp only [rm]; omega) | (simp [rm, vI, vR, Value.category]; omega), by first | exact Nat.le_of_ble_eq_true rfl | (simp only [rm]; omega) | (simp [rm, vI, vR, Value.category]; omega), by first | exact Nat.le_of_ble_eq_true rfl | (simp only [rm]; omega) | (simp [rm, vI, vR, Value.category]; omega)⟩ (pg1).1 rfl rfl rfl (Nat.le_of_ble_eq_true rfl) dX6_pull_5 rfl (fun hli => ?_) (fun hli => ?_)
  · skip
    have hli : 0 ≤ line ∧ line < M 83 3 := by rw [← hct]; exact hli
    have hbl := hD.bd (l := line) hli.1 (by omega)
    have hbl1 := hD.bd (l := line + 1) (by omega) (by omega)
    have hseg := hD.2.2.2.2.2.2 line hli.1 hli.2
    refine j_if_ne (q := 11) (tgt := 13) F dX6_pull_8 (by decide) rfl ⟨by decide, by decide⟩ (fun _ => ?_) (fun h => absurd h (by decide))
    refine j_aload_n (q := 14) F dX6_pull_13 rfl rfl 0 rfl ?_
    refine j_getR (q := 17) (z := 1) (index := 10) F wr0 rfl in_X6_pull_6 0 (by decide) rfl fl_X6_pull_10 dX6_pull_14 rfl ?_
    refine j_iload_n (q := 18) F dX6_pull_17 rfl rfl 1 rfl ?_
    refine j_callVP (q := 21) F [vI line] (ct_X1_firstOf l X hX M 1 (pg1) (by omega) line ⟨by omega, by omega⟩ (fun w' q0 q1 => by have hq := hR.2.2.2.1.cntbd q0 (show w' < M 83 0 by have := hR.2.2.1; omega); exact ⟨by omega, by omega⟩)) gX6_pull_X1_firstOf rfl cd_X1_firstOf ⟨by first | exact Nat.le_of_ble_eq_true rfl | (simp only [rm]; omega) | (simp [rm, vI, vR, Value.category]; omega), by first | exact Nat.le_of_ble_eq_true rfl | (simp only [rm]; omega) | (simp [rm, vI, vR, Value.category]; omega), by first | exact Nat.le_of_ble_eq_true rfl | (simp only [rm]; omega) | (simp [rm, vI, vR, Value.category]; omega), by first | exact Nat.le_of_ble_eq_true rfl | (simp only [rm]; omega) | (simp [rm, vI, vR, Value.category]; omega)⟩ (pg1).1 rfl rfl rfl (Nat.le_of_ble_eq_true rfl) dX6_pull_18 rfl (fun f hf => ?_)
    rw [hn] at hf
    have ef : f = sd (M 83) line := hR.2.2.2.1.fst hli.1 hli.2 hf
    refine j_istore_n (q := 22) (lv' := [(0, vR X 0), (1, vI line), (2, vI f)]) F dX6_pull_21 rfl rfl (by decide) rfl rfl ?_
    refine j_aload_n (q := 23) F dX6_pull_22 rfl rfl 0 rfl ?_
    refine j_getR (q := 26) (z := 1) (index := 10) F wr0 rfl in_X6_pull_6 0 (by decide) rfl fl_X6_pull_10 dX6_pull_23 rfl ?_
    refine j_iload_n (q := 27) F dX6_pull_26 rfl rfl 2 rfl ?_
    refine j_callVP (q := 30) F [vI f] (ct_X1_endOf l X hX M 1 (pg1) (by omega) f ⟨by omega, by omega⟩ (fun w' q0 q1 => by have hq := hR.2.2.2.1.bin q0 (show w' < M 83 0 by have := hR.2.2.1; omega); exact ⟨by omega, by omega⟩)) gX6_pull_X1_endOf rfl cd_X1_endOf ⟨by first | exact Nat.le_of_ble_eq_true rfl | (simp only [rm]; omega) | (simp [rm, vI, vR, Value.category]; omega), by first | exact Nat.le_of_ble_eq_true rfl | (simp only [rm]; omega) | (simp [rm, vI, vR, Value.category]; omega), by first | exact Nat.le_of_ble_eq_true rfl | (simp only [rm]; omega) | (simp [rm, vI, vR, Value.category]; omega), by first | exact Nat.le_of_ble_eq_true rfl | (simp only [rm]; omega) | (simp [rm, vI, vR, Value.category]; omega)⟩ (pg1).1 rfl rfl rfl (Nat.le_of_ble_eq_true rfl) dX6_pull_27 rfl (fun nx hnx => ?_)
    rw [hn, ef] at hnx
    have enx : nx = sd (M 83) (line + 1) := hR.2.2.2.1.end hli.1 hli.2 hnx
    have hnl : (line + 1 = M 83 3 ∧ nx = M 83 0) ∨ (line + 1 < M 83 3 ∧ nx < M 83 0) := by
      by_cases z : line + 1 = M 83 3
      · left; exact ⟨z, by rw [enx, z]; exact sd_L (Int.le_refl _)⟩
      · right; exact ⟨by omega, by omega⟩
    refine j_istore_n (q := 31) (lv' := [(0, vR X 0), (1, vI line), (2, vI f), (3, vI nx)]) F dX6_pull_30 rfl rfl (by decide) rfl rfl ?_
    refine j_iload_n (q := 32) F dX6_pull_31 rfl rfl 3 rfl ?_
    refine j_aload_n (q := 33) F dX6_pull_32 rfl rfl 0 rfl ?_
    refine j_getR (q := 36) (z := 1) (index := 10) F wr0 rfl in_X6_pull_6 0 (by decide) rfl fl_X6_pull_10 dX6_pull_33 rfl ?_
    refine j_getI (q := 39) (i := 2) (index := 68) F (pg1).1 rfl in_X6_pull_1 2 (by decide) rfl rfl fl_X6_pull_68 dX6_pull_36 rfl ?_
    refine j_icmp_ge (q := 42) (tgt := 78) F dX6_pull_39 (by decide) rfl ⟨by omega, by omega⟩ ⟨by omega, by omega⟩ (fun h39_4 => ?_) (fun h39_4 => ?_)
    · skip
      refine j_bipush (q := 80) F dX6_pull_78 rfl (by decide) ?_
      refine hret _ _ _ _ dX6_pull_80 ?_
      · refine ⟨fun _ _ => rfl, fun r' N hO => ?_⟩
        rcases hO with ⟨q1, q2, q3⟩ | ⟨q1, q2, q3, q4⟩ | ⟨q1, q2, q3, q4, q5, q6⟩
        · exact absurd hli q1
        · exact ⟨by omega, hC.same (fun _ _ => rfl) q4⟩
        · exact absurd (by first | exact Or.inl (by omega) | exact Or.inr (Or.inl hz1) | exact Or.inr (Or.inr (Or.inl hz2)) | exact Or.inr (Or.inr (Or.inr hft))) q2
    · skip
      refine j_aload_n (q := 43) F dX6_pull_42 rfl rfl 0 rfl ?_
      refine j_getR (q := 46) (z := 1) (index := 10) F wr0 rfl in_X6_pull_6 0 (by decide) rfl fl_X6_pull_10 dX6_pull_43 rfl ?_
      refine j_iload_n (q := 47) F dX6_pull_46 rfl rfl 2 rfl ?_
      refine j_callVZ (q := 50) F [vI f] (ct_X1_isFrozen_in l X hX M 1 (pg1) f (by omega) (by omega) (hR.fz hD (by omega) (by omega))) gX6_pull_X1_isFrozen rfl cd_X1_isFrozen ⟨by first | exact Nat.le_of_ble_eq_true rfl | (simp only [rm]; omega) | (simp [rm, vI, vR, Value.category]; omega), by first | exact Nat.le_of_ble_eq_true rfl | (simp only [rm]; omega) | (simp [rm, vI, vR, Value.category]; omega), by first | exact Nat.le_of_ble_eq_true rfl | (simp only [rm]; omega) | (simp [rm, vI, vR, Value.category]; omega), by first | exact Nat.le_of_ble_eq_true rfl | (simp only [rm]; omega) | (simp [rm, vI, vR, Value.category]; omega)⟩ (pg1).1 rfl rfl rfl (Nat.le_of_ble_eq_true rfl) dX6_pull_47 rfl (fun hz1 => ?_) (fun hz1 => ?_)
      · skip
        have hz1 : M 83 (53 + line) = 1 := by rw [← hR.2.2.2.2.2.2.1 (line) (by omega) (by omega), ← ef]; exact hz1
        refine j_if_ne (q := 53) (tgt := 78) F dX6_pull_50 (by decide) rfl ⟨by decide, by decide⟩ (fun _ => ?_) (fun h => absurd h (by decide))
        refine j_bipush (q := 80) F dX6_pull_78 rfl (by decide) ?_
        refine hret _ _ _ _ dX6_pull_80 ?_
        · refine ⟨fun _ _ => rfl, fun r' N hO => ?_⟩
          rcases hO with ⟨q1, q2, q3⟩ | ⟨q1, q2, q3, q4⟩ | ⟨q1, q2, q3, q4, q5, q6⟩
          · exact absurd hli q1
          · exact ⟨by omega, hC.same (fun _ _ => rfl) q4⟩
          · exact absurd (by first | exact Or.inl (by omega) | exact Or.inr (Or.inl hz1) | exact Or.inr (Or.inr (Or.inl hz2)) | exact Or.inr (Or.inr (Or.inr hft))) q2
      · skip
        have hz1 : M 83 (53 + line) = 0 := by rw [← hR.2.2.2.2.2.2.1 (line) (by omega) (by omega), ← ef]; exact hz1
        refine j_if_ne (q := 53) (tgt := 78) F dX6_pull_50 (by decide) rfl ⟨by decide, by decide⟩ (fun h => absurd h (by decide)) (fun _ => ?_)
        refine j_aload_n (q := 54) F dX6_pull_53 rfl rfl 0 rfl ?_
        refine j_getR (q := 57) (z := 1) (index := 10) F wr0 rfl in_X6_pull_6 0 (by decide) rfl fl_X6_pull_10 dX6_pull_54 rfl ?_
        refine j_iload_n (q := 58) F dX6_pull_57 rfl rfl 3 rfl ?_
        refine j_callVZ (q := 61) F [vI nx] (ct_X1_isFrozen_in l X hX M 1 (pg1) nx (by omega) (by omega) (hR.fz hD (by omega) (by omega))) gX6_pull_X1_isFrozen rfl cd_X1_isFrozen ⟨by first | exact Nat.le_of_ble_eq_true rfl | (simp only [rm]; omega) | (simp [rm, vI, vR, Value.category]; omega), by first | exact Nat.le_of_ble_eq_true rfl | (simp only [rm]; omega) | (simp [rm, vI, vR, Value.category]; omega), by first | exact Nat.le_of_ble_eq_true rfl | (simp only [rm]; omega) | (simp [rm, vI, vR, Value.category]; omega), by first | exact Nat.le_of_ble_eq_true rfl | (simp only [rm]; omega) | (simp [rm, vI, vR, Value.category]; omega)⟩ (pg1).1 rfl rfl rfl (Nat.le_of_ble_eq_true rfl) dX6_pull_58 rfl (fun hz2 => ?_) (fun hz2 => ?_)
        · skip
          have hz2 : M 83 (53 + (line + 1)) = 1 := by rw [← hR.2.2.2.2.2.2.1 ((line + 1)) (by omega) (by omega), ← enx]; exact hz2
          refine j_if_ne (q := 64) (tgt := 78) F dX6_pull_61 (by decide) rfl ⟨by decide, by decide⟩ (fun _ => ?_) (fun h => absurd h (by decide))
          refine j_bipush (q := 80) F dX6_pull_78 rfl (by decide) ?_
          refine hret _ _ _ _ dX6_pull_80 ?_
          · refine ⟨fun _ _ => rfl, fun r' N hO => ?_⟩
            rcases hO with ⟨q1, q2, q3⟩ | ⟨q1, q2, q3, q4⟩ | ⟨q1, q2, q3, q4, q5, q6⟩
            · exact absurd hli q1
            · exact ⟨by omega, hC.same (fun _ _ => rfl) q4⟩
            · exact absurd (by first | exact Or.inl (by omega) | exact Or.inr (Or.inl hz1) | exact Or.inr (Or.inr (Or.inl hz2)) | exact Or.inr (Or.inr (Or.inr hft))) q2
        · skip
          have hz2 : M 83 (53 + (line + 1)) = 0 := by rw [← hR.2.2.2.2.2.2.1 ((line + 1)) (by omega) (by omega), ← enx]; exact hz2
          refine j_if_ne (q := 64) (tgt := 78) F dX6_pull_61 (by decide) rfl ⟨by decide, by decide⟩ (fun h => absurd h (by decide)) (fun _ => ?_)
          refine j_aload_n (q := 65) F dX6_pull_64 rfl rfl 0 rfl ?_
          refine j_getR (q := 68) (z := 1) (index := 10) F wr0 rfl in_X6_pull_6 0 (by decide) rfl fl_X6_pull_10 dX6_pull_65 rfl ?_
          refine j_iload_n (q := 69) F dX6_pull_68 rfl rfl 2 rfl ?_
          refine j_iload_n (q := 70) F dX6_pull_69 rfl rfl 3 rfl ?_
          refine j_iconst (q := 71) F dX6_pull_70 rfl ?_
          refine j_iadd (q := 72) (z := nx + 1) F dX6_pull_71 rfl rfl ?_
          refine j_callVZ (q := 75) F [vI f, vI (nx + 1)] (ct_X1_fits l X hX M 1 (pg1) f (nx + 1) (by omega) (by omega) (by omega) (exF_inR hR.2.2.2.2.1 (by rw [hw0]; omega) (by omega) (by omega) (by omega))) gX6_pull_X1_fits rfl cd_X1_fits ⟨by first | exact Nat.le_of_ble_eq_true rfl | (simp only [rm]; omega) | (simp [rm, vI, vR, Value.category]; omega), by first | exact Nat.le_of_ble_eq_true rfl | (simp only [rm]; omega) | (simp [rm, vI, vR, Value.category]; omega), by first | exact Nat.le_of_ble_eq_true rfl | (simp only [rm]; omega) | (simp [rm, vI, vR, Value.category]; omega), by first | exact Nat.le_of_ble_eq_true rfl | (simp only [rm]; omega) | (simp [rm, vI, vR, Value.category]; omega)⟩ (pg1).1 rfl rfl rfl (Nat.le_of_ble_eq_true rfl) dX6_pull_72 rfl (fun hft => ?_) (fun hft => ?_)
          · skip
            have hft : 0 ≤ exD (M 83) (sd (M 83) line) (sd (M 83) (line + 1) + 1) := by rw [← ef, ← enx, ← exD_eq hR (by omega) (by omega)]; exact hft
            refine j_if_ne (q := 78) (tgt := 81) F dX6_pull_75 (by decide) rfl ⟨by decide, by decide⟩ (fun _ => ?_) (fun h => absurd h (by decide))
            refine j_aload_n (q := 82) F dX6_pull_81 rfl rfl 0 rfl ?_
            refine j_callVV (q := 85) F [] (ct_X6_beginChange l X hX M hC) gX6_pull_X6_beginChange rfl cd_X6_beginChange ⟨by first | exact Nat.le_of_ble_eq_true rfl | (simp only [rm]; omega) | (simp [rm, vI, vR, Value.category]; omega), by first | exact Nat.le_of_ble_eq_true rfl | (simp only [rm]; omega) | (simp [rm, vI, vR, Value.category]; omega), by first | exact Nat.le_of_ble_eq_true rfl | (simp only [rm]; omega) | (simp [rm, vI, vR, Value.category]; omega), by first | exact Nat.le_of_ble_eq_true rfl | (simp only [rm]; omega) | (simp [rm, vI, vR, Value.category]; omega)⟩ wr0 rfl rfl rfl (Nat.le_of_ble_eq_true rfl) dX6_pull_82 rfl (fun Mb hb => ?_)
            have b1 : Mb 1 = M 1 := hb.1 1 (by decide) (by decide)
            have b3 : Mb 3 = M 3 := hb.1 3 (by decide) (by decide)
            have b5 : Mb 5 = M 5 := hb.1 5 (by decide) (by decide)
            have b7 : Mb 7 = M 7 := hb.1 7 (by decide) (by decide)
            have hRb := hb.rel hC
            have hfb := hb.fr
            have bn : Mb 1 2 = M 83 0 := hRb.2.2.1
            refine j_aload_n (q := 86) F dX6_pull_85 rfl rfl 0 rfl ?_
            refine j_getR (q := 89) (z := 1) (index := 10) F wr0 rfl in_X6_pull_6 0 (by decide) rfl fl_X6_pull_10 dX6_pull_86 rfl ?_
            refine j_iload_n (q := 90) F dX6_pull_89 rfl rfl 3 rfl ?_
            refine j_callVM (q := 93) F [vI nx] (ct_X1_join_in l X hX Mb 1 (pg1) nx (by omega) (by omega)) gX6_pull_X1_join rfl cd_X1_join ⟨by first | exact Nat.le_of_ble_eq_true rfl | (simp only [rm]; omega) | (simp [rm, vI, vR, Value.category]; omega), by first | exact Nat.le_of_ble_eq_true rfl | (simp only [rm]; omega) | (simp [rm, vI, vR, Value.category]; omega), by first | exact Nat.le_of_ble_eq_true rfl | (simp only [rm]; omega) | (simp [rm, vI, vR, Value.category]; omega), by first | exact Nat.le_of_ble_eq_true rfl | (simp only [rm]; omega) | (simp [rm, vI, vR, Value.category]; omega)⟩ (pg1).1 rfl rfl rfl (Nat.le_of_ble_eq_true rfl) dX6_pull_90 rfl ?_
            refine j_aload_n (q := 94) F dX6_pull_93 rfl rfl 0 rfl ?_
            refine j_getR (q := 97) (z := 1) (index := 10) F wr0 rfl in_X6_pull_6 0 (by decide) rfl fl_X6_pull_10 dX6_pull_94 rfl ?_
            refine j_iload_n (q := 98) F dX6_pull_97 rfl rfl 3 rfl ?_
            refine j_iconst (q := 99) F dX6_pull_98 rfl ?_
            refine j_iadd (q := 100) (z := nx + 1) F dX6_pull_99 rfl rfl ?_
            refine j_callVV (q := 103) F [vI (nx + 1)] (ct_X1_begin l X hX (mset Mb 5 nx 0) 1 (pg1) (by rw [mset_nef (by decide)]; omega) (nx + 1) (by omega) ⟨by omega, by omega⟩) gX6_pull_X1_begin rfl cd_X1_begin ⟨by first | exact Nat.le_of_ble_eq_true rfl | (simp only [rm]; omega) | (simp [rm, vI, vR, Value.category]; omega), by first | exact Nat.le_of_ble_eq_true rfl | (simp only [rm]; omega) | (simp [rm, vI, vR, Value.category]; omega), by first | exact Nat.le_of_ble_eq_true rfl | (simp only [rm]; omega) | (simp [rm, vI, vR, Value.category]; omega), by first | exact Nat.le_of_ble_eq_true rfl | (simp only [rm]; omega) | (simp [rm, vI, vR, Value.category]; omega)⟩ (pg1).1 rfl rfl rfl (Nat.le_of_ble_eq_true rfl) dX6_pull_100 rfl (fun Mp hp => ?_)
            rw [mset_nef (show (1 : Nat) ≠ 5 by decide), bn] at hp
            have hp1 : ∀ q, q ≠ 5 → Mp q = Mb q := by
              intro q hq
              rw [hp]
              split
              · rw [mset_nef hq, mset_nef hq]
              · rw [mset_nef hq]
            have hp5 : ∀ w, Mp 5 w = if w = nx + 1 ∧ w < M 83 0 then 1 else if w = nx then 0 else Mb 5 w := by
              intro w
              rw [hp]
              by_cases hw : nx + 1 < M 83 0
              · rw [if_pos hw]
                show mset (mset Mb 5 nx 0) 5 (nx + 1) 1 5 w = _
                rw [mset_if, mset_if]
                by_cases e1 : w = nx + 1
                · rw [if_pos e1, if_pos ⟨e1, by omega⟩]
                · rw [if_neg (show ¬ (w = nx + 1 ∧ w < M 83 0) from fun z => e1 z.1), if_neg e1]
              · rw [if_neg hw, mset_if, if_neg (show ¬ (w = nx + 1 ∧ w < M 83 0) by omega)]
            refine j_aload_n (q := 104) F dX6_pull_103 rfl rfl 0 rfl ?_
            refine j_getR (q := 107) (z := 1) (index := 10) F wr0 rfl in_X6_pull_6 0 (by decide) rfl fl_X6_pull_10 dX6_pull_104 rfl ?_
            refine j_callVE (q := 110) F [] (ct_X1_lines l X hX Mp 1 (pg1) (by rw [hp1 1 (by decide)]; omega)) gX6_pull_X1_lines rfl cd_X1_lines ⟨by first | exact Nat.le_of_ble_eq_true rfl | (simp only [rm]; omega) | (simp [rm, vI, vR, Value.category]; omega), by first | exact Nat.le_of_ble_eq_true rfl | (simp only [rm]; omega) | (simp [rm, vI, vR, Value.category]; omega), by first | exact Nat.le_of_ble_eq_true rfl | (simp only [rm]; omega) | (simp [rm, vI, vR, Value.category]; omega), by first | exact Nat.le_of_ble_eq_true rfl | (simp only [rm]; omega) | (simp [rm, vI, vR, Value.category]; omega)⟩ (pg1).1 rfl rfl rfl (Nat.le_of_ble_eq_true rfl) dX6_pull_107 rfl ?_
            refine hret _ _ _ _ dX6_pull_110 ?_
            · refine ⟨fun q hq => by rw [hp1 q (by omega)]; exact hfb q hq, fun r' N hO => ?_⟩
              rcases hO with ⟨q1, q2, q3⟩ | ⟨q1, q2, q3, q4⟩ | ⟨q1, q2, q3, q4, q5, q6⟩
              · exact absurd hli q1
              · exfalso; rcases q2 with z | z | z | z <;> omega
              · have hk : PRel Mp 1 (N 83) ∧ DOK (N 83) := by
                  have p5 : ∀ w, Mp 5 w = if w = sd (M 83) (line + 1) + 1 ∧ w < M 83 0 then 1 else if w = sd (M 83) (line + 1) then 0 else Mb 5 w := fun w => by rw [← enx]; exact hp5 w
                  rcases q5 with ⟨hc, q5⟩ | ⟨hc, q5⟩
                  · exact pull_one (P := Mp) hRb hD hli.1 (by omega) (by omega) (by omega) hft hc (by rw [hp1 1 (by decide)]) (by rw [hp1 1 (by decide)]) (by rw [hp1 1 (by decide)]) (hp1 3 (by decide)) p5 (hp1 7 (by decide)) q5
                  · exact pull_more (P := Mp) hRb hD hli.1 (by omega) (by omega) (by omega) hft hc (by rw [hp1 1 (by decide)]) (by rw [hp1 1 (by decide)]) (by rw [hp1 1 (by decide)]) (hp1 3 (by decide)) p5 (hp1 7 (by decide)) q5
                exact ⟨by have hz9 := hk.1.2.2.2.1.total; rw [← hk.1.2.2.1] at hz9; rw [q6]; exact hz9, hC.change hb (fun q g0 g1 => hp1 q (by omega)) q3 q4.1 q4.2 hk.1 hk.2⟩
          · skip
            have hft : exD (M 83) (sd (M 83) line) (sd (M 83) (line + 1) + 1) < 0 := by rw [← ef, ← enx, ← exD_eq hR (by omega) (by omega)]; exact hft
            refine j_if_ne (q := 78) (tgt := 81) F dX6_pull_75 (by decide) rfl ⟨by decide, by decide⟩ (fun h => absurd h (by decide)) (fun _ => ?_)
            refine j_bipush (q := 80) F dX6_pull_78 rfl (by decide) ?_
            refine hret _ _ _ _ dX6_pull_80 ?_
            · refine ⟨fun _ _ => rfl, fun r' N hO => ?_⟩
              rcases hO with ⟨q1, q2, q3⟩ | ⟨q1, q2, q3, q4⟩ | ⟨q1, q2, q3, q4, q5, q6⟩
              · exact absurd hli q1
              · exact ⟨by omega, hC.same (fun _ _ => rfl) q4⟩
              · exact absurd (by first | exact Or.inl (by omega) | exact Or.inr (Or.inl hz1) | exact Or.inr (Or.inr (Or.inl hz2)) | exact Or.inr (Or.inr (Or.inr hft))) q2
  · skip
    have hli : line < 0 ∨ M 83 3 ≤ line := by rw [← hct]; exact hli
    refine j_if_ne (q := 11) (tgt := 13) F dX6_pull_8 (by decide) rfl ⟨by decide, by decide⟩ (fun h => absurd h (by decide)) (fun _ => ?_)
    refine j_iconst (q := 12) F dX6_pull_11 rfl ?_
    refine hret _ _ _ _ dX6_pull_12 ?_
    · refine ⟨fun _ _ => rfl, fun r' N hO => ?_⟩
      rcases hO with ⟨q1, q2, q3⟩ | ⟨q1, q2, q3, q4⟩ | ⟨q1, q2, q3, q4, q5, q6⟩
      · exact ⟨by omega, hC.same (fun _ _ => rfl) q3⟩
      · exfalso; have z1 := q1.1; have z2 := q1.2; omega
      · exfalso; have z1 := q1.1; have z2 := q1.2; omega
theorem fl_X6_push_10 : Cond.fieldLink RX6 10 "WhiteRivers" "page" "LWhiteRivers$Page;" ∈ wsX6_push := by decide +kernel
theorem fl_X6_push_68 : Cond.fieldLink RX6 68 "WhiteRivers$Page" "words" "I" ∈ wsX6_push := by decide +kernel
theorem in_X6_push_1 : ∀ w ∈ u_ws RX1 TX1 6, w ∈ wsX6_push := by decide +kernel
theorem in_X6_push_6 : ∀ w ∈ u_ws RX6 TX6 5, w ∈ wsX6_push := by decide +kernel
set_option maxRecDepth 100000 in
set_option maxHeartbeats 1000000 in
theorem ct_X6_push (l : Launch) (X : Cx) (hX : Inj X) (M : Mem) (hC : CRel M M) (line : Int) (hli0 : inR line) : CtI l X yX6_push wsX6_push 5 [vR X 0, vI line] M (fun r M' => CPO M (Opush M line) r M') := by
  refine CtI_of (cc := cX6_push) (maxL := 6) hX (by decide +kernel) rfl (Nat.le_of_ble_eq_true rfl) ?_
  intro zp ze zs zm zargs zbelow zmeth zc zQ F hret
  show J zp l ze (rm 5) zs zm zargs zbelow zmeth zc 0 0 zQ zs.heap X 6 M 0 [(0, vR X 0), (1, vI line)] []
  have hR := hC.1
  have hD := hC.2.1
  have hn : M 1 2 = M 83 0 := hR.2.2.1
  have hw0 : M 1 0 = M 83 1 := hR.1
  have hs0 : M 1 1 = M 83 2 := hR.2.1
  have hnn := hD.1
  have hww := hD.2.1
  have hss := hD.2.2.1
  have hL24 := hD.L24
  have hl8 : ∀ w, 0 ≤ w → w < 24 → 0 ≤ M 3 w ∧ M 3 w ≤ 8 := hR.2.2.2.2.1
  have htot : cnt (M 5) (M 83 0) = M 83 3 := hR.2.2.2.1.total
  have hct : cnt (M 5) (M 1 2) = M 83 3 := by rw [hn]; exact htot
  obtain ⟨hli1, hli2⟩ := hli0
  refine j_aload_n (q := 1) F dX6_push_0 rfl rfl 0 rfl ?_
  refine j_getR (q := 4) (z := 1) (index := 10) F wr0 rfl in_X6_push_6 0 (by decide) rfl fl_X6_push_10 dX6_push_1 rfl ?_
  refine j_iload_n (q := 5) F dX6_push_4 rfl rfl 1 rfl ?_
  refine j_callVZ (q := 8) F [vI line] (ct_X1_hasLine l X hX M 1 (pg1) (by omega) line ⟨by omega, by omega⟩ (by show inR (cnt (M 5) (M 1 2)); rw [hct]; exact ⟨by omega, by omega⟩)) gX6_push_X1_hasLine rfl cd_X1_hasLine ⟨by first | exact Nat.le_of_ble_eq_true rfl | (simp only [rm]; omega) | (simp [rm, vI, vR, Value.category]; omega), by first | exact Nat.le_of_ble_eq_true rfl | (simp only [rm]; omega) | (simp [rm, vI, vR, Value.category]; omega), by first | exact Nat.le_of_ble_eq_true rfl | (simp only [rm]; omega) | (simp [rm, vI, vR, Value.category]; omega), by first | exact Nat.le_of_ble_eq_true rfl | (simp only [rm]; omega) | (simp [rm, vI, vR, Value.category]; omega)⟩ (pg1).1 rfl rfl rfl (Nat.le_of_ble_eq_true rfl) dX6_push_5 rfl (fun hli => ?_) (fun hli => ?_)
  · skip
    have hli : 0 ≤ line ∧ line < M 83 3 := by rw [← hct]; exact hli
    have hbl := hD.bd (l := line) hli.1 (by omega)
    have hbl1 := hD.bd (l := line + 1) (by omega) (by omega)
    have hseg := hD.2.2.2.2.2.2 line hli.1 hli.2
    refine j_if_ne (q := 11) (tgt := 13) F dX6_push_8 (by decide) rfl ⟨by decide, by decide⟩ (fun _ => ?_) (fun h => absurd h (by decide))
    refine j_aload_n (q := 14) F dX6_push_13 rfl rfl 0 rfl ?_
    refine j_getR (q := 17) (z := 1) (index := 10) F wr0 rfl in_X6_push_6 0 (by decide) rfl fl_X6_push_10 dX6_push_14 rfl ?_
    refine j_iload_n (q := 18) F dX6_push_17 rfl rfl 1 rfl ?_
    refine j_callVP (q := 21) F [vI line] (ct_X1_firstOf l X hX M 1 (pg1) (by omega) line ⟨by omega, by omega⟩ (fun w' q0 q1 => by have hq := hR.2.2.2.1.cntbd q0 (show w' < M 83 0 by have := hR.2.2.1; omega); exact ⟨by omega, by omega⟩)) gX6_push_X1_firstOf rfl cd_X1_firstOf ⟨by first | exact Nat.le_of_ble_eq_true rfl | (simp only [rm]; omega) | (simp [rm, vI, vR, Value.category]; omega), by first | exact Nat.le_of_ble_eq_true rfl | (simp only [rm]; omega) | (simp [rm, vI, vR, Value.category]; omega), by first | exact Nat.le_of_ble_eq_true rfl | (simp only [rm]; omega) | (simp [rm, vI, vR, Value.category]; omega), by first | exact Nat.le_of_ble_eq_true rfl | (simp only [rm]; omega) | (simp [rm, vI, vR, Value.category]; omega)⟩ (pg1).1 rfl rfl rfl (Nat.le_of_ble_eq_true rfl) dX6_push_18 rfl (fun f hf => ?_)
    rw [hn] at hf
    have ef : f = sd (M 83) line := hR.2.2.2.1.fst hli.1 hli.2 hf
    refine j_istore_n (q := 22) (lv' := [(0, vR X 0), (1, vI line), (2, vI f)]) F dX6_push_21 rfl rfl (by decide) rfl rfl ?_
    refine j_aload_n (q := 23) F dX6_push_22 rfl rfl 0 rfl ?_
    refine j_getR (q := 26) (z := 1) (index := 10) F wr0 rfl in_X6_push_6 0 (by decide) rfl fl_X6_push_10 dX6_push_23 rfl ?_
    refine j_iload_n (q := 27) F dX6_push_26 rfl rfl 2 rfl ?_
    refine j_callVP (q := 30) F [vI f] (ct_X1_endOf l X hX M 1 (pg1) (by omega) f ⟨by omega, by omega⟩ (fun w' q0 q1 => by have hq := hR.2.2.2.1.bin q0 (show w' < M 83 0 by have := hR.2.2.1; omega); exact ⟨by omega, by omega⟩)) gX6_push_X1_endOf rfl cd_X1_endOf ⟨by first | exact Nat.le_of_ble_eq_true rfl | (simp only [rm]; omega) | (simp [rm, vI, vR, Value.category]; omega), by first | exact Nat.le_of_ble_eq_true rfl | (simp only [rm]; omega) | (simp [rm, vI, vR, Value.category]; omega), by first | exact Nat.le_of_ble_eq_true rfl | (simp only [rm]; omega) | (simp [rm, vI, vR, Value.category]; omega), by first | exact Nat.le_of_ble_eq_true rfl | (simp only [rm]; omega) | (simp [rm, vI, vR, Value.category]; omega)⟩ (pg1).1 rfl rfl rfl (Nat.le_of_ble_eq_true rfl) dX6_push_27 rfl (fun nx hnx => ?_)
    rw [hn, ef] at hnx
    have enx : nx = sd (M 83) (line + 1) := hR.2.2.2.1.end hli.1 hli.2 hnx
    have hnl : (line + 1 = M 83 3 ∧ nx = M 83 0) ∨ (line + 1 < M 83 3 ∧ nx < M 83 0) := by
      by_cases z : line + 1 = M 83 3
      · left; exact ⟨z, by rw [enx, z]; exact sd_L (Int.le_refl _)⟩
      · right; exact ⟨by omega, by omega⟩
    refine j_istore_n (q := 31) (lv' := [(0, vR X 0), (1, vI line), (2, vI f), (3, vI nx)]) F dX6_push_30 rfl rfl (by decide) rfl rfl ?_
    refine j_iload_n (q := 32) F dX6_push_31 rfl rfl 3 rfl ?_
    refine j_iconst (q := 33) F dX6_push_32 rfl ?_
    refine j_isub (q := 34) (z := nx - 1) F dX6_push_33 rfl rfl ?_
    refine j_istore (q := 36) (lv' := [(0, vR X 0), (1, vI line), (2, vI f), (3, vI nx), (4, vI (nx - 1))]) F dX6_push_34 rfl (by decide) rfl rfl ?_
    refine j_iload_n (q := 37) F dX6_push_36 rfl rfl 3 rfl ?_
    refine j_aload_n (q := 38) F dX6_push_37 rfl rfl 0 rfl ?_
    refine j_getR (q := 41) (z := 1) (index := 10) F wr0 rfl in_X6_push_6 0 (by decide) rfl fl_X6_push_10 dX6_push_38 rfl ?_
    refine j_getI (q := 44) (i := 2) (index := 68) F (pg1).1 rfl in_X6_push_1 2 (by decide) rfl rfl fl_X6_push_68 dX6_push_41 rfl ?_
    refine j_icmp_lt (q := 47) (tgt := 51) F dX6_push_44 (by decide) rfl ⟨by omega, by omega⟩ ⟨by omega, by omega⟩ (fun h44_4 => ?_) (fun h44_4 => ?_)
    · skip
      refine j_iconst (q := 52) F dX6_push_51 rfl ?_
      refine j_istore (q := 54) (lv' := [(0, vR X 0), (1, vI line), (2, vI f), (3, vI nx), (4, vI (nx - 1)), (5, vI 0)]) F dX6_push_52 rfl (by decide) rfl rfl ?_
      refine j_iload (q := 56) F dX6_push_54 rfl 4 rfl ?_
      refine j_iload_n (q := 57) F dX6_push_56 rfl rfl 2 rfl ?_
      refine j_icmp_eq (q := 60) (tgt := 107) F dX6_push_57 (by decide) rfl ⟨by omega, by omega⟩ ⟨by omega, by omega⟩ (fun h57_5 => ?_) (fun h57_5 => ?_)
      · skip
        refine j_bipush (q := 109) F dX6_push_107 rfl (by decide) ?_
        refine hret _ _ _ _ dX6_push_109 ?_
        · refine ⟨fun _ _ => rfl, fun r' N hO => ?_⟩
          rcases hO with ⟨q1, q2, q3⟩ | ⟨q1, q2, q3, q4⟩ | ⟨q1, q2, q3, q4, q5, q6⟩
          · exact absurd hli q1
          · exact ⟨by omega, hC.same (fun _ _ => rfl) q4⟩
          · exact absurd (by first | exact Or.inl (by omega) | exact Or.inr (Or.inl hz1) | exact Or.inr (Or.inr ⟨by omega, Or.inl hz2⟩) | exact Or.inr (Or.inr ⟨by omega, Or.inr hft⟩)) q2
      · skip
        refine j_aload_n (q := 61) F dX6_push_60 rfl rfl 0 rfl ?_
        refine j_getR (q := 64) (z := 1) (index := 10) F wr0 rfl in_X6_push_6 0 (by decide) rfl fl_X6_push_10 dX6_push_61 rfl ?_
        refine j_iload_n (q := 65) F dX6_push_64 rfl rfl 2 rfl ?_
        refine j_callVZ (q := 68) F [vI f] (ct_X1_isFrozen_in l X hX M 1 (pg1) f (by omega) (by omega) (hR.fz hD (by omega) (by omega))) gX6_push_X1_isFrozen rfl cd_X1_isFrozen ⟨by first | exact Nat.le_of_ble_eq_true rfl | (simp only [rm]; omega) | (simp [rm, vI, vR, Value.category]; omega), by first | exact Nat.le_of_ble_eq_true rfl | (simp only [rm]; omega) | (simp [rm, vI, vR, Value.category]; omega), by first | exact Nat.le_of_ble_eq_true rfl | (simp only [rm]; omega) | (simp [rm, vI, vR, Value.category]; omega), by first | exact Nat.le_of_ble_eq_true rfl | (simp only [rm]; omega) | (simp [rm, vI, vR, Value.category]; omega)⟩ (pg1).1 rfl rfl rfl (Nat.le_of_ble_eq_true rfl) dX6_push_65 rfl (fun hz1 => ?_) (fun hz1 => ?_)
        · skip
          have hz1 : M 83 (53 + line) = 1 := by rw [← hR.2.2.2.2.2.2.1 (line) (by omega) (by omega), ← ef]; exact hz1
          refine j_if_ne (q := 71) (tgt := 107) F dX6_push_68 (by decide) rfl ⟨by decide, by decide⟩ (fun _ => ?_) (fun h => absurd h (by decide))
          refine j_bipush (q := 109) F dX6_push_107 rfl (by decide) ?_
          refine hret _ _ _ _ dX6_push_109 ?_
          · refine ⟨fun _ _ => rfl, fun r' N hO => ?_⟩
            rcases hO with ⟨q1, q2, q3⟩ | ⟨q1, q2, q3, q4⟩ | ⟨q1, q2, q3, q4, q5, q6⟩
            · exact absurd hli q1
            · exact ⟨by omega, hC.same (fun _ _ => rfl) q4⟩
            · exact absurd (by first | exact Or.inl (by omega) | exact Or.inr (Or.inl hz1) | exact Or.inr (Or.inr ⟨by omega, Or.inl hz2⟩) | exact Or.inr (Or.inr ⟨by omega, Or.inr hft⟩)) q2
        · skip
          have hz1 : M 83 (53 + line) = 0 := by rw [← hR.2.2.2.2.2.2.1 (line) (by omega) (by omega), ← ef]; exact hz1
          refine j_if_ne (q := 71) (tgt := 107) F dX6_push_68 (by decide) rfl ⟨by decide, by decide⟩ (fun h => absurd h (by decide)) (fun _ => ?_)
          refine j_iload (q := 73) F dX6_push_71 rfl 5 rfl ?_
          refine j_if_ne (q := 76) (tgt := 110) F dX6_push_73 (by decide) rfl ⟨by decide, by decide⟩ (fun h => absurd h (by decide)) (fun _ => ?_)
          refine j_aload_n (q := 77) F dX6_push_76 rfl rfl 0 rfl ?_
          refine j_getR (q := 80) (z := 1) (index := 10) F wr0 rfl in_X6_push_6 0 (by decide) rfl fl_X6_push_10 dX6_push_77 rfl ?_
          refine j_iload_n (q := 81) F dX6_push_80 rfl rfl 3 rfl ?_
          refine j_callVZ (q := 84) F [vI nx] (ct_X1_isFrozen_in l X hX M 1 (pg1) nx (by omega) (by omega) (hR.fz hD (by omega) (by omega))) gX6_push_X1_isFrozen rfl cd_X1_isFrozen ⟨by first | exact Nat.le_of_ble_eq_true rfl | (simp only [rm]; omega) | (simp [rm, vI, vR, Value.category]; omega), by first | exact Nat.le_of_ble_eq_true rfl | (simp only [rm]; omega) | (simp [rm, vI, vR, Value.category]; omega), by first | exact Nat.le_of_ble_eq_true rfl | (simp only [rm]; omega) | (simp [rm, vI, vR, Value.category]; omega), by first | exact Nat.le_of_ble_eq_true rfl | (simp only [rm]; omega) | (simp [rm, vI, vR, Value.category]; omega)⟩ (pg1).1 rfl rfl rfl (Nat.le_of_ble_eq_true rfl) dX6_push_81 rfl (fun hz2 => ?_) (fun hz2 => ?_)
          · skip
            have hz2 : M 83 (53 + (line + 1)) = 1 := by rw [← hR.2.2.2.2.2.2.1 ((line + 1)) (by omega) (by omega), ← enx]; exact hz2
            refine j_if_ne (q := 87) (tgt := 107) F dX6_push_84 (by decide) rfl ⟨by decide, by decide⟩ (fun _ => ?_) (fun h => absurd h (by decide))
            refine j_bipush (q := 109) F dX6_push_107 rfl (by decide) ?_
            refine hret _ _ _ _ dX6_push_109 ?_
            · refine ⟨fun _ _ => rfl, fun r' N hO => ?_⟩
              rcases hO with ⟨q1, q2, q3⟩ | ⟨q1, q2, q3, q4⟩ | ⟨q1, q2, q3, q4, q5, q6⟩
              · exact absurd hli q1
              · exact ⟨by omega, hC.same (fun _ _ => rfl) q4⟩
              · exact absurd (by first | exact Or.inl (by omega) | exact Or.inr (Or.inl hz1) | exact Or.inr (Or.inr ⟨by omega, Or.inl hz2⟩) | exact Or.inr (Or.inr ⟨by omega, Or.inr hft⟩)) q2
          · skip
            have hz2 : M 83 (53 + (line + 1)) = 0 := by rw [← hR.2.2.2.2.2.2.1 ((line + 1)) (by omega) (by omega), ← enx]; exact hz2
            refine j_if_ne (q := 87) (tgt := 107) F dX6_push_84 (by decide) rfl ⟨by decide, by decide⟩ (fun h => absurd h (by decide)) (fun _ => ?_)
            refine j_aload_n (q := 88) F dX6_push_87 rfl rfl 0 rfl ?_
            refine j_getR (q := 91) (z := 1) (index := 10) F wr0 rfl in_X6_push_6 0 (by decide) rfl fl_X6_push_10 dX6_push_88 rfl ?_
            refine j_iload (q := 93) F dX6_push_91 rfl 4 rfl ?_
            refine j_aload_n (q := 94) F dX6_push_93 rfl rfl 0 rfl ?_
            refine j_getR (q := 97) (z := 1) (index := 10) F wr0 rfl in_X6_push_6 0 (by decide) rfl fl_X6_push_10 dX6_push_94 rfl ?_
            refine j_iload_n (q := 98) F dX6_push_97 rfl rfl 3 rfl ?_
            refine j_callVP (q := 101) F [vI nx] (ct_X1_endOf l X hX M 1 (pg1) (by omega) nx ⟨by omega, by omega⟩ (fun w' q0 q1 => by have hq := hR.2.2.2.1.bin q0 (show w' < M 83 0 by have := hR.2.2.1; omega); exact ⟨by omega, by omega⟩)) gX6_push_X1_endOf rfl cd_X1_endOf ⟨by first | exact Nat.le_of_ble_eq_true rfl | (simp only [rm]; omega) | (simp [rm, vI, vR, Value.category]; omega), by first | exact Nat.le_of_ble_eq_true rfl | (simp only [rm]; omega) | (simp [rm, vI, vR, Value.category]; omega), by first | exact Nat.le_of_ble_eq_true rfl | (simp only [rm]; omega) | (simp [rm, vI, vR, Value.category]; omega), by first | exact Nat.le_of_ble_eq_true rfl | (simp only [rm]; omega) | (simp [rm, vI, vR, Value.category]; omega)⟩ (pg1).1 rfl rfl rfl (Nat.le_of_ble_eq_true rfl) dX6_push_98 rfl (fun nn hnn2 => ?_)
            rw [hn, enx] at hnn2
            have enn : nn = sd (M 83) (line + 2) := by
              have z := hR.2.2.2.1.end (l := line + 1) (by omega) (by omega) hnn2
              rw [show line + 1 + 1 = line + 2 by omega] at z
              exact z
            have hb2 := hD.bd (l := line + 2) (by omega) (by omega)
            have hs2 := (hD.2.2.2.2.2.2 (line + 1) (by omega) (by omega)).1
            rw [show line + 1 + 1 = line + 2 by omega] at hs2
            refine j_callVZ (q := 104) F [vI (nx - 1), vI nn] (ct_X1_fits l X hX M 1 (pg1) (nx - 1) nn (by omega) (by omega) (by omega) (exF_inR hR.2.2.2.2.1 (by rw [hw0]; omega) (by omega) (by omega) (by omega))) gX6_push_X1_fits rfl cd_X1_fits ⟨by first | exact Nat.le_of_ble_eq_true rfl | (simp only [rm]; omega) | (simp [rm, vI, vR, Value.category]; omega), by first | exact Nat.le_of_ble_eq_true rfl | (simp only [rm]; omega) | (simp [rm, vI, vR, Value.category]; omega), by first | exact Nat.le_of_ble_eq_true rfl | (simp only [rm]; omega) | (simp [rm, vI, vR, Value.category]; omega), by first | exact Nat.le_of_ble_eq_true rfl | (simp only [rm]; omega) | (simp [rm, vI, vR, Value.category]; omega)⟩ (pg1).1 rfl rfl rfl (Nat.le_of_ble_eq_true rfl) dX6_push_101 rfl (fun hft => ?_) (fun hft => ?_)
            · skip
              have hft : 0 ≤ exD (M 83) (sd (M 83) (line + 1) - 1) (sd (M 83) (line + 2)) := by rw [← enx, ← enn, ← exD_eq hR (by omega) (by omega)]; exact hft
              refine j_if_ne (q := 107) (tgt := 110) F dX6_push_104 (by decide) rfl ⟨by decide, by decide⟩ (fun _ => ?_) (fun h => absurd h (by decide))
              refine j_aload_n (q := 111) F dX6_push_110 rfl rfl 0 rfl ?_
              refine j_callVV (q := 114) F [] (ct_X6_beginChange l X hX M hC) gX6_push_X6_beginChange rfl cd_X6_beginChange ⟨by first | exact Nat.le_of_ble_eq_true rfl | (simp only [rm]; omega) | (simp [rm, vI, vR, Value.category]; omega), by first | exact Nat.le_of_ble_eq_true rfl | (simp only [rm]; omega) | (simp [rm, vI, vR, Value.category]; omega), by first | exact Nat.le_of_ble_eq_true rfl | (simp only [rm]; omega) | (simp [rm, vI, vR, Value.category]; omega), by first | exact Nat.le_of_ble_eq_true rfl | (simp only [rm]; omega) | (simp [rm, vI, vR, Value.category]; omega)⟩ wr0 rfl rfl rfl (Nat.le_of_ble_eq_true rfl) dX6_push_111 rfl (fun Mb hb => ?_)
              have b1 : Mb 1 = M 1 := hb.1 1 (by decide) (by decide)
              have b3 : Mb 3 = M 3 := hb.1 3 (by decide) (by decide)
              have b5 : Mb 5 = M 5 := hb.1 5 (by decide) (by decide)
              have b7 : Mb 7 = M 7 := hb.1 7 (by decide) (by decide)
              have hRb := hb.rel hC
              have hfb := hb.fr
              have bn : Mb 1 2 = M 83 0 := hRb.2.2.1
              refine j_aload_n (q := 115) F dX6_push_114 rfl rfl 0 rfl ?_
              refine j_getR (q := 118) (z := 1) (index := 10) F wr0 rfl in_X6_push_6 0 (by decide) rfl fl_X6_push_10 dX6_push_115 rfl ?_
              refine j_iload (q := 120) F dX6_push_118 rfl 4 rfl ?_
              refine j_callVM (q := 123) F [vI (nx - 1)] (ct_X1_begin_in l X hX Mb 1 (pg1) (by omega) (nx - 1) (by omega) (by omega)) gX6_push_X1_begin rfl cd_X1_begin ⟨by first | exact Nat.le_of_ble_eq_true rfl | (simp only [rm]; omega) | (simp [rm, vI, vR, Value.category]; omega), by first | exact Nat.le_of_ble_eq_true rfl | (simp only [rm]; omega) | (simp [rm, vI, vR, Value.category]; omega), by first | exact Nat.le_of_ble_eq_true rfl | (simp only [rm]; omega) | (simp [rm, vI, vR, Value.category]; omega), by first | exact Nat.le_of_ble_eq_true rfl | (simp only [rm]; omega) | (simp [rm, vI, vR, Value.category]; omega)⟩ (pg1).1 rfl rfl rfl (Nat.le_of_ble_eq_true rfl) dX6_push_120 rfl ?_
              refine j_aload_n (q := 124) F dX6_push_123 rfl rfl 0 rfl ?_
              refine j_getR (q := 127) (z := 1) (index := 10) F wr0 rfl in_X6_push_6 0 (by decide) rfl fl_X6_push_10 dX6_push_124 rfl ?_
              refine j_iload_n (q := 128) F dX6_push_127 rfl rfl 3 rfl ?_
              refine j_callVV (q := 131) F [vI nx] (ct_X1_join l X hX (mset Mb 5 (nx - 1) 1) 1 (pg1) nx ⟨by omega, by omega⟩) gX6_push_X1_join rfl cd_X1_join ⟨by first | exact Nat.le_of_ble_eq_true rfl | (simp only [rm]; omega) | (simp [rm, vI, vR, Value.category]; omega), by first | exact Nat.le_of_ble_eq_true rfl | (simp only [rm]; omega) | (simp [rm, vI, vR, Value.category]; omega), by first | exact Nat.le_of_ble_eq_true rfl | (simp only [rm]; omega) | (simp [rm, vI, vR, Value.category]; omega), by first | exact Nat.le_of_ble_eq_true rfl | (simp only [rm]; omega) | (simp [rm, vI, vR, Value.category]; omega)⟩ (pg1).1 rfl rfl rfl (Nat.le_of_ble_eq_true rfl) dX6_push_128 rfl (fun Mp hp => ?_)
              have hp1 : ∀ q, q ≠ 5 → Mp q = Mb q := by
                intro q hq
                rw [hp]
                unfold stt
                split
                · rw [mset_nef hq, mset_nef hq]
                · rw [mset_nef hq]
              have hp5 : ∀ w, Mp 5 w = if w = nx ∧ w < 24 then 0 else if w = nx - 1 then 1 else Mb 5 w := by
                intro w
                rw [hp]
                unfold stt
                by_cases hw : 0 ≤ nx ∧ nx < ((24 : Nat) : Int)
                · rw [if_pos hw]
                  show mset (mset Mb 5 (nx - 1) 1) 5 nx 0 5 w = _
                  rw [mset_if, mset_if]
                  by_cases e1 : w = nx
                  · rw [if_pos e1, if_pos ⟨e1, by omega⟩]
                  · rw [if_neg (show ¬ (w = nx ∧ w < 24) from fun z => e1 z.1), if_neg e1]
                · rw [if_neg hw, mset_if, if_neg (show ¬ (w = nx ∧ w < 24) by omega)]
              refine j_aload_n (q := 132) F dX6_push_131 rfl rfl 0 rfl ?_
              refine j_getR (q := 135) (z := 1) (index := 10) F wr0 rfl in_X6_push_6 0 (by decide) rfl fl_X6_push_10 dX6_push_132 rfl ?_
              refine j_callVE (q := 138) F [] (ct_X1_lines l X hX Mp 1 (pg1) (by rw [hp1 1 (by decide)]; omega)) gX6_push_X1_lines rfl cd_X1_lines ⟨by first | exact Nat.le_of_ble_eq_true rfl | (simp only [rm]; omega) | (simp [rm, vI, vR, Value.category]; omega), by first | exact Nat.le_of_ble_eq_true rfl | (simp only [rm]; omega) | (simp [rm, vI, vR, Value.category]; omega), by first | exact Nat.le_of_ble_eq_true rfl | (simp only [rm]; omega) | (simp [rm, vI, vR, Value.category]; omega), by first | exact Nat.le_of_ble_eq_true rfl | (simp only [rm]; omega) | (simp [rm, vI, vR, Value.category]; omega)⟩ (pg1).1 rfl rfl rfl (Nat.le_of_ble_eq_true rfl) dX6_push_135 rfl ?_
              refine hret _ _ _ _ dX6_push_138 ?_
              · refine ⟨fun q hq => by rw [hp1 q (by omega)]; exact hfb q hq, fun r' N hO => ?_⟩
                rcases hO with ⟨q1, q2, q3⟩ | ⟨q1, q2, q3, q4⟩ | ⟨q1, q2, q3, q4, q5, q6⟩
                · exact absurd hli q1
                · exfalso; rcases q2 with z | z | ⟨z0, z | z⟩ <;> omega
                · have hk : PRel Mp 1 (N 83) ∧ DOK (N 83) := by
                    have p5 : ∀ w, Mp 5 w = if w = sd (M 83) (line + 1) ∧ w < 24 then 0 else if w = sd (M 83) (line + 1) - 1 then 1 else Mb 5 w := fun w => by rw [← enx]; exact hp5 w
                    rcases q5 with ⟨hc, q5⟩ | ⟨hc, q5⟩
                    · exact push_last (P := Mp) hRb hD hli.1 hc (by omega) (by rw [hp1 1 (by decide)]) (by rw [hp1 1 (by decide)]) (by rw [hp1 1 (by decide)]) (hp1 3 (by decide)) p5 (hp1 7 (by decide)) q5
                    · first | (exfalso; omega) | exact push_mid (P := Mp) hRb hD hli.1 (by omega) (by omega) (by omega) hft (by rw [hp1 1 (by decide)]) (by rw [hp1 1 (by decide)]) (by rw [hp1 1 (by decide)]) (hp1 3 (by decide)) p5 (hp1 7 (by decide)) q5
                  exact ⟨by have hz9 := hk.1.2.2.2.1.total; rw [← hk.1.2.2.1] at hz9; rw [q6]; exact hz9, hC.change hb (fun q g0 g1 => hp1 q (by omega)) q3 q4.1 q4.2 hk.1 hk.2⟩
            · skip
              have hft : exD (M 83) (sd (M 83) (line + 1) - 1) (sd (M 83) (line + 2)) < 0 := by rw [← enx, ← enn, ← exD_eq hR (by omega) (by omega)]; exact hft
              refine j_if_ne (q := 107) (tgt := 110) F dX6_push_104 (by decide) rfl ⟨by decide, by decide⟩ (fun h => absurd h (by decide)) (fun _ => ?_)
              refine j_bipush (q := 109) F dX6_push_107 rfl (by decide) ?_
              refine hret _ _ _ _ dX6_push_109 ?_
              · refine ⟨fun _ _ => rfl, fun r' N hO => ?_⟩
                rcases hO with ⟨q1, q2, q3⟩ | ⟨q1, q2, q3, q4⟩ | ⟨q1, q2, q3, q4, q5, q6⟩
                · exact absurd hli q1
                · exact ⟨by omega, hC.same (fun _ _ => rfl) q4⟩
                · exact absurd (by first | exact Or.inl (by omega) | exact Or.inr (Or.inl hz1) | exact Or.inr (Or.inr ⟨by omega, Or.inl hz2⟩) | exact Or.inr (Or.inr ⟨by omega, Or.inr hft⟩)) q2
    · skip
      refine j_iconst (q := 48) F dX6_push_47 rfl ?_
      refine j_goto (q := 52) F dX6_push_48 (by decide) ?_
      refine j_istore (q := 54) (lv' := [(0, vR X 0), (1, vI line), (2, vI f), (3, vI nx), (4, vI (nx - 1)), (5, vI 1)]) F dX6_push_52 rfl (by decide) rfl rfl ?_
      refine j_iload (q := 56) F dX6_push_54 rfl 4 rfl ?_
      refine j_iload_n (q := 57) F dX6_push_56 rfl rfl 2 rfl ?_
      refine j_icmp_eq (q := 60) (tgt := 107) F dX6_push_57 (by decide) rfl ⟨by omega, by omega⟩ ⟨by omega, by omega⟩ (fun h57_14 => ?_) (fun h57_14 => ?_)
      · skip
        refine j_bipush (q := 109) F dX6_push_107 rfl (by decide) ?_
        refine hret _ _ _ _ dX6_push_109 ?_
        · refine ⟨fun _ _ => rfl, fun r' N hO => ?_⟩
          rcases hO with ⟨q1, q2, q3⟩ | ⟨q1, q2, q3, q4⟩ | ⟨q1, q2, q3, q4, q5, q6⟩
          · exact absurd hli q1
          · exact ⟨by omega, hC.same (fun _ _ => rfl) q4⟩
          · exact absurd (by first | exact Or.inl (by omega) | exact Or.inr (Or.inl hz1) | exact Or.inr (Or.inr ⟨by omega, Or.inl hz2⟩) | exact Or.inr (Or.inr ⟨by omega, Or.inr hft⟩)) q2
      · skip
        refine j_aload_n (q := 61) F dX6_push_60 rfl rfl 0 rfl ?_
        refine j_getR (q := 64) (z := 1) (index := 10) F wr0 rfl in_X6_push_6 0 (by decide) rfl fl_X6_push_10 dX6_push_61 rfl ?_
        refine j_iload_n (q := 65) F dX6_push_64 rfl rfl 2 rfl ?_
        refine j_callVZ (q := 68) F [vI f] (ct_X1_isFrozen_in l X hX M 1 (pg1) f (by omega) (by omega) (hR.fz hD (by omega) (by omega))) gX6_push_X1_isFrozen rfl cd_X1_isFrozen ⟨by first | exact Nat.le_of_ble_eq_true rfl | (simp only [rm]; omega) | (simp [rm, vI, vR, Value.category]; omega), by first | exact Nat.le_of_ble_eq_true rfl | (simp only [rm]; omega) | (simp [rm, vI, vR, Value.category]; omega), by first | exact Nat.le_of_ble_eq_true rfl | (simp only [rm]; omega) | (simp [rm, vI, vR, Value.category]; omega), by first | exact Nat.le_of_ble_eq_true rfl | (simp only [rm]; omega) | (simp [rm, vI, vR, Value.category]; omega)⟩ (pg1).1 rfl rfl rfl (Nat.le_of_ble_eq_true rfl) dX6_push_65 rfl (fun hz1 => ?_) (fun hz1 => ?_)
        · skip
          have hz1 : M 83 (53 + line) = 1 := by rw [← hR.2.2.2.2.2.2.1 (line) (by omega) (by omega), ← ef]; exact hz1
          refine j_if_ne (q := 71) (tgt := 107) F dX6_push_68 (by decide) rfl ⟨by decide, by decide⟩ (fun _ => ?_) (fun h => absurd h (by decide))
          refine j_bipush (q := 109) F dX6_push_107 rfl (by decide) ?_
          refine hret _ _ _ _ dX6_push_109 ?_
          · refine ⟨fun _ _ => rfl, fun r' N hO => ?_⟩
            rcases hO with ⟨q1, q2, q3⟩ | ⟨q1, q2, q3, q4⟩ | ⟨q1, q2, q3, q4, q5, q6⟩
            · exact absurd hli q1
            · exact ⟨by omega, hC.same (fun _ _ => rfl) q4⟩
            · exact absurd (by first | exact Or.inl (by omega) | exact Or.inr (Or.inl hz1) | exact Or.inr (Or.inr ⟨by omega, Or.inl hz2⟩) | exact Or.inr (Or.inr ⟨by omega, Or.inr hft⟩)) q2
        · skip
          have hz1 : M 83 (53 + line) = 0 := by rw [← hR.2.2.2.2.2.2.1 (line) (by omega) (by omega), ← ef]; exact hz1
          refine j_if_ne (q := 71) (tgt := 107) F dX6_push_68 (by decide) rfl ⟨by decide, by decide⟩ (fun h => absurd h (by decide)) (fun _ => ?_)
          refine j_iload (q := 73) F dX6_push_71 rfl 5 rfl ?_
          refine j_if_ne (q := 76) (tgt := 110) F dX6_push_73 (by decide) rfl ⟨by decide, by decide⟩ (fun _ => ?_) (fun h => absurd h (by decide))
          refine j_aload_n (q := 111) F dX6_push_110 rfl rfl 0 rfl ?_
          refine j_callVV (q := 114) F [] (ct_X6_beginChange l X hX M hC) gX6_push_X6_beginChange rfl cd_X6_beginChange ⟨by first | exact Nat.le_of_ble_eq_true rfl | (simp only [rm]; omega) | (simp [rm, vI, vR, Value.category]; omega), by first | exact Nat.le_of_ble_eq_true rfl | (simp only [rm]; omega) | (simp [rm, vI, vR, Value.category]; omega), by first | exact Nat.le_of_ble_eq_true rfl | (simp only [rm]; omega) | (simp [rm, vI, vR, Value.category]; omega), by first | exact Nat.le_of_ble_eq_true rfl | (simp only [rm]; omega) | (simp [rm, vI, vR, Value.category]; omega)⟩ wr0 rfl rfl rfl (Nat.le_of_ble_eq_true rfl) dX6_push_111 rfl (fun Mb hb => ?_)
          have b1 : Mb 1 = M 1 := hb.1 1 (by decide) (by decide)
          have b3 : Mb 3 = M 3 := hb.1 3 (by decide) (by decide)
          have b5 : Mb 5 = M 5 := hb.1 5 (by decide) (by decide)
          have b7 : Mb 7 = M 7 := hb.1 7 (by decide) (by decide)
          have hRb := hb.rel hC
          have hfb := hb.fr
          have bn : Mb 1 2 = M 83 0 := hRb.2.2.1
          refine j_aload_n (q := 115) F dX6_push_114 rfl rfl 0 rfl ?_
          refine j_getR (q := 118) (z := 1) (index := 10) F wr0 rfl in_X6_push_6 0 (by decide) rfl fl_X6_push_10 dX6_push_115 rfl ?_
          refine j_iload (q := 120) F dX6_push_118 rfl 4 rfl ?_
          refine j_callVM (q := 123) F [vI (nx - 1)] (ct_X1_begin_in l X hX Mb 1 (pg1) (by omega) (nx - 1) (by omega) (by omega)) gX6_push_X1_begin rfl cd_X1_begin ⟨by first | exact Nat.le_of_ble_eq_true rfl | (simp only [rm]; omega) | (simp [rm, vI, vR, Value.category]; omega), by first | exact Nat.le_of_ble_eq_true rfl | (simp only [rm]; omega) | (simp [rm, vI, vR, Value.category]; omega), by first | exact Nat.le_of_ble_eq_true rfl | (simp only [rm]; omega) | (simp [rm, vI, vR, Value.category]; omega), by first | exact Nat.le_of_ble_eq_true rfl | (simp only [rm]; omega) | (simp [rm, vI, vR, Value.category]; omega)⟩ (pg1).1 rfl rfl rfl (Nat.le_of_ble_eq_true rfl) dX6_push_120 rfl ?_
          refine j_aload_n (q := 124) F dX6_push_123 rfl rfl 0 rfl ?_
          refine j_getR (q := 127) (z := 1) (index := 10) F wr0 rfl in_X6_push_6 0 (by decide) rfl fl_X6_push_10 dX6_push_124 rfl ?_
          refine j_iload_n (q := 128) F dX6_push_127 rfl rfl 3 rfl ?_
          refine j_callVV (q := 131) F [vI nx] (ct_X1_join l X hX (mset Mb 5 (nx - 1) 1) 1 (pg1) nx ⟨by omega, by omega⟩) gX6_push_X1_join rfl cd_X1_join ⟨by first | exact Nat.le_of_ble_eq_true rfl | (simp only [rm]; omega) | (simp [rm, vI, vR, Value.category]; omega), by first | exact Nat.le_of_ble_eq_true rfl | (simp only [rm]; omega) | (simp [rm, vI, vR, Value.category]; omega), by first | exact Nat.le_of_ble_eq_true rfl | (simp only [rm]; omega) | (simp [rm, vI, vR, Value.category]; omega), by first | exact Nat.le_of_ble_eq_true rfl | (simp only [rm]; omega) | (simp [rm, vI, vR, Value.category]; omega)⟩ (pg1).1 rfl rfl rfl (Nat.le_of_ble_eq_true rfl) dX6_push_128 rfl (fun Mp hp => ?_)
          have hp1 : ∀ q, q ≠ 5 → Mp q = Mb q := by
            intro q hq
            rw [hp]
            unfold stt
            split
            · rw [mset_nef hq, mset_nef hq]
            · rw [mset_nef hq]
          have hp5 : ∀ w, Mp 5 w = if w = nx ∧ w < 24 then 0 else if w = nx - 1 then 1 else Mb 5 w := by
            intro w
            rw [hp]
            unfold stt
            by_cases hw : 0 ≤ nx ∧ nx < ((24 : Nat) : Int)
            · rw [if_pos hw]
              show mset (mset Mb 5 (nx - 1) 1) 5 nx 0 5 w = _
              rw [mset_if, mset_if]
              by_cases e1 : w = nx
              · rw [if_pos e1, if_pos ⟨e1, by omega⟩]
              · rw [if_neg (show ¬ (w = nx ∧ w < 24) from fun z => e1 z.1), if_neg e1]
            · rw [if_neg hw, mset_if, if_neg (show ¬ (w = nx ∧ w < 24) by omega)]
          refine j_aload_n (q := 132) F dX6_push_131 rfl rfl 0 rfl ?_
          refine j_getR (q := 135) (z := 1) (index := 10) F wr0 rfl in_X6_push_6 0 (by decide) rfl fl_X6_push_10 dX6_push_132 rfl ?_
          refine j_callVE (q := 138) F [] (ct_X1_lines l X hX Mp 1 (pg1) (by rw [hp1 1 (by decide)]; omega)) gX6_push_X1_lines rfl cd_X1_lines ⟨by first | exact Nat.le_of_ble_eq_true rfl | (simp only [rm]; omega) | (simp [rm, vI, vR, Value.category]; omega), by first | exact Nat.le_of_ble_eq_true rfl | (simp only [rm]; omega) | (simp [rm, vI, vR, Value.category]; omega), by first | exact Nat.le_of_ble_eq_true rfl | (simp only [rm]; omega) | (simp [rm, vI, vR, Value.category]; omega), by first | exact Nat.le_of_ble_eq_true rfl | (simp only [rm]; omega) | (simp [rm, vI, vR, Value.category]; omega)⟩ (pg1).1 rfl rfl rfl (Nat.le_of_ble_eq_true rfl) dX6_push_135 rfl ?_
          refine hret _ _ _ _ dX6_push_138 ?_
          · refine ⟨fun q hq => by rw [hp1 q (by omega)]; exact hfb q hq, fun r' N hO => ?_⟩
            rcases hO with ⟨q1, q2, q3⟩ | ⟨q1, q2, q3, q4⟩ | ⟨q1, q2, q3, q4, q5, q6⟩
            · exact absurd hli q1
            · exfalso; rcases q2 with z | z | ⟨z0, z | z⟩ <;> omega
            · have hk : PRel Mp 1 (N 83) ∧ DOK (N 83) := by
                have p5 : ∀ w, Mp 5 w = if w = sd (M 83) (line + 1) ∧ w < 24 then 0 else if w = sd (M 83) (line + 1) - 1 then 1 else Mb 5 w := fun w => by rw [← enx]; exact hp5 w
                rcases q5 with ⟨hc, q5⟩ | ⟨hc, q5⟩
                · exact push_last (P := Mp) hRb hD hli.1 hc (by omega) (by rw [hp1 1 (by decide)]) (by rw [hp1 1 (by decide)]) (by rw [hp1 1 (by decide)]) (hp1 3 (by decide)) p5 (hp1 7 (by decide)) q5
                · first | (exfalso; omega) | exact push_mid (P := Mp) hRb hD hli.1 (by omega) (by omega) (by omega) hft (by rw [hp1 1 (by decide)]) (by rw [hp1 1 (by decide)]) (by rw [hp1 1 (by decide)]) (hp1 3 (by decide)) p5 (hp1 7 (by decide)) q5
              exact ⟨by have hz9 := hk.1.2.2.2.1.total; rw [← hk.1.2.2.1] at hz9; rw [q6]; exact hz9, hC.change hb (fun q g0 g1 => hp1 q (by omega)) q3 q4.1 q4.2 hk.1 hk.2⟩
  · skip
    have hli : line < 0 ∨ M 83 3 ≤ line := by rw [← hct]; exact hli
    refine j_if_ne (q := 11) (tgt := 13) F dX6_push_8 (by decide) rfl ⟨by decide, by decide⟩ (fun h => absurd h (by decide)) (fun _ => ?_)
    refine j_iconst (q := 12) F dX6_push_11 rfl ?_
    refine hret _ _ _ _ dX6_push_12 ?_
    · refine ⟨fun _ _ => rfl, fun r' N hO => ?_⟩
      rcases hO with ⟨q1, q2, q3⟩ | ⟨q1, q2, q3, q4⟩ | ⟨q1, q2, q3, q4, q5, q6⟩
      · exact ⟨by omega, hC.same (fun _ _ => rfl) q3⟩
      · exfalso; have z1 := q1.1; have z2 := q1.2; omega
      · exfalso; have z1 := q1.1; have z2 := q1.2; omega
