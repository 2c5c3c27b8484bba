theorem cd_X1_hasLine : yX1_hasLine.cls = RX1 ∧ yX1_hasLine.cls ≠ "java/lang/invoke/MethodHandle" ∧ yX1_hasLine.cls ≠ "java/lang/invoke/VarHandle" ∧ (parseMethodDescriptor yX1_hasLine.desc).map (fun d => d.parameters.length) = some 1 := by decide +kernel
theorem cd_X1_setFrozen : yX1_setFrozen.cls = RX1 ∧ yX1_setFrozen.cls ≠ "java/lang/invoke/MethodHandle" ∧ yX1_setFrozen.cls ≠ "java/lang/invoke/VarHandle" ∧ (parseMethodDescriptor yX1_setFrozen.desc).map (fun d => d.parameters.length) = some 2 := by decide +kernel
theorem fl_X6_freeze_10 : Cond.fieldLink RX6 10 "WhiteRivers" "page" "LWhiteRivers$Page;" ∈ wsX6_freeze := by decide +kernel
theorem in_X6_freeze_6 : ∀ w ∈ u_ws RX6 TX6 5, w ∈ wsX6_freeze := by decide +kernel
set_option maxRecDepth 100000 in
set_option maxHeartbeats 400000 in
theorem ct_X6_freeze (l : Launch) (X : Cx) (hX : Inj X) (M : Mem) (hC : CRel M M) (line : Int) (hli0 : inR line) (fz : Int) (hfz0 : inR fz) : CtI l X yX6_freeze wsX6_freeze 5 [vR X 0, vI line, vI fz] M (fun r M' => CPO M (Ofreeze M line fz) r M') := by
  refine CtI_of (cc := cX6_freeze) (maxL := 5) hX (by decide +kernel) rfl (Nat.le_of_ble_eq_true rfl) ?_
  intro zp ze zs zm zargs zbelow zmeth zc zQ F hret
  show J zp l ze (rm 5) zs zm zargs zbelow zmeth zc 0 0 zQ zs.heap X 5 M 0 [(0, vR X 0), (1, vI line), (2, vI fz)] []
  have hR := hC.1
  have hD := hC.2.1
  have hn : M 1 2 = M 83 0 := hR.2.2.1
  have hw0 : M 1 0 = M 83 1 := hR.1
  have hs0 : M 1 1 = M 83 2 := hR.2.1
  have hnn := hD.1
  have hww := hD.2.1
  have hss := hD.2.2.1
  have hL24 := hD.L24
  have hl8 : ∀ w, 0 ≤ w → w < 24 → 0 ≤ M 3 w ∧ M 3 w ≤ 8 := hR.2.2.2.2.1
  have htot : cnt (M 5) (M 83 0) = M 83 3 := hR.2.2.2.1.total
  have hct : cnt (M 5) (M 1 2) = M 83 3 := by rw [hn]; exact htot
  obtain ⟨hli1, hli2⟩ := hli0
  obtain ⟨hfz1, hfz2⟩ := hfz0
  refine j_aload_n (q := 1) F dX6_freeze_0 rfl rfl 0 rfl ?_
  refine j_getR (q := 4) (z := 1) (index := 10) F wr0 rfl in_X6_freeze_6 0 (by decide) rfl fl_X6_freeze_10 dX6_freeze_1 rfl ?_
  refine j_iload_n (q := 5) F dX6_freeze_4 rfl rfl 1 rfl ?_
  refine j_callVZ (q := 8) F [vI line] (ct_X1_hasLine l X hX M 1 (pg1) (by omega) line ⟨by omega, by omega⟩ (by show inR (cnt (M 5) (M 1 2)); rw [hct]; exact ⟨by omega, by omega⟩)) gX6_freeze_X1_hasLine rfl cd_X1_hasLine ⟨by first | exact Nat.le_of_ble_eq_true rfl | (simp only [rm]; omega) | (simp [rm, vI, vR, Value.category]; omega), by first | exact Nat.le_of_ble_eq_true rfl | (simp only [rm]; omega) | (simp [rm, vI, vR, Value.category]; omega), by first | exact Nat.le_of_ble_eq_true rfl | (simp only [rm]; omega) | (simp [rm, vI, vR, Value.category]; omega), by first | exact Nat.le_of_ble_eq_true rfl | (simp only [rm]; omega) | (simp [rm, vI, vR, Value.category]; omega)⟩ (pg1).1 rfl rfl rfl (Nat.le_of_ble_eq_true rfl) dX6_freeze_5 rfl (fun hli => ?_) (fun hli => ?_)
  · skip
    have hli : 0 ≤ line ∧ line < M 83 3 := by rw [← hct]; exact hli
    have hbl := hD.bd (l := line) hli.1 (by omega)
    have hbl1 := hD.bd (l := line + 1) (by omega) (by omega)
    have hseg := hD.2.2.2.2.2.2 line hli.1 hli.2
    refine j_if_eq (q := 11) (tgt := 20) F dX6_freeze_8 (by decide) rfl ⟨by decide, by decide⟩ (fun h => absurd h (by decide)) (fun _ => ?_)
    refine j_iload_n (q := 12) F dX6_freeze_11 rfl rfl 2 rfl ?_
    refine j_iconst (q := 13) F dX6_freeze_12 rfl ?_
    refine j_iconst (q := 14) F dX6_freeze_13 rfl ?_
    refine j_callSZ (q := 17) F [vI fz, vI 0, vI 1] (ct_X6_isWithin l X hX M fz 0 1 ⟨by omega, by omega⟩ ⟨by omega, by omega⟩ ⟨by omega, by omega⟩) gX6_freeze_X6_isWithin rfl cd_X6_isWithin ⟨by first | exact Nat.le_of_ble_eq_true rfl | (simp only [rm]; omega) | (simp [rm, vI, vR, Value.category]; omega), by first | exact Nat.le_of_ble_eq_true rfl | (simp only [rm]; omega) | (simp [rm, vI, vR, Value.category]; omega), by first | exact Nat.le_of_ble_eq_true rfl | (simp only [rm]; omega) | (simp [rm, vI, vR, Value.category]; omega), by first | exact Nat.le_of_ble_eq_true rfl | (simp only [rm]; omega) | (simp [rm, vI, vR, Value.category]; omega)⟩ rfl rfl (Nat.le_of_ble_eq_true rfl) dX6_freeze_14 rfl (fun hwi => ?_) (fun hwi => ?_)
    · skip
      refine j_if_ne (q := 20) (tgt := 22) F dX6_freeze_17 (by decide) rfl ⟨by decide, by decide⟩ (fun _ => ?_) (fun h => absurd h (by decide))
      refine j_aload_n (q := 23) F dX6_freeze_22 rfl rfl 0 rfl ?_
      refine j_callVV (q := 26) F [] (ct_X6_beginChange l X hX M hC) gX6_freeze_X6_beginChange rfl cd_X6_beginChange ⟨by first | exact Nat.le_of_ble_eq_true rfl | (simp only [rm]; omega) | (simp [rm, vI, vR, Value.category]; omega), by first | exact Nat.le_of_ble_eq_true rfl | (simp only [rm]; omega) | (simp [rm, vI, vR, Value.category]; omega), by first | exact Nat.le_of_ble_eq_true rfl | (simp only [rm]; omega) | (simp [rm, vI, vR, Value.category]; omega), by first | exact Nat.le_of_ble_eq_true rfl | (simp only [rm]; omega) | (simp [rm, vI, vR, Value.category]; omega)⟩ wr0 rfl rfl rfl (Nat.le_of_ble_eq_true rfl) dX6_freeze_23 rfl (fun Mb hb => ?_)
      have b1 : Mb 1 = M 1 := hb.1 1 (by decide) (by decide)
      have b3 : Mb 3 = M 3 := hb.1 3 (by decide) (by decide)
      have b5 : Mb 5 = M 5 := hb.1 5 (by decide) (by decide)
      have b7 : Mb 7 = M 7 := hb.1 7 (by decide) (by decide)
      have hRb := hb.rel hC
      have hfb := hb.fr
      have bn : Mb 1 2 = M 83 0 := hRb.2.2.1
      refine j_aload_n (q := 27) F dX6_freeze_26 rfl rfl 0 rfl ?_
      refine j_getR (q := 30) (z := 1) (index := 10) F wr0 rfl in_X6_freeze_6 0 (by decide) rfl fl_X6_freeze_10 dX6_freeze_27 rfl ?_
      refine j_iload_n (q := 31) F dX6_freeze_30 rfl rfl 1 rfl ?_
      refine j_callVP (q := 34) F [vI line] (ct_X1_firstOf l X hX Mb 1 (pg1) (by omega) line ⟨by omega, by omega⟩ (fun w' q0 q1 => by have hq := hRb.2.2.2.1.cntbd q0 (show w' < M 83 0 by have := hRb.2.2.1; omega); exact ⟨by omega, by omega⟩)) gX6_freeze_X1_firstOf rfl cd_X1_firstOf ⟨by first | exact Nat.le_of_ble_eq_true rfl | (simp only [rm]; omega) | (simp [rm, vI, vR, Value.category]; omega), by first | exact Nat.le_of_ble_eq_true rfl | (simp only [rm]; omega) | (simp [rm, vI, vR, Value.category]; omega), by first | exact Nat.le_of_ble_eq_true rfl | (simp only [rm]; omega) | (simp [rm, vI, vR, Value.category]; omega), by first | exact Nat.le_of_ble_eq_true rfl | (simp only [rm]; omega) | (simp [rm, vI, vR, Value.category]; omega)⟩ (pg1).1 rfl rfl rfl (Nat.le_of_ble_eq_true rfl) dX6_freeze_31 rfl (fun f hf => ?_)
      rw [bn] at hf
      have ef : f = sd (M 83) line := hRb.2.2.2.1.fst hli.1 hli.2 hf
      refine j_istore_n (q := 35) (lv' := [(0, vR X 0), (1, vI line), (2, vI fz), (3, vI f)]) F dX6_freeze_34 rfl rfl (by decide) rfl rfl ?_
      refine j_aload_n (q := 36) F dX6_freeze_35 rfl rfl 0 rfl ?_
      refine j_getR (q := 39) (z := 1) (index := 10) F wr0 rfl in_X6_freeze_6 0 (by decide) rfl fl_X6_freeze_10 dX6_freeze_36 rfl ?_
      refine j_iload_n (q := 40) F dX6_freeze_39 rfl rfl 3 rfl ?_
      refine j_callVZ (q := 43) F [vI f] (ct_X1_isFrozen_in l X hX Mb 1 (pg1) f (by omega) (by omega) (hRb.fz hD (by omega) (by omega))) gX6_freeze_X1_isFrozen rfl cd_X1_isFrozen ⟨by first | exact Nat.le_of_ble_eq_true rfl | (simp only [rm]; omega) | (simp [rm, vI, vR, Value.category]; omega), by first | exact Nat.le_of_ble_eq_true rfl | (simp only [rm]; omega) | (simp [rm, vI, vR, Value.category]; omega), by first | exact Nat.le_of_ble_eq_true rfl | (simp only [rm]; omega) | (simp [rm, vI, vR, Value.category]; omega), by first | exact Nat.le_of_ble_eq_true rfl | (simp only [rm]; omega) | (simp [rm, vI, vR, Value.category]; omega)⟩ (pg1).1 rfl rfl rfl (Nat.le_of_ble_eq_true rfl) dX6_freeze_40 rfl (fun hz => ?_) (fun hz => ?_)
      · skip
        have hz : M 83 (53 + line) = 1 := by rw [← hRb.2.2.2.2.2.2.1 (line) (by omega) (by omega), ← ef]; exact hz
        refine j_if_eq (q := 46) (tgt := 50) F dX6_freeze_43 (by decide) rfl ⟨by decide, by decide⟩ (fun h => absurd h (by decide)) (fun _ => ?_)
        refine j_iconst (q := 47) F dX6_freeze_46 rfl ?_
        refine j_goto (q := 51) F dX6_freeze_47 (by decide) ?_
        refine j_istore (q := 53) (lv' := [(0, vR X 0), (1, vI line), (2, vI fz), (3, vI f), (4, vI 1)]) F dX6_freeze_51 rfl (by decide) rfl rfl ?_
        refine j_aload_n (q := 54) F dX6_freeze_53 rfl rfl 0 rfl ?_
        refine j_getR (q := 57) (z := 1) (index := 10) F wr0 rfl in_X6_freeze_6 0 (by decide) rfl fl_X6_freeze_10 dX6_freeze_54 rfl ?_
        refine j_iload_n (q := 58) F dX6_freeze_57 rfl rfl 3 rfl ?_
        refine j_iload_n (q := 59) F dX6_freeze_58 rfl rfl 2 rfl ?_
        refine j_callVM (q := 62) F [vI f, vI fz] (ct_X1_setFrozen l X hX Mb 1 (pg1) f fz (by omega) (by omega)) gX6_freeze_X1_setFrozen rfl cd_X1_setFrozen ⟨by first | exact Nat.le_of_ble_eq_true rfl | (simp only [rm]; omega) | (simp [rm, vI, vR, Value.category]; omega), by first | exact Nat.le_of_ble_eq_true rfl | (simp only [rm]; omega) | (simp [rm, vI, vR, Value.category]; omega), by first | exact Nat.le_of_ble_eq_true rfl | (simp only [rm]; omega) | (simp [rm, vI, vR, Value.category]; omega), by first | exact Nat.le_of_ble_eq_true rfl | (simp only [rm]; omega) | (simp [rm, vI, vR, Value.category]; omega)⟩ (pg1).1 rfl rfl rfl (Nat.le_of_ble_eq_true rfl) dX6_freeze_59 rfl ?_
        refine j_iload (q := 64) F dX6_freeze_62 rfl 4 rfl ?_
        refine hret _ _ _ _ dX6_freeze_64 ?_
        · refine ⟨fun q hq => by rw [mset_nef (by omega)]; exact hfb q hq, fun r' N hO => ?_⟩
          rcases hO with ⟨q1, q2, q3⟩ | ⟨q1, q2, q3, q4, q5⟩
          · exact absurd ⟨hli, hwi.1, hwi.2⟩ q1
          · have hk := freeze_ok (P := mset Mb 7 f fz) hRb hD hli.1 hli.2 (show fz = 0 ∨ fz = 1 by omega) (by rw [mset_nef (by decide)]) (by rw [mset_nef (by decide)]) (by rw [mset_nef (by decide)]) (mset_nef (by decide)) (mset_nef (by decide)) (fun w => by rw [mset_if, ef]) q4
            exact ⟨by rw [q5]; omega, hC.change hb (fun q g0 g1 => mset_nef (by omega)) q2 q3.1 q3.2 hk.1 hk.2⟩
      · skip
        have hz : M 83 (53 + line) = 0 := by rw [← hRb.2.2.2.2.2.2.1 (line) (by omega) (by omega), ← ef]; exact hz
        refine j_if_eq (q := 46) (tgt := 50) F dX6_freeze_43 (by decide) rfl ⟨by decide, by decide⟩ (fun _ => ?_) (fun h => absurd h (by decide))
        refine j_iconst (q := 51) F dX6_freeze_50 rfl ?_
        refine j_istore (q := 53) (lv' := [(0, vR X 0), (1, vI line), (2, vI fz), (3, vI f), (4, vI 0)]) F dX6_freeze_51 rfl (by decide) rfl rfl ?_
        refine j_aload_n (q := 54) F dX6_freeze_53 rfl rfl 0 rfl ?_
        refine j_getR (q := 57) (z := 1) (index := 10) F wr0 rfl in_X6_freeze_6 0 (by decide) rfl fl_X6_freeze_10 dX6_freeze_54 rfl ?_
        refine j_iload_n (q := 58) F dX6_freeze_57 rfl rfl 3 rfl ?_
        refine j_iload_n (q := 59) F dX6_freeze_58 rfl rfl 2 rfl ?_
        refine j_callVM (q := 62) F [vI f, vI fz] (ct_X1_setFrozen l X hX Mb 1 (pg1) f fz (by omega) (by omega)) gX6_freeze_X1_setFrozen rfl cd_X1_setFrozen ⟨by first | exact Nat.le_of_ble_eq_true rfl | (simp only [rm]; omega) | (simp [rm, vI, vR, Value.category]; omega), by first | exact Nat.le_of_ble_eq_true rfl | (simp only [rm]; omega) | (simp [rm, vI, vR, Value.category]; omega), by first | exact Nat.le_of_ble_eq_true rfl | (simp only [rm]; omega) | (simp [rm, vI, vR, Value.category]; omega), by first | exact Nat.le_of_ble_eq_true rfl | (simp only [rm]; omega) | (simp [rm, vI, vR, Value.category]; omega)⟩ (pg1).1 rfl rfl rfl (Nat.le_of_ble_eq_true rfl) dX6_freeze_59 rfl ?_
        refine j_iload (q := 64) F dX6_freeze_62 rfl 4 rfl ?_
        refine hret _ _ _ _ dX6_freeze_64 ?_
        · refine ⟨fun q hq => by rw [mset_nef (by omega)]; exact hfb q hq, fun r' N hO => ?_⟩
          rcases hO with ⟨q1, q2, q3⟩ | ⟨q1, q2, q3, q4, q5⟩
          · exact absurd ⟨hli, hwi.1, hwi.2⟩ q1
          · have hk := freeze_ok (P := mset Mb 7 f fz) hRb hD hli.1 hli.2 (show fz = 0 ∨ fz = 1 by omega) (by rw [mset_nef (by decide)]) (by rw [mset_nef (by decide)]) (by rw [mset_nef (by decide)]) (mset_nef (by decide)) (mset_nef (by decide)) (fun w => by rw [mset_if, ef]) q4
            exact ⟨by rw [q5]; omega, hC.change hb (fun q g0 g1 => mset_nef (by omega)) q2 q3.1 q3.2 hk.1 hk.2⟩
    · skip
      refine j_if_ne (q := 20) (tgt := 22) F dX6_freeze_17 (by decide) rfl ⟨by decide, by decide⟩ (fun h => absurd h (by decide)) (fun _ => ?_)
      refine j_iconst (q := 21) F dX6_freeze_20 rfl ?_
      refine hret _ _ _ _ dX6_freeze_21 ?_
      · refine ⟨fun _ _ => rfl, fun r' N hO => ?_⟩
        rcases hO with ⟨q1, q2, q3⟩ | ⟨q1, q2, q3, q4, q5⟩
        · exact ⟨by omega, hC.same (fun _ _ => rfl) q3⟩
        · exfalso; have z1 := q1.1.1; have z2 := q1.1.2; have z3 := q1.2; omega
  · skip
    have hli : line < 0 ∨ M 83 3 ≤ line := by rw [← hct]; exact hli
    refine j_if_eq (q := 11) (tgt := 20) F dX6_freeze_8 (by decide) rfl ⟨by decide, by decide⟩ (fun _ => ?_) (fun h => absurd h (by decide))
    refine j_iconst (q := 21) F dX6_freeze_20 rfl ?_
    refine hret _ _ _ _ dX6_freeze_21 ?_
    · refine ⟨fun _ _ => rfl, fun r' N hO => ?_⟩
      rcases hO with ⟨q1, q2, q3⟩ | ⟨q1, q2, q3, q4, q5⟩
      · exact ⟨by omega, hC.same (fun _ _ => rfl) q3⟩
      · exfalso; have z1 := q1.1.1; have z2 := q1.1.2; have z3 := q1.2; omega
theorem fl_X6_add_10 : Cond.fieldLink RX6 10 "WhiteRivers" "page" "LWhiteRivers$Page;" ∈ wsX6_add := by decide +kernel
theorem fl_X6_add_68 : Cond.fieldLink RX6 68 "WhiteRivers$Page" "words" "I" ∈ wsX6_add := by decide +kernel
theorem in_X6_add_1 : ∀ w ∈ u_ws RX1 TX1 6, w ∈ wsX6_add := by decide +kernel
theorem in_X6_add_6 : ∀ w ∈ u_ws RX6 TX6 5, w ∈ wsX6_add := by decide +kernel
set_option maxRecDepth 100000 in
set_option maxHeartbeats 400000 in
theorem ct_X6_add (l : Launch) (X : Cx) (hX : Inj X) (M : Mem) (hC : CRel M M) (k : Int) (hk0 : inR k) : CtI l X yX6_add wsX6_add 5 [vR X 0, vI k] M (fun r M' => CPO M (Oadd M k) r M') := by
  refine CtI_of (cc := cX6_add) (maxL := 4) hX (by decide +kernel) rfl (Nat.le_of_ble_eq_true rfl) ?_
  intro zp ze zs zm zargs zbelow zmeth zc zQ F hret
  show J zp l ze (rm 5) zs zm zargs zbelow zmeth zc 0 0 zQ zs.heap X 4 M 0 [(0, vR X 0), (1, vI k)] []
  have hR := hC.1
  have hD := hC.2.1
  have hn : M 1 2 = M 83 0 := hR.2.2.1
  have hw0 : M 1 0 = M 83 1 := hR.1
  have hs0 : M 1 1 = M 83 2 := hR.2.1
  have hnn := hD.1
  have hww := hD.2.1
  have hss := hD.2.2.1
  have hL24 := hD.L24
  have hl8 : ∀ w, 0 ≤ w → w < 24 → 0 ≤ M 3 w ∧ M 3 w ≤ 8 := hR.2.2.2.2.1
  have htot : cnt (M 5) (M 83 0) = M 83 3 := hR.2.2.2.1.total
  have hct : cnt (M 5) (M 1 2) = M 83 3 := by rw [hn]; exact htot
  obtain ⟨hk1, hk2⟩ := hk0
  refine j_iload_n (q := 1) F dX6_add_0 rfl rfl 1 rfl ?_
  refine j_iconst (q := 2) F dX6_add_1 rfl ?_
  refine j_bipush (q := 4) F dX6_add_2 rfl (by decide) ?_
  refine j_callSZ (q := 7) F [vI k, vI 1, vI 8] (ct_X6_isWithin l X hX M k 1 8 ⟨by omega, by omega⟩ ⟨by omega, by omega⟩ ⟨by omega, by omega⟩) gX6_add_X6_isWithin rfl cd_X6_isWithin ⟨by first | exact Nat.le_of_ble_eq_true rfl | (simp only [rm]; omega) | (simp [rm, vI, vR, Value.category]; omega), by first | exact Nat.le_of_ble_eq_true rfl | (simp only [rm]; omega) | (simp [rm, vI, vR, Value.category]; omega), by first | exact Nat.le_of_ble_eq_true rfl | (simp only [rm]; omega) | (simp [rm, vI, vR, Value.category]; omega), by first | exact Nat.le_of_ble_eq_true rfl | (simp only [rm]; omega) | (simp [rm, vI, vR, Value.category]; omega)⟩ rfl rfl (Nat.le_of_ble_eq_true rfl) dX6_add_4 rfl (fun hwi => ?_) (fun hwi => ?_)
  · skip
    refine j_if_ne (q := 10) (tgt := 12) F dX6_add_7 (by decide) rfl ⟨by decide, by decide⟩ (fun _ => ?_) (fun h => absurd h (by decide))
    refine j_aload_n (q := 13) F dX6_add_12 rfl rfl 0 rfl ?_
    refine j_getR (q := 16) (z := 1) (index := 10) F wr0 rfl in_X6_add_6 0 (by decide) rfl fl_X6_add_10 dX6_add_13 rfl ?_
    refine j_getI (q := 19) (i := 2) (index := 68) F (pg1).1 rfl in_X6_add_1 2 (by decide) rfl rfl fl_X6_add_68 dX6_add_16 rfl ?_
    refine j_bipush (q := 21) F dX6_add_19 rfl (by decide) ?_
    refine j_icmp_lt (q := 24) (tgt := 27) F dX6_add_21 (by decide) rfl ⟨by omega, by omega⟩ ⟨by decide, by decide⟩ (fun h21_2 => ?_) (fun h21_2 => ?_)
    · skip
      refine j_aload_n (q := 28) F dX6_add_27 rfl rfl 0 rfl ?_
      refine j_callVV (q := 31) F [] (ct_X6_beginChange l X hX M hC) gX6_add_X6_beginChange rfl cd_X6_beginChange ⟨by first | exact Nat.le_of_ble_eq_true rfl | (simp only [rm]; omega) | (simp [rm, vI, vR, Value.category]; omega), by first | exact Nat.le_of_ble_eq_true rfl | (simp only [rm]; omega) | (simp [rm, vI, vR, Value.category]; omega), by first | exact Nat.le_of_ble_eq_true rfl | (simp only [rm]; omega) | (simp [rm, vI, vR, Value.category]; omega), by first | exact Nat.le_of_ble_eq_true rfl | (simp only [rm]; omega) | (simp [rm, vI, vR, Value.category]; omega)⟩ wr0 rfl rfl rfl (Nat.le_of_ble_eq_true rfl) dX6_add_28 rfl (fun Mb hb => ?_)
      have b1 : Mb 1 = M 1 := hb.1 1 (by decide) (by decide)
      have b3 : Mb 3 = M 3 := hb.1 3 (by decide) (by decide)
      have b5 : Mb 5 = M 5 := hb.1 5 (by decide) (by decide)
      have b7 : Mb 7 = M 7 := hb.1 7 (by decide) (by decide)
      have hRb := hb.rel hC
      have hfb := hb.fr
      have bn : Mb 1 2 = M 83 0 := hRb.2.2.1
      refine j_aload_n (q := 32) F dX6_add_31 rfl rfl 0 rfl ?_
      refine j_getR (q := 35) (z := 1) (index := 10) F wr0 rfl in_X6_add_6 0 (by decide) rfl fl_X6_add_10 dX6_add_32 rfl ?_
      refine j_getI (q := 38) (i := 2) (index := 68) F (pg1).1 rfl in_X6_add_1 2 (by decide) rfl rfl fl_X6_add_68 dX6_add_35 rfl ?_
      refine j_istore_n (q := 39) (lv' := [(0, vR X 0), (1, vI k), (2, vI (Mb 1 2))]) F dX6_add_38 rfl rfl (by decide) rfl rfl ?_
      refine j_aload_n (q := 40) F dX6_add_39 rfl rfl 0 rfl ?_
      refine j_getR (q := 43) (z := 1) (index := 10) F wr0 rfl in_X6_add_6 0 (by decide) rfl fl_X6_add_10 dX6_add_40 rfl ?_
      refine j_aload_n (q := 44) F dX6_add_43 rfl rfl 0 rfl ?_
      refine j_getR (q := 47) (z := 1) (index := 10) F wr0 rfl in_X6_add_6 0 (by decide) rfl fl_X6_add_10 dX6_add_44 rfl ?_
      refine j_callVE (q := 50) F [] (ct_X1_lines l X hX Mb 1 (pg1) (by omega)) gX6_add_X1_lines rfl cd_X1_lines ⟨by first | exact Nat.le_of_ble_eq_true rfl | (simp only [rm]; omega) | (simp [rm, vI, vR, Value.category]; omega), by first | exact Nat.le_of_ble_eq_true rfl | (simp only [rm]; omega) | (simp [rm, vI, vR, Value.category]; omega), by first | exact Nat.le_of_ble_eq_true rfl | (simp only [rm]; omega) | (simp [rm, vI, vR, Value.category]; omega), by first | exact Nat.le_of_ble_eq_true rfl | (simp only [rm]; omega) | (simp [rm, vI, vR, Value.category]; omega)⟩ (pg1).1 rfl rfl rfl (Nat.le_of_ble_eq_true rfl) dX6_add_47 rfl ?_
      rw [show cnt (Mb 5) (Mb 1 2) = M 83 3 from by rw [b5, bn]; exact htot]
      refine j_iconst (q := 51) F dX6_add_50 rfl ?_
      refine j_isub (q := 52) (z := (M 83 3) - 1) F dX6_add_51 rfl rfl ?_
      refine j_callVP (q := 55) F [vI ((M 83 3) - 1)] (ct_X1_firstOf l X hX Mb 1 (pg1) (by omega) ((M 83 3) - 1) ⟨by omega, by omega⟩ (fun w' q0 q1 => by have hq := hRb.2.2.2.1.cntbd q0 (show w' < M 83 0 by have := hRb.2.2.1; omega); exact ⟨by omega, by omega⟩)) gX6_add_X1_firstOf rfl cd_X1_firstOf ⟨by first | exact Nat.le_of_ble_eq_true rfl | (simp only [rm]; omega) | (simp [rm, vI, vR, Value.category]; omega), by first | exact Nat.le_of_ble_eq_true rfl | (simp only [rm]; omega) | (simp [rm, vI, vR, Value.category]; omega), by first | exact Nat.le_of_ble_eq_true rfl | (simp only [rm]; omega) | (simp [rm, vI, vR, Value.category]; omega), by first | exact Nat.le_of_ble_eq_true rfl | (simp only [rm]; omega) | (simp [rm, vI, vR, Value.category]; omega)⟩ (pg1).1 rfl rfl rfl (Nat.le_of_ble_eq_true rfl) dX6_add_52 rfl (fun la hla => ?_)
      rw [bn] at hla
      have hlb : 0 ≤ la ∧ la ≤ M 83 0 := ⟨hla.2.2.1, hla.2.2.2⟩
      refine j_istore_n (q := 56) (lv' := [(0, vR X 0), (1, vI k), (2, vI (Mb 1 2)), (3, vI la)]) F dX6_add_55 rfl rfl (by decide) rfl rfl ?_
      refine j_aload_n (q := 57) F dX6_add_56 rfl rfl 0 rfl ?_
      refine j_getR (q := 60) (z := 1) (index := 10) F wr0 rfl in_X6_add_6 0 (by decide) rfl fl_X6_add_10 dX6_add_57 rfl ?_
      refine j_iload_n (q := 61) F dX6_add_60 rfl rfl 1 rfl ?_
      refine j_callVM (q := 64) F [vI k] (ct_X1_append l X hX Mb 1 (pg1) (by omega) k) gX6_add_X1_append rfl cd_X1_append ⟨by first | exact Nat.le_of_ble_eq_true rfl | (simp only [rm]; omega) | (simp [rm, vI, vR, Value.category]; omega), by first | exact Nat.le_of_ble_eq_true rfl | (simp only [rm]; omega) | (simp [rm, vI, vR, Value.category]; omega), by first | exact Nat.le_of_ble_eq_true rfl | (simp only [rm]; omega) | (simp [rm, vI, vR, Value.category]; omega), by first | exact Nat.le_of_ble_eq_true rfl | (simp only [rm]; omega) | (simp [rm, vI, vR, Value.category]; omega)⟩ (pg1).1 rfl rfl rfl (Nat.le_of_ble_eq_true rfl) dX6_add_61 rfl ?_
      refine j_iload_n (q := 65) F dX6_add_64 rfl rfl 2 rfl ?_
      refine j_if_eq (q := 68) (tgt := 97) F dX6_add_65 (by decide) rfl ⟨by omega, by omega⟩ (fun h65_7 => ?_) (fun h65_7 => ?_)
      · skip
        refine j_aload_n (q := 98) F dX6_add_97 rfl rfl 0 rfl ?_
        refine j_getR (q := 101) (z := 1) (index := 10) F wr0 rfl in_X6_add_6 0 (by decide) rfl fl_X6_add_10 dX6_add_98 rfl ?_
        refine j_iload_n (q := 102) F dX6_add_101 rfl rfl 2 rfl ?_
        refine j_callVM (q := 105) F [vI (Mb 1 2)] (ct_X1_begin_in l X hX (mset (mset Mb 3 (Mb 1 2) k) 1 2 (Mb 1 2 + 1)) 1 (pg1) (by rw [mset_at]; omega) (Mb 1 2) (by omega) (by rw [mset_at]; omega)) gX6_add_X1_begin rfl cd_X1_begin ⟨by first | exact Nat.le_of_ble_eq_true rfl | (simp only [rm]; omega) | (simp [rm, vI, vR, Value.category]; omega), by first | exact Nat.le_of_ble_eq_true rfl | (simp only [rm]; omega) | (simp [rm, vI, vR, Value.category]; omega), by first | exact Nat.le_of_ble_eq_true rfl | (simp only [rm]; omega) | (simp [rm, vI, vR, Value.category]; omega), by first | exact Nat.le_of_ble_eq_true rfl | (simp only [rm]; omega) | (simp [rm, vI, vR, Value.category]; omega)⟩ (pg1).1 rfl rfl rfl (Nat.le_of_ble_eq_true rfl) dX6_add_102 rfl ?_
        refine j_iload_n (q := 106) F dX6_add_105 rfl rfl 2 rfl ?_
        refine hret _ _ _ _ dX6_add_106 ?_
        · refine ⟨fun q hq => by rw [mset_nef (by omega), mset_nef (by omega), mset_nef (by omega)]; exact hfb q hq, fun r' N hO => ?_⟩
          rcases hO with ⟨q1, q2, q3⟩ | ⟨q1, q2, q3, q4⟩ | ⟨q1, q2, q3, q4, q5, q6⟩
          · exfalso; omega
          · exfalso; omega
          · have hnw : newL (M 83) k := (newL_iff hRb hD q2 hla).mpr (by rw [bn] at *; first | exact Or.inl (by omega) | exact Or.inr (Or.inl (by assumption)) | exact Or.inr (Or.inr (by assumption)))
            rcases q5 with ⟨-, q5⟩ | ⟨q5, -⟩
            · have hk := add_new (P := mset (mset (mset Mb 3 (Mb 1 2) k) 1 2 (Mb 1 2 + 1)) 5 (Mb 1 2) 1) hRb hD q2 q1 (by simp only [mset_ne2 (show (0 : Int) ≠ 2 by decide), mset_nef (show (1 : Nat) ≠ 5 by decide), mset_nef (show (1 : Nat) ≠ 3 by decide)]) (by simp only [mset_ne2 (show (1 : Int) ≠ 2 by decide), mset_nef (show (1 : Nat) ≠ 5 by decide), mset_nef (show (1 : Nat) ≠ 3 by decide)]) (by rw [mset_nef (by decide), mset_at]) (fun w => by rw [mset_nef (by decide), mset_nef (by decide), mset_if, bn]) (fun w => by rw [mset_if, bn, mset_nef (by decide), mset_nef (by decide)]) (by rw [mset_nef (by decide), mset_nef (by decide), mset_nef (by decide)]) q5
              exact ⟨by rw [q6, bn], hC.change hb (fun q g0 g1 => by rw [mset_nef (by omega), mset_nef (by omega), mset_nef (by omega)]) q3 q4.1 q4.2 hk.1 hk.2⟩
            · exact absurd hnw q5
      · skip
        refine j_aload_n (q := 69) F dX6_add_68 rfl rfl 0 rfl ?_
        refine j_getR (q := 72) (z := 1) (index := 10) F wr0 rfl in_X6_add_6 0 (by decide) rfl fl_X6_add_10 dX6_add_69 rfl ?_
        refine j_iload_n (q := 73) F dX6_add_72 rfl rfl 3 rfl ?_
        refine j_callVZ (q := 76) F [vI la] (ct_X1_isFrozen_in l X hX (mset (mset Mb 3 (Mb 1 2) k) 1 2 (Mb 1 2 + 1)) 1 (pg1) la (by omega) (by omega) (by rw [mset_nef (by decide), mset_nef (by decide)]; exact hRb.fz hD (by omega) (by omega))) gX6_add_X1_isFrozen rfl cd_X1_isFrozen ⟨by first | exact Nat.le_of_ble_eq_true rfl | (simp only [rm]; omega) | (simp [rm, vI, vR, Value.category]; omega), by first | exact Nat.le_of_ble_eq_true rfl | (simp only [rm]; omega) | (simp [rm, vI, vR, Value.category]; omega), by first | exact Nat.le_of_ble_eq_true rfl | (simp only [rm]; omega) | (simp [rm, vI, vR, Value.category]; omega), by first | exact Nat.le_of_ble_eq_true rfl | (simp only [rm]; omega) | (simp [rm, vI, vR, Value.category]; omega)⟩ (pg1).1 rfl rfl rfl (Nat.le_of_ble_eq_true rfl) dX6_add_73 rfl (fun hz => ?_) (fun hz => ?_)
        · skip
          have hz : Mb 7 la = 1 := by rw [mset_nef (by decide), mset_nef (by decide)] at hz; exact hz
          refine j_if_ne (q := 79) (tgt := 97) F dX6_add_76 (by decide) rfl ⟨by decide, by decide⟩ (fun _ => ?_) (fun h => absurd h (by decide))
          refine j_aload_n (q := 98) F dX6_add_97 rfl rfl 0 rfl ?_
          refine j_getR (q := 101) (z := 1) (index := 10) F wr0 rfl in_X6_add_6 0 (by decide) rfl fl_X6_add_10 dX6_add_98 rfl ?_
          refine j_iload_n (q := 102) F dX6_add_101 rfl rfl 2 rfl ?_
          refine j_callVM (q := 105) F [vI (Mb 1 2)] (ct_X1_begin_in l X hX (mset (mset Mb 3 (Mb 1 2) k) 1 2 (Mb 1 2 + 1)) 1 (pg1) (by rw [mset_at]; omega) (Mb 1 2) (by omega) (by rw [mset_at]; omega)) gX6_add_X1_begin rfl cd_X1_begin ⟨by first | exact Nat.le_of_ble_eq_true rfl | (simp only [rm]; omega) | (simp [rm, vI, vR, Value.category]; omega), by first | exact Nat.le_of_ble_eq_true rfl | (simp only [rm]; omega) | (simp [rm, vI, vR, Value.category]; omega), by first | exact Nat.le_of_ble_eq_true rfl | (simp only [rm]; omega) | (simp [rm, vI, vR, Value.category]; omega), by first | exact Nat.le_of_ble_eq_true rfl | (simp only [rm]; omega) | (simp [rm, vI, vR, Value.category]; omega)⟩ (pg1).1 rfl rfl rfl (Nat.le_of_ble_eq_true rfl) dX6_add_102 rfl ?_
          refine j_iload_n (q := 106) F dX6_add_105 rfl rfl 2 rfl ?_
          refine hret _ _ _ _ dX6_add_106 ?_
          · refine ⟨fun q hq => by rw [mset_nef (by omega), mset_nef (by omega), mset_nef (by omega)]; exact hfb q hq, fun r' N hO => ?_⟩
            rcases hO with ⟨q1, q2, q3⟩ | ⟨q1, q2, q3, q4⟩ | ⟨q1, q2, q3, q4, q5, q6⟩
            · exfalso; omega
            · exfalso; omega
            · have hnw : newL (M 83) k := (newL_iff hRb hD q2 hla).mpr (by rw [bn] at *; first | exact Or.inl (by omega) | exact Or.inr (Or.inl (by assumption)) | exact Or.inr (Or.inr (by assumption)))
              rcases q5 with ⟨-, q5⟩ | ⟨q5, -⟩
              · have hk := add_new (P := mset (mset (mset Mb 3 (Mb 1 2) k) 1 2 (Mb 1 2 + 1)) 5 (Mb 1 2) 1) hRb hD q2 q1 (by simp only [mset_ne2 (show (0 : Int) ≠ 2 by decide), mset_nef (show (1 : Nat) ≠ 5 by decide), mset_nef (show (1 : Nat) ≠ 3 by decide)]) (by simp only [mset_ne2 (show (1 : Int) ≠ 2 by decide), mset_nef (show (1 : Nat) ≠ 5 by decide), mset_nef (show (1 : Nat) ≠ 3 by decide)]) (by rw [mset_nef (by decide), mset_at]) (fun w => by rw [mset_nef (by decide), mset_nef (by decide), mset_if, bn]) (fun w => by rw [mset_if, bn, mset_nef (by decide), mset_nef (by decide)]) (by rw [mset_nef (by decide), mset_nef (by decide), mset_nef (by decide)]) q5
                exact ⟨by rw [q6, bn], hC.change hb (fun q g0 g1 => by rw [mset_nef (by omega), mset_nef (by omega), mset_nef (by omega)]) q3 q4.1 q4.2 hk.1 hk.2⟩
              · exact absurd hnw q5
        · skip
          have hz : Mb 7 la = 0 := by rw [mset_nef (by decide), mset_nef (by decide)] at hz; exact hz
          refine j_if_ne (q := 79) (tgt := 97) F dX6_add_76 (by decide) rfl ⟨by decide, by decide⟩ (fun h => absurd h (by decide)) (fun _ => ?_)
          refine j_aload_n (q := 80) F dX6_add_79 rfl rfl 0 rfl ?_
          refine j_getR (q := 83) (z := 1) (index := 10) F wr0 rfl in_X6_add_6 0 (by decide) rfl fl_X6_add_10 dX6_add_80 rfl ?_
          refine j_iload_n (q := 84) F dX6_add_83 rfl rfl 3 rfl ?_
          refine j_aload_n (q := 85) F dX6_add_84 rfl rfl 0 rfl ?_
          refine j_getR (q := 88) (z := 1) (index := 10) F wr0 rfl in_X6_add_6 0 (by decide) rfl fl_X6_add_10 dX6_add_85 rfl ?_
          refine j_getI (q := 91) (i := 2) (index := 68) F (pg1).1 rfl in_X6_add_1 2 (by decide) rfl rfl fl_X6_add_68 dX6_add_88 rfl ?_
          rw [show (mset (mset Mb 3 (Mb 1 2) k) 1 2 (Mb 1 2 + 1)) 1 2 = Mb 1 2 + 1 from by simp [mset]]
          refine j_callVZ (q := 94) F [vI la, vI (Mb 1 2 + 1)] (ct_X1_fits l X hX (mset (mset Mb 3 (Mb 1 2) k) 1 2 (Mb 1 2 + 1)) 1 (pg1) la (Mb 1 2 + 1) (by omega) (by omega) (by omega) (exF_inR (fun w q0 q1 => by rw [mset_nef (by decide)]; show 0 ≤ mset Mb 3 (Mb 1 2) k 3 w ∧ mset Mb 3 (Mb 1 2) k 3 w ≤ 8; rw [mset_if]; split; omega; exact hRb.2.2.2.2.1 w q0 q1) (by rw [mset_ne2 (by decide), mset_nef (by decide), b1]; omega) (by omega) (by omega) (by omega))) gX6_add_X1_fits rfl cd_X1_fits ⟨by first | exact Nat.le_of_ble_eq_true rfl | (simp only [rm]; omega) | (simp [rm, vI, vR, Value.category]; omega), by first | exact Nat.le_of_ble_eq_true rfl | (simp only [rm]; omega) | (simp [rm, vI, vR, Value.category]; omega), by first | exact Nat.le_of_ble_eq_true rfl | (simp only [rm]; omega) | (simp [rm, vI, vR, Value.category]; omega), by first | exact Nat.le_of_ble_eq_true rfl | (simp only [rm]; omega) | (simp [rm, vI, vR, Value.category]; omega)⟩ (pg1).1 rfl rfl rfl (Nat.le_of_ble_eq_true rfl) dX6_add_91 rfl (fun hft => ?_) (fun hft => ?_)
          · skip
            refine j_if_ne (q := 97) (tgt := 105) F dX6_add_94 (by decide) rfl ⟨by decide, by decide⟩ (fun _ => ?_) (fun h => absurd h (by decide))
            refine j_iload_n (q := 106) F dX6_add_105 rfl rfl 2 rfl ?_
            refine hret _ _ _ _ dX6_add_106 ?_
            · refine ⟨fun q hq => by rw [mset_nef (by omega), mset_nef (by omega)]; exact hfb q hq, fun r' N hO => ?_⟩
              rcases hO with ⟨q1, q2, q3⟩ | ⟨q1, q2, q3, q4⟩ | ⟨q1, q2, q3, q4, q5, q6⟩
              · exfalso; omega
              · exfalso; omega
              · have hnw : ¬ newL (M 83) k := fun z => by
                  rcases (newL_iff hRb hD q2 hla).mp z with z | z | z
                  · omega
                  · omega
                  · rw [← bn] at z
                    exact absurd (Int.lt_of_lt_of_le z hft) (Int.lt_irrefl _)
                rcases q5 with ⟨q5, -⟩ | ⟨-, q5⟩
                · exact absurd q5 hnw
                · have hk := add_old (P := mset (mset Mb 3 (Mb 1 2) k) 1 2 (Mb 1 2 + 1)) hRb hD q2 q1 (by simp only [mset_ne2 (show (0 : Int) ≠ 2 by decide), mset_nef (show (1 : Nat) ≠ 5 by decide), mset_nef (show (1 : Nat) ≠ 3 by decide)]) (by simp only [mset_ne2 (show (1 : Int) ≠ 2 by decide), mset_nef (show (1 : Nat) ≠ 5 by decide), mset_nef (show (1 : Nat) ≠ 3 by decide)]) (by rw [mset_at]) (fun w => by rw [mset_nef (by decide), mset_if, bn]) (by rw [mset_nef (by decide), mset_nef (by decide)]) (by rw [mset_nef (by decide), mset_nef (by decide)]) hnw q5
                  exact ⟨by rw [q6, bn], hC.change hb (fun q g0 g1 => by rw [mset_nef (by omega), mset_nef (by omega)]) q3 q4.1 q4.2 hk.1 hk.2⟩
          · skip
            refine j_if_ne (q := 97) (tgt := 105) F dX6_add_94 (by decide) rfl ⟨by decide, by decide⟩ (fun h => absurd h (by decide)) (fun _ => ?_)
            refine j_aload_n (q := 98) F dX6_add_97 rfl rfl 0 rfl ?_
            refine j_getR (q := 101) (z := 1) (index := 10) F wr0 rfl in_X6_add_6 0 (by decide) rfl fl_X6_add_10 dX6_add_98 rfl ?_
            refine j_iload_n (q := 102) F dX6_add_101 rfl rfl 2 rfl ?_
            refine j_callVM (q := 105) F [vI (Mb 1 2)] (ct_X1_begin_in l X hX (mset (mset Mb 3 (Mb 1 2) k) 1 2 (Mb 1 2 + 1)) 1 (pg1) (by rw [mset_at]; omega) (Mb 1 2) (by omega) (by rw [mset_at]; omega)) gX6_add_X1_begin rfl cd_X1_begin ⟨by first | exact Nat.le_of_ble_eq_true rfl | (simp only [rm]; omega) | (simp [rm, vI, vR, Value.category]; omega), by first | exact Nat.le_of_ble_eq_true rfl | (simp only [rm]; omega) | (simp [rm, vI, vR, Value.category]; omega), by first | exact Nat.le_of_ble_eq_true rfl | (simp only [rm]; omega) | (simp [rm, vI, vR, Value.category]; omega), by first | exact Nat.le_of_ble_eq_true rfl | (simp only [rm]; omega) | (simp [rm, vI, vR, Value.category]; omega)⟩ (pg1).1 rfl rfl rfl (Nat.le_of_ble_eq_true rfl) dX6_add_102 rfl ?_
            refine j_iload_n (q := 106) F dX6_add_105 rfl rfl 2 rfl ?_
            refine hret _ _ _ _ dX6_add_106 ?_
            · refine ⟨fun q hq => by rw [mset_nef (by omega), mset_nef (by omega), mset_nef (by omega)]; exact hfb q hq, fun r' N hO => ?_⟩
              rcases hO with ⟨q1, q2, q3⟩ | ⟨q1, q2, q3, q4⟩ | ⟨q1, q2, q3, q4, q5, q6⟩
              · exfalso; omega
              · exfalso; omega
              · have hnw : newL (M 83) k := (newL_iff hRb hD q2 hla).mpr (by rw [bn] at *; first | exact Or.inl (by omega) | exact Or.inr (Or.inl (by assumption)) | exact Or.inr (Or.inr (by assumption)))
                rcases q5 with ⟨-, q5⟩ | ⟨q5, -⟩
                · have hk := add_new (P := mset (mset (mset Mb 3 (Mb 1 2) k) 1 2 (Mb 1 2 + 1)) 5 (Mb 1 2) 1) hRb hD q2 q1 (by simp only [mset_ne2 (show (0 : Int) ≠ 2 by decide), mset_nef (show (1 : Nat) ≠ 5 by decide), mset_nef (show (1 : Nat) ≠ 3 by decide)]) (by simp only [mset_ne2 (show (1 : Int) ≠ 2 by decide), mset_nef (show (1 : Nat) ≠ 5 by decide), mset_nef (show (1 : Nat) ≠ 3 by decide)]) (by rw [mset_nef (by decide), mset_at]) (fun w => by rw [mset_nef (by decide), mset_nef (by decide), mset_if, bn]) (fun w => by rw [mset_if, bn, mset_nef (by decide), mset_nef (by decide)]) (by rw [mset_nef (by decide), mset_nef (by decide), mset_nef (by decide)]) q5
                  exact ⟨by rw [q6, bn], hC.change hb (fun q g0 g1 => by rw [mset_nef (by omega), mset_nef (by omega), mset_nef (by omega)]) q3 q4.1 q4.2 hk.1 hk.2⟩
                · exact absurd hnw q5
    · skip
      refine j_bipush (q := 26) F dX6_add_24 rfl (by decide) ?_
      refine hret _ _ _ _ dX6_add_26 ?_
      · refine ⟨fun _ _ => rfl, fun r' N hO => ?_⟩
        rcases hO with ⟨q1, q2, q3⟩ | ⟨q1, q2, q3, q4⟩ | ⟨q1, q2, q3, q4, q5, q6⟩
        · exfalso; omega
        · exact ⟨by omega, hC.same (fun _ _ => rfl) q4⟩
        · exfalso; omega
  · skip
    refine j_if_ne (q := 10) (tgt := 12) F dX6_add_7 (by decide) rfl ⟨by decide, by decide⟩ (fun h => absurd h (by decide)) (fun _ => ?_)
    refine j_iconst (q := 11) F dX6_add_10 rfl ?_
    refine hret _ _ _ _ dX6_add_11 ?_
    · refine ⟨fun _ _ => rfl, fun r' N hO => ?_⟩
      rcases hO with ⟨q1, q2, q3⟩ | ⟨q1, q2, q3, q4⟩ | ⟨q1, q2, q3, q4, q5, q6⟩
      · exact ⟨by omega, hC.same (fun _ _ => rfl) q3⟩
      · exfalso; omega
      · exfalso; omega