theorem cd_X3_keepTried : yX3_keepTried.cls = RX3 ∧ yX3_keepTried.cls ≠ "java/lang/invoke/MethodHandle" ∧ yX3_keepTried.cls ≠ "java/lang/invoke/VarHandle" ∧ (parseMethodDescriptor yX3_keepTried.desc).map (fun d => d.parameters.length) = some 3 := by decide +kernel
theorem cd_X3_tryLines : yX3_tryLines.cls ≠ "java/lang/invoke/MethodHandle" ∧ yX3_tryLines.cls ≠ "java/lang/invoke/VarHandle" ∧ (parseMethodDescriptor yX3_tryLines.desc).map (fun d => d.parameters.length) = some 6 := by decide +kernel
theorem fl_X3_tryLines_19 : Cond.fieldLink RX3 19 "WhiteRivers$Search" "bestPrice" "I" ∈ wsX3_tryLines := by decide +kernel
theorem fl_X3_tryLines_22 : Cond.fieldLink RX3 22 "WhiteRivers$Search" "limit" "I" ∈ wsX3_tryLines := by decide +kernel
theorem fl_X3_tryLines_28 : Cond.fieldLink RX3 28 "WhiteRivers$Search" "page" "LWhiteRivers$Page;" ∈ wsX3_tryLines := by decide +kernel
theorem fl_X3_tryLines_35 : Cond.fieldLink RX3 35 "WhiteRivers$Search" "sheet" "LWhiteRivers$Sheet;" ∈ wsX3_tryLines := by decide +kernel
theorem fl_X3_tryLines_44 : Cond.fieldLink RX3 44 "WhiteRivers$Search" "prices" "LWhiteRivers$Row;" ∈ wsX3_tryLines := by decide +kernel
theorem fl_X3_tryLines_48 : Cond.fieldLink RX3 48 "WhiteRivers$Search" "leastPrices" "LWhiteRivers$Row;" ∈ wsX3_tryLines := by decide +kernel
theorem fl_X3_tryLines_51 : Cond.fieldLink RX3 51 "WhiteRivers$Search" "tried" "LWhiteRivers$Row;" ∈ wsX3_tryLines := by decide +kernel
theorem fl_X3_tryLines_79 : Cond.fieldLink RX3 79 "WhiteRivers$Page" "words" "I" ∈ wsX3_tryLines := by decide +kernel
theorem in_X3_tryLines_1 : ∀ w ∈ u_ws RX1 TX1 6, w ∈ wsX3_tryLines := by decide +kernel
theorem in_X3_tryLines_3 : ∀ w ∈ u_ws RX3 TX3 10, w ∈ wsX3_tryLines := by decide +kernel
theorem mt_X3_tryLines_129 : Cond.methodLink RX3 129 Lib.Math.max.name ∈ wsX3_tryLines ∧ Cond.static Lib.Math.max.name ∈ wsX3_tryLines ∧ Cond.initialized "java/lang/Math" ∈ wsX3_tryLines ∧ Cond.code Lib.Math.max.name Lib.Math.max.code 2 (some .int) ∈ wsX3_tryLines := by decide +kernel
set_option maxRecDepth 100000 in
set_option maxHeartbeats 2000000 in
theorem ct_X3_tryLines (l : Launch) (X : Cx) (hX : Inj X) (d : Int → Int) (D : Int) (hD : DOK d) (hDD : 1 ≤ D ∧ D ≤ 24) : ∀ (t : Nat) (M : Mem) (p i : Int) (r : Int → Int) (pr rv m : Int) (Q : Int → Int) (b : Bst), TP M d D p i r m Q b → 0 ≤ p → p ≤ i → i ≤ d 0 → 0 ≤ m → m ≤ i → RI d i → 0 ≤ pr → pr < b.1 → 0 ≤ rv → rv ≤ 50 → d 0 - i < t → CtV l X yX3_tryLines wsX3_tryLines (5 + t) [vR X 54, vI m, vI p, vI i, vI pr, vI rv] M (fun M' => TF M M' i m ∧ SBd M' 62 ∧ BRel M' (srF d D t p i r pr rv m Q b)) := by
  intro t
  induction t with
  | zero =>
    intro M p i r pr rv m Q b hT hp hpi hin hm hmi hri hpr hpb hrv0 hrv1 ht
    exfalso; omega
  | succ t ih =>
    intro M p i r pr rv m Q b hT hp hpi hin hm hmi hri hpr hpb hrv0 hrv1 ht
    refine CtV_of (cc := cX3_tryLines) (maxL := 9) hX (by decide +kernel) rfl (Nat.le_of_ble_eq_true rfl) ?_
    intro zp ze zs zm zargs zbelow zmeth zc zQ F hret
    show J zp l ze (rm (5 + (t + 1))) zs zm zargs zbelow zmeth zc 0 0 zQ zs.heap X 9 M 0 [(0, vR X 54), (1, vI m), (2, vI p), (3, vI i), (4, vI pr), (5, vI rv)] []
    have hR0 := hT.1
    have hnn := hD.1
    have hww := hD.2.1
    have hn0 : M 55 2 = d 0 := hR0.2.2.1
    have hbT := hT.2.2.2.2.2.2.2.2.2.2
    refine j_iload_n (q := 1) F dX3_tryLines_0 rfl rfl 3 rfl ?_
    refine j_aload_n (q := 2) F dX3_tryLines_1 rfl rfl 0 rfl ?_
    refine j_getR (q := 5) (z := 55) (index := 28) F se54 rfl in_X3_tryLines_3 4 (by decide) rfl fl_X3_tryLines_28 dX3_tryLines_2 rfl ?_
    refine j_getI (q := 8) (i := 2) (index := 79) F (pg55).1 rfl in_X3_tryLines_1 2 (by decide) rfl rfl fl_X3_tryLines_79 dX3_tryLines_5 rfl ?_
    rw [show M 55 2 = d 0 from by exact hn0]
    refine j_icmp_lt (q := 11) (tgt := 21) F dX3_tryLines_8 (by decide) rfl ⟨by omega, by omega⟩ ⟨by omega, by omega⟩ (fun h8_1 => ?_) (fun h8_1 => ?_)
    · skip
      refine j_iload_n (q := 22) F dX3_tryLines_21 rfl rfl 1 rfl ?_
      refine j_bipush (q := 24) F dX3_tryLines_22 rfl (by decide) ?_
      refine j_icmp_lt (q := 27) (tgt := 28) F dX3_tryLines_24 (by decide) rfl ⟨by omega, by omega⟩ ⟨by decide, by decide⟩ (fun h24_2 => ?_) (fun h => by exfalso; omega)
      refine j_aload_n (q := 29) F dX3_tryLines_28 rfl rfl 0 rfl ?_
      refine j_getR (q := 32) (z := 55) (index := 28) F se54 rfl in_X3_tryLines_3 4 (by decide) rfl fl_X3_tryLines_28 dX3_tryLines_29 rfl ?_
      refine j_getI (q := 35) (i := 2) (index := 79) F (pg55).1 rfl in_X3_tryLines_1 2 (by decide) rfl rfl fl_X3_tryLines_79 dX3_tryLines_32 rfl ?_
      rw [show M 55 2 = d 0 from by exact hn0]
      refine j_istore (q := 37) (lv' := [(0, vR X 54), (1, vI m), (2, vI p), (3, vI i), (4, vI pr), (5, vI rv), (6, vI (d 0))]) F dX3_tryLines_35 rfl (by decide) rfl rfl ?_
      have LP37 : ∀ (nn : Nat) (en : Int) (Mq : Mem) (bq : Bst), (i ≤ en) → (en ≤ d 0) → (0 ≤ bq.1) → (TP Mq d D p i r m Q bq) → (TF M Mq i m) → (srF d D (t + 1) p i r pr rv m Q b = foldN (stepF d D t p i r pr rv m Q) i (en - i).toNat bq) → (en - i).toNat < nn → J zp l ze (rm (5 + (t + 1))) zs zm zargs zbelow zmeth zc 0 0 zQ zs.heap X 9 Mq 37 [(0, vR X 54), (1, vI m), (2, vI p), (3, vI i), (4, vI pr), (5, vI rv), (6, vI en)] [] := by
        intro nn
        induction nn with
        | zero => intro en Mq bq g0 g1 hbq hq hf heq hm37; exact absurd hm37 (Nat.not_lt_zero _)
        | succ nn ih37 =>
          intro en Mq bq g0 g1 hbq hq hf heq hm37
          refine j_iload (q := 39) F dX3_tryLines_37 rfl 6 rfl ?_
          refine j_iload_n (q := 40) F dX3_tryLines_39 rfl rfl 3 rfl ?_
          refine j_icmp_le (q := 43) (tgt := 155) F dX3_tryLines_40 (by decide) rfl ⟨by omega, by omega⟩ ⟨by omega, by omega⟩ (fun h40_3 => ?_) (fun h40_3 => ?_)
          · skip
            refine hret _ _ _ dX3_tryLines_155 ?_
            · refine ⟨hf, hq.2.2.2.1, ?_⟩
              rw [heq, show en = i by omega, show (i - i).toNat = 0 by omega]
              exact hq.2.2.2.2.2.2.2.2.2.1
          · skip
            have hlpe := hq.2.1.2.2.1 en (by omega) (by omega)
            have hpb := prC_bd hD (i := i) (j := en) (by omega) (by omega) (by omega)
            have hb9 := hq.2.2.2.2.2.2.2.2.2.2
            have hb0 : 0 ≤ bq.1 := hbq
            refine j_iload (q := 45) F dX3_tryLines_43 rfl 4 rfl ?_
            refine j_aload_n (q := 46) F dX3_tryLines_45 rfl rfl 0 rfl ?_
            refine j_getR (q := 49) (z := 71) (index := 44) F se54 rfl in_X3_tryLines_3 6 (by decide) rfl fl_X3_tryLines_44 dX3_tryLines_46 rfl ?_
            refine j_iload_n (q := 50) F dX3_tryLines_49 rfl rfl 3 rfl ?_
            refine j_iload (q := 52) F dX3_tryLines_50 rfl 6 rfl ?_
            refine j_callSE (q := 55) F [vI i, vI en] (ct_X3_cellOf l X hX Mq i en) gX3_tryLines_X3_cellOf rfl cd_X3_cellOf ⟨by first | exact Nat.le_of_ble_eq_true rfl | (simp only [rm]; omega) | (simp [rm, vI, vR, Value.category]; omega), by first | exact Nat.le_of_ble_eq_true rfl | (simp only [rm]; omega) | (simp [rm, vI, vR, Value.category]; omega), by first | exact Nat.le_of_ble_eq_true rfl | (simp only [rm]; omega) | (simp [rm, vI, vR, Value.category]; omega), by first | exact Nat.le_of_ble_eq_true rfl | (simp only [rm]; omega) | (simp [rm, vI, vR, Value.category]; omega)⟩ rfl rfl (Nat.le_of_ble_eq_true rfl) dX3_tryLines_52 rfl ?_
            refine j_callVE (q := 58) F [vI (i * 24 + en - i - 1)] (ct_X2_get_in l X hX Mq 71 576 72 (rw71) (by decide) rfl (i * 24 + en - i - 1) (by omega) (by omega)) gX3_tryLines_X2_get rfl cd_X2_get ⟨by first | exact Nat.le_of_ble_eq_true rfl | (simp only [rm]; omega) | (simp [rm, vI, vR, Value.category]; omega), by first | exact Nat.le_of_ble_eq_true rfl | (simp only [rm]; omega) | (simp [rm, vI, vR, Value.category]; omega), by first | exact Nat.le_of_ble_eq_true rfl | (simp only [rm]; omega) | (simp [rm, vI, vR, Value.category]; omega), by first | exact Nat.le_of_ble_eq_true rfl | (simp only [rm]; omega) | (simp [rm, vI, vR, Value.category]; omega)⟩ (rw71).1 rfl rfl rfl (Nat.le_of_ble_eq_true rfl) dX3_tryLines_55 rfl ?_
            rw [show Mq 72 (i * 24 + en - i - 1) = prC d i en from by exact hq.2.1.1 i en (by omega) (by omega) (by omega)]
            refine j_iadd (q := 59) (z := pr + (prC d i en)) F dX3_tryLines_58 rfl rfl ?_
            refine j_istore (q := 61) (lv' := [(0, vR X 54), (1, vI m), (2, vI p), (3, vI i), (4, vI pr), (5, vI rv), (6, vI en), (7, vI (pr + (prC d i en)))]) F dX3_tryLines_59 rfl (by decide) rfl rfl ?_
            refine j_iload (q := 63) F dX3_tryLines_61 rfl 7 rfl ?_
            refine j_aload_n (q := 64) F dX3_tryLines_63 rfl rfl 0 rfl ?_
            refine j_getI (q := 67) (i := 2) (index := 19) F se54 rfl in_X3_tryLines_3 2 (by decide) rfl rfl fl_X3_tryLines_19 dX3_tryLines_64 rfl ?_
            rw [show Mq 54 2 = bq.1 from by exact hq.2.2.2.2.2.2.2.2.2.1.1]
            refine j_icmp_ge (q := 70) (tgt := 149) F dX3_tryLines_67 (by decide) rfl ⟨by omega, by omega⟩ ⟨by omega, by omega⟩ (fun h67_6 => ?_) (fun h67_6 => ?_)
            · skip
              refine j_iinc (q := 152) (lv' := [(0, vR X 54), (1, vI m), (2, vI p), (3, vI i), (4, vI pr), (5, vI rv), (6, vI (en + (-1))), (7, vI (pr + (prC d i en)))]) F dX3_tryLines_149 rfl 6 rfl (by decide) rfl rfl ?_
              refine j_goto (q := 37) F dX3_tryLines_152 (by decide) ?_
              refine j_sub (lv' := [(0, vR X 54), (1, vI m), (2, vI p), (3, vI i), (4, vI pr), (5, vI rv), (6, vI (en + (-1)))]) [0, 1, 2, 3, 4, 5, 6] rfl ?_
              exact ih37 (en + (-1)) Mq bq (by omega) (by omega) (by exact hbq) (by exact hq) (by exact hf) (by rw [show en + (-1) = en - 1 by omega, heq, foldN_S (show i < en by omega), step_skip hD hq.2.1.2 (by omega) (by omega) (by omega) hri (by omega)]) (by omega)
            · skip
              refine j_iload (q := 72) F dX3_tryLines_70 rfl 7 rfl ?_
              refine j_aload_n (q := 73) F dX3_tryLines_72 rfl rfl 0 rfl ?_
              refine j_getR (q := 76) (z := 73) (index := 48) F se54 rfl in_X3_tryLines_3 7 (by decide) rfl fl_X3_tryLines_48 dX3_tryLines_73 rfl ?_
              refine j_iload (q := 78) F dX3_tryLines_76 rfl 6 rfl ?_
              refine j_callVE (q := 81) F [vI en] (ct_X2_get_in l X hX Mq 73 25 74 (rw73) (by decide) rfl en (by omega) (by omega)) gX3_tryLines_X2_get rfl cd_X2_get ⟨by first | exact Nat.le_of_ble_eq_true rfl | (simp only [rm]; omega) | (simp [rm, vI, vR, Value.category]; omega), by first | exact Nat.le_of_ble_eq_true rfl | (simp only [rm]; omega) | (simp [rm, vI, vR, Value.category]; omega), by first | exact Nat.le_of_ble_eq_true rfl | (simp only [rm]; omega) | (simp [rm, vI, vR, Value.category]; omega), by first | exact Nat.le_of_ble_eq_true rfl | (simp only [rm]; omega) | (simp [rm, vI, vR, Value.category]; omega)⟩ (rw73).1 rfl rfl rfl (Nat.le_of_ble_eq_true rfl) dX3_tryLines_78 rfl ?_
              refine j_iadd (q := 82) (z := (pr + (prC d i en)) + (Mq 74 en)) F dX3_tryLines_81 rfl rfl ?_
              refine j_aload_n (q := 83) F dX3_tryLines_82 rfl rfl 0 rfl ?_
              refine j_getI (q := 86) (i := 2) (index := 19) F se54 rfl in_X3_tryLines_3 2 (by decide) rfl rfl fl_X3_tryLines_19 dX3_tryLines_83 rfl ?_
              rw [show Mq 54 2 = bq.1 from by exact hq.2.2.2.2.2.2.2.2.2.1.1]
              refine j_icmp_lt (q := 89) (tgt := 92) F dX3_tryLines_86 (by decide) rfl ⟨by omega, by omega⟩ ⟨by omega, by omega⟩ (fun h86_8 => ?_) (fun h86_8 => ?_)
              · skip
                have hok := prC_ok hD (show i < en by omega) hri (by omega)
                have hRq := hq.1
                have hw0 : Mq 55 0 = d 1 := hRq.1
                have hn : Mq 55 2 = d 0 := hRq.2.2.1
                have hfit : 0 ≤ exF (Mq 57) (Mq 55 0) i en := by have := exD_eq hRq (i := i) (j := en) (by omega) (by omega); rw [show exF (Mq 57) (Mq 55 0) i en = exD d i en from this]; exact hok.1.1
                refine j_aload_n (q := 93) F dX3_tryLines_92 rfl rfl 0 rfl ?_
                refine j_getR (q := 96) (z := 62) (index := 35) F se54 rfl in_X3_tryLines_3 5 (by decide) rfl fl_X3_tryLines_35 dX3_tryLines_93 rfl ?_
                refine j_aload_n (q := 97) F dX3_tryLines_96 rfl rfl 0 rfl ?_
                refine j_getR (q := 100) (z := 55) (index := 28) F se54 rfl in_X3_tryLines_3 4 (by decide) rfl fl_X3_tryLines_28 dX3_tryLines_97 rfl ?_
                refine j_iload_n (q := 101) F dX3_tryLines_100 rfl rfl 2 rfl ?_
                refine j_iload_n (q := 102) F dX3_tryLines_101 rfl rfl 3 rfl ?_
                refine j_iload (q := 104) F dX3_tryLines_102 rfl 6 rfl ?_
                refine j_callVI (q := 107) F [vR X 55, vI p, vI i, vI en] (ct_X4_layLine l X hX Mq 62 (sh62) 55 (pg55) (by omega) i en (by omega) hRq.2.2.2.2.1 (by omega) (Or.inr hfit) hq.2.2.2.1 p (by omega) (fun w q0 q1 => by have := hq.2.2.2.2.2.1 w q0 q1; show 0 ≤ Mq 70 w ∧ Mq 70 w ≤ 50; omega)) gX3_tryLines_X4_layLine rfl cd_X4_layLine ⟨by first | exact Nat.le_of_ble_eq_true rfl | (simp only [rm]; omega) | (simp [rm, vI, vR, Value.category]; omega), by first | exact Nat.le_of_ble_eq_true rfl | (simp only [rm]; omega) | (simp [rm, vI, vR, Value.category]; omega), by first | exact Nat.le_of_ble_eq_true rfl | (simp only [rm]; omega) | (simp [rm, vI, vR, Value.category]; omega), by first | exact Nat.le_of_ble_eq_true rfl | (simp only [rm]; omega) | (simp [rm, vI, vR, Value.category]; omega)⟩ (sh62).1 rfl rfl rfl (Nat.le_of_ble_eq_true rfl) dX3_tryLines_104 rfl (fun x Nl hlp => ?_)
                obtain ⟨hTl, hfl, hxm, hrow, hrr, hrb⟩ := hq.lay hD hp hpi (show i < en by omega) (by omega) hok.1.1 hlp
                have hx0 : 0 ≤ x := by have := hrb i (by omega) (by omega); omega
                have hxb : x ≤ 51 := by rw [hxm]; exact mostD_bd (fun w q0 q1 => by rw [← hq.2.2.2.2.2.2.1 w q0 q1]; have := hq.2.2.2.2.2.1 w q0 (by omega); omega)
                refine j_istore (q := 109) (lv' := [(0, vR X 54), (1, vI m), (2, vI p), (3, vI i), (4, vI pr), (5, vI rv), (6, vI en), (7, vI (pr + (prC d i en))), (8, vI x)]) F dX3_tryLines_107 rfl (by decide) rfl rfl ?_
                refine j_iload (q := 111) F dX3_tryLines_109 rfl 8 rfl ?_
                refine j_aload_n (q := 112) F dX3_tryLines_111 rfl rfl 0 rfl ?_
                refine j_getI (q := 115) (i := 3) (index := 22) F se54 rfl in_X3_tryLines_3 3 (by decide) rfl rfl fl_X3_tryLines_22 dX3_tryLines_112 rfl ?_
                rw [show Nl 54 3 = D from by exact hTl.2.2.1]
                refine j_icmp_gt (q := 118) (tgt := 149) F dX3_tryLines_115 (by decide) rfl ⟨by omega, by omega⟩ ⟨by omega, by omega⟩ (fun h115_10 => ?_) (fun h115_10 => ?_)
                · skip
                  refine j_iinc (q := 152) (lv' := [(0, vR X 54), (1, vI m), (2, vI p), (3, vI i), (4, vI pr), (5, vI rv), (6, vI (en + (-1))), (7, vI (pr + (prC d i en))), (8, vI x)]) F dX3_tryLines_149 rfl 6 rfl (by decide) rfl rfl ?_
                  refine j_goto (q := 37) F dX3_tryLines_152 (by decide) ?_
                  refine j_sub (lv' := [(0, vR X 54), (1, vI m), (2, vI p), (3, vI i), (4, vI pr), (5, vI rv), (6, vI (en + (-1)))]) [0, 1, 2, 3, 4, 5, 6] rfl ?_
                  exact ih37 (en + (-1)) Nl bq (by omega) (by omega) (by exact hbq) (by exact hTl) (by exact hf.trans hfl) (by rw [show en + (-1) = en - 1 by omega, heq, foldN_S (show i < en by omega), step_far (by omega)]) (by omega)
                · skip
                  refine j_aload_n (q := 119) F dX3_tryLines_118 rfl rfl 0 rfl ?_
                  refine j_getR (q := 122) (z := 75) (index := 51) F se54 rfl in_X3_tryLines_3 8 (by decide) rfl fl_X3_tryLines_51 dX3_tryLines_119 rfl ?_
                  refine j_iload_n (q := 123) F dX3_tryLines_122 rfl rfl 1 rfl ?_
                  refine j_iload (q := 125) F dX3_tryLines_123 rfl 6 rfl ?_
                  refine j_iload_n (q := 126) F dX3_tryLines_125 rfl rfl 3 rfl ?_
                  refine j_isub (q := 127) (z := en - i) F dX3_tryLines_126 rfl rfl ?_
                  refine j_callVM (q := 130) F [vI m, vI (en - i)] (ct_X2_set_in l X hX Nl 75 24 76 (rw75) (by decide) rfl m (en - i) (by omega) (by omega)) gX3_tryLines_X2_set rfl cd_X2_set ⟨by first | exact Nat.le_of_ble_eq_true rfl | (simp only [rm]; omega) | (simp [rm, vI, vR, Value.category]; omega), by first | exact Nat.le_of_ble_eq_true rfl | (simp only [rm]; omega) | (simp [rm, vI, vR, Value.category]; omega), by first | exact Nat.le_of_ble_eq_true rfl | (simp only [rm]; omega) | (simp [rm, vI, vR, Value.category]; omega), by first | exact Nat.le_of_ble_eq_true rfl | (simp only [rm]; omega) | (simp [rm, vI, vR, Value.category]; omega)⟩ (rw75).1 rfl rfl rfl (Nat.le_of_ble_eq_true rfl) dX3_tryLines_127 rfl ?_
                  have hnx := hTl.next hDD hm (show i < en by omega) hxm (by omega) hrow hrr hrb
                  refine j_aload_n (q := 131) F dX3_tryLines_130 rfl rfl 0 rfl ?_
                  refine j_iload_n (q := 132) F dX3_tryLines_131 rfl rfl 1 rfl ?_
                  refine j_iconst (q := 133) F dX3_tryLines_132 rfl ?_
                  refine j_iadd (q := 134) (z := m + 1) F dX3_tryLines_133 rfl rfl ?_
                  refine j_iload_n (q := 135) F dX3_tryLines_134 rfl rfl 3 rfl ?_
                  refine j_iload (q := 137) F dX3_tryLines_135 rfl 6 rfl ?_
                  refine j_iload (q := 139) F dX3_tryLines_137 rfl 7 rfl ?_
                  refine j_iload (q := 141) F dX3_tryLines_139 rfl 5 rfl ?_
                  refine j_iload (q := 143) F dX3_tryLines_141 rfl 8 rfl ?_
                  refine j_max (q := 146) F mt_X3_tryLines_129.1 mt_X3_tryLines_129.2.1 mt_X3_tryLines_129.2.2.1 mt_X3_tryLines_129.2.2.2 ⟨by first | exact Nat.le_of_ble_eq_true rfl | (simp only [rm]; omega) | (simp [rm, vI, vR, Value.category]; omega), by first | exact Nat.le_of_ble_eq_true rfl | (simp only [rm]; omega) | (simp [rm, vI, vR, Value.category]; omega), by first | exact Nat.le_of_ble_eq_true rfl | (simp only [rm]; omega) | (simp [rm, vI, vR, Value.category]; omega), by first | exact Nat.le_of_ble_eq_true rfl | (simp only [rm]; omega) | (simp [rm, vI, vR, Value.category]; omega)⟩ ⟨by omega, by omega⟩ ⟨by omega, by omega⟩ dX3_tryLines_143 rfl ?_
                  refine j_callSV (q := 149) F [vR X 54, vI (m + 1), vI i, vI en, vI (pr + (prC d i en)), vI (max rv x)] (ih (mset Nl 76 m (en - i)) i en (rlF (lenD d) (d 1) (d 0) p i en r) (pr + prC d i en) (max rv x) (m + 1) (qset Q (m + 1) en) bq hnx.1 (by omega) (by omega) (by omega) (by omega) (by omega) (RI_step hD (by omega) hok.1) (by have := prC_bd hD (i := i) (j := en) (by omega) (by omega) (by omega); omega) (by omega) (by omega) (by omega) (by omega)) gX3_tryLines_X3_tryLines rfl cd_X3_tryLines ⟨by first | exact Nat.le_of_ble_eq_true rfl | (simp only [rm]; omega) | (simp [rm, vI, vR, Value.category]; omega), by first | exact Nat.le_of_ble_eq_true rfl | (simp only [rm]; omega) | (simp [rm, vI, vR, Value.category]; omega), by first | exact Nat.le_of_ble_eq_true rfl | (simp only [rm]; omega) | (simp [rm, vI, vR, Value.category]; omega), by first | exact Nat.le_of_ble_eq_true rfl | (simp only [rm]; omega) | (simp [rm, vI, vR, Value.category]; omega)⟩ rfl rfl (Nat.le_of_ble_eq_true rfl) dX3_tryLines_146 rfl (fun Nr hrec => ?_)
                  rw [hok.2, hxm] at hrec
                  refine j_iinc (q := 152) (lv' := [(0, vR X 54), (1, vI m), (2, vI p), (3, vI i), (4, vI pr), (5, vI rv), (6, vI (en + (-1))), (7, vI (pr + (prC d i en))), (8, vI x)]) F dX3_tryLines_149 rfl 6 rfl (by decide) rfl rfl ?_
                  refine j_goto (q := 37) F dX3_tryLines_152 (by decide) ?_
                  refine j_sub (lv' := [(0, vR X 54), (1, vI m), (2, vI p), (3, vI i), (4, vI pr), (5, vI rv), (6, vI (en + (-1)))]) [0, 1, 2, 3, 4, 5, 6] rfl ?_
                  exact ih37 (en + (-1)) Nr ((srF d D t i en (rlF (lenD d) (d 1) (d 0) p i en r) (pr + prD d i en) (max rv (mostD d p i en r)) (m + 1) (qset Q (m + 1) en) bq)) (by omega) (by omega) (by exact srF_nn hD t i en _ _ _ _ _ bq (by omega) (by omega) hbq (by have := prD_bd hD (i := i) (j := en) (by omega) (by omega) (by omega) hok.1.1; omega)) (by exact (hnx.2.trans (hrec.1.less (by omega) (by omega))) |> fun hz => hTl.of hz hrec.2.1 hrec.2.2 (by have := srF_le d D t i en (rlF (lenD d) (d 1) (d 0) p i en r) (pr + prD d i en) (max rv (mostD d p i en r)) (m + 1) (qset Q (m + 1) en) bq; omega)) (by exact hf.trans (hfl.trans (hnx.2.trans (hrec.1.less (by omega) (by omega))))) (by rw [show en + (-1) = en - 1 by omega, heq, foldN_S (show i < en by omega), step_go (by omega) hok.1]) (by omega)
              · skip
                refine j_goto (q := 149) F dX3_tryLines_89 (by decide) ?_
                refine j_iinc (q := 152) (lv' := [(0, vR X 54), (1, vI m), (2, vI p), (3, vI i), (4, vI pr), (5, vI rv), (6, vI (en + (-1))), (7, vI (pr + (prC d i en)))]) F dX3_tryLines_149 rfl 6 rfl (by decide) rfl rfl ?_
                refine j_goto (q := 37) F dX3_tryLines_152 (by decide) ?_
                refine j_sub (lv' := [(0, vR X 54), (1, vI m), (2, vI p), (3, vI i), (4, vI pr), (5, vI rv), (6, vI (en + (-1)))]) [0, 1, 2, 3, 4, 5, 6] rfl ?_
                exact ih37 (en + (-1)) Mq bq (by omega) (by omega) (by exact hbq) (by exact hq) (by exact hf) (by rw [show en + (-1) = en - 1 by omega, heq, foldN_S (show i < en by omega), step_skip hD hq.2.1.2 (by omega) (by omega) (by omega) hri (by omega)]) (by omega)
      exact LP37 _ (d 0) M b (by omega) (by omega) (by omega) (by exact hT) (by exact TF.rf M i m) (by exact srF_S (by omega)) (by exact Nat.lt_succ_self _)
    · skip
      refine j_aload_n (q := 12) F dX3_tryLines_11 rfl rfl 0 rfl ?_
      refine j_iload_n (q := 13) F dX3_tryLines_12 rfl rfl 1 rfl ?_
      refine j_iload (q := 15) F dX3_tryLines_13 rfl 4 rfl ?_
      refine j_iload (q := 17) F dX3_tryLines_15 rfl 5 rfl ?_
      refine j_callVM (q := 20) F [vI m, vI pr, vI rv] (ct_X3_keepTried l X hX M m pr rv) gX3_tryLines_X3_keepTried rfl cd_X3_keepTried ⟨by first | exact Nat.le_of_ble_eq_true rfl | (simp only [rm]; omega) | (simp [rm, vI, vR, Value.category]; omega), by first | exact Nat.le_of_ble_eq_true rfl | (simp only [rm]; omega) | (simp [rm, vI, vR, Value.category]; omega), by first | exact Nat.le_of_ble_eq_true rfl | (simp only [rm]; omega) | (simp [rm, vI, vR, Value.category]; omega), by first | exact Nat.le_of_ble_eq_true rfl | (simp only [rm]; omega) | (simp [rm, vI, vR, Value.category]; omega)⟩ se54 rfl rfl rfl (Nat.le_of_ble_eq_true rfl) dX3_tryLines_17 rfl ?_
      refine hret _ _ _ dX3_tryLines_20 ?_
      · have hk := keep_ok (M := M) (pr := pr) (m := m) (rv := rv) (Q := Q) (by omega) hT.2.2.2.2.2.2.2.1 i m
        refine ⟨hk.2, keep_sb hT.2.2.2.1, ?_⟩
        rw [srF_leaf (by omega) hpb]; exact hk.1
