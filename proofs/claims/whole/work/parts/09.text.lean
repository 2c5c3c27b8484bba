theorem tx79 : shs[79]? = some (8, 0, [none, some 80]) := rfl
theorem rw80 : isRow 80 100 := ⟨rfl, rfl⟩
theorem fl_X5_append_20 : Cond.fieldLink RX5 20 "WhiteRivers$Text" "characters" "LWhiteRivers$Row;" ∈ wsX5_append := by decide +kernel
theorem fl_X5_append_9 : Cond.fieldLink RX5 9 "WhiteRivers$Text" "length" "I" ∈ wsX5_append := by decide +kernel
theorem in_X5_append_5 : ∀ w ∈ u_ws RX5 TX5 2, w ∈ wsX5_append := by decide +kernel
set_option maxRecDepth 100000 in
set_option maxHeartbeats 400000 in
theorem ct_X5_append (l : Launch) (X : Cx) (hX : Inj X) (M : Mem) (hl : 0 ≤ M 79 0 ∧ M 79 0 < 100) (v : Int) : CtV l X yX5_append wsX5_append 1 [vR X 79, vI v] M (fun M' => M' = mset (mset M 81 (M 79 0) v) 79 0 (M 79 0 + 1)) := by
  refine CtV_of (cc := cX5_append) (maxL := 2) hX (by decide +kernel) rfl (Nat.le_of_ble_eq_true rfl) ?_
  intro zp ze zs zm zargs zbelow zmeth zc zQ F hret
  show J zp l ze (rm 1) zs zm zargs zbelow zmeth zc 0 0 zQ zs.heap X 2 M 0 [(0, vR X 79), (1, vI v)] []
  refine j_aload_n (q := 1) F dX5_append_0 rfl rfl 0 rfl ?_
  refine j_getR (q := 4) (z := 80) (index := 20) F tx79 rfl in_X5_append_5 1 (by decide) rfl fl_X5_append_20 dX5_append_1 rfl ?_
  refine j_aload_n (q := 5) F dX5_append_4 rfl rfl 0 rfl ?_
  refine j_getI (q := 8) (i := 0) (index := 9) F tx79 rfl in_X5_append_5 0 (by decide) rfl rfl fl_X5_append_9 dX5_append_5 rfl ?_
  refine j_iload_n (q := 9) F dX5_append_8 rfl rfl 1 rfl ?_
  refine j_callVM (q := 12) F [vI (M 79 0), vI v] (ct_X2_set_in l X hX M 80 100 81 (rw80) (by decide) rfl (M 79 0) v (by omega) (by omega)) gX5_append_X2_set rfl cd_X2_set ⟨by first | exact Nat.le_of_ble_eq_true rfl | (simp only [rm]; omega) | (simp [rm, vI, vR, Value.category]; omega), by first | exact Nat.le_of_ble_eq_true rfl | (simp only [rm]; omega) | (simp [rm, vI, vR, Value.category]; omega), by first | exact Nat.le_of_ble_eq_true rfl | (simp only [rm]; omega) | (simp [rm, vI, vR, Value.category]; omega), by first | exact Nat.le_of_ble_eq_true rfl | (simp only [rm]; omega) | (simp [rm, vI, vR, Value.category]; omega)⟩ (rw80).1 rfl rfl rfl (Nat.le_of_ble_eq_true rfl) dX5_append_9 rfl ?_
  refine j_aload_n (q := 13) F dX5_append_12 rfl rfl 0 rfl ?_
  refine j_dup (q := 14) F dX5_append_13 rfl rfl ?_
  refine j_getI (q := 17) (i := 0) (index := 9) F tx79 rfl in_X5_append_5 0 (by decide) rfl rfl fl_X5_append_9 dX5_append_14 rfl ?_
  rw [show (mset M 81 (M 79 0) v) 79 0 = M 79 0 from by simp [mset]]
  refine j_iconst (q := 18) F dX5_append_17 rfl ?_
  refine j_iadd (q := 19) (z := (M 79 0) + 1) F dX5_append_18 rfl rfl ?_
  refine j_putI (q := 22) (i := 0) (index := 9) F tx79 rfl in_X5_append_5 0 (by decide) tyX5_ok nmX5 rfl rfl rfl rfl fl_X5_append_9 dX5_append_19 rfl ?_
  exact hret _ _ _ dX5_append_22 (by rfl)
theorem fl_X5_firstFault_20 : Cond.fieldLink RX5 20 "WhiteRivers$Text" "characters" "LWhiteRivers$Row;" ∈ wsX5_firstFault := by decide +kernel
theorem fl_X5_firstFault_9 : Cond.fieldLink RX5 9 "WhiteRivers$Text" "length" "I" ∈ wsX5_firstFault := by decide +kernel
theorem in_X5_firstFault_5 : ∀ w ∈ u_ws RX5 TX5 2, w ∈ wsX5_firstFault := by decide +kernel
set_option maxRecDepth 100000 in
set_option maxHeartbeats 400000 in
theorem ct_X5_firstFault (l : Launch) (X : Cx) (hX : Inj X) (M : Mem) (hl : 0 ≤ M 79 0 ∧ M 79 0 ≤ 100) (ht : ∀ j, 0 ≤ j → j < 100 → 0 ≤ M 81 j ∧ M 81 j ≤ 126) : CtI l X yX5_firstFault wsX5_firstFault 1 [vR X 79] M (fun x M' => M' = M ∧ FltP (M 81) (M 79 0) x) := by
  refine CtI_of (cc := cX5_firstFault) (maxL := 4) hX (by decide +kernel) rfl (Nat.le_of_ble_eq_true rfl) ?_
  intro zp ze zs zm zargs zbelow zmeth zc zQ F hret
  show J zp l ze (rm 1) zs zm zargs zbelow zmeth zc 0 0 zQ zs.heap X 4 M 0 [(0, vR X 79)] []
  refine j_iconst (q := 1) F dX5_firstFault_0 rfl ?_
  refine j_istore_n (q := 2) (lv' := [(0, vR X 79), (1, vI 0)]) F dX5_firstFault_1 rfl rfl (by decide) rfl rfl ?_
  refine j_iconst (q := 3) F dX5_firstFault_2 rfl ?_
  refine j_istore_n (q := 4) (lv' := [(0, vR X 79), (1, vI 0), (2, vI 0)]) F dX5_firstFault_3 rfl rfl (by decide) rfl rfl ?_
  refine j_iconst (q := 5) F dX5_firstFault_4 rfl ?_
  refine j_istore_n (q := 6) (lv' := [(0, vR X 79), (1, vI 0), (2, vI 0), (3, vI 0)]) F dX5_firstFault_5 rfl rfl (by decide) rfl rfl ?_
  have LP6 : ∀ (nn : Nat) (words run k : Int), (0 ≤ k) → (k ≤ M 79 0) → (words = twd (M 81) k) → (run = trn (M 81) k) → (∀ j, 0 ≤ j → j < k → ¬ badT (M 81) (M 79 0) j) → (0 ≤ words ∧ words ≤ 24 ∧ 0 ≤ run ∧ run ≤ 8) → (M 79 0 - k).toNat < nn → J zp l ze (rm 1) zs zm zargs zbelow zmeth zc 0 0 zQ zs.heap X 4 M 6 [(0, vR X 79), (1, vI words), (2, vI run), (3, vI k)] [] := by
    intro nn
    induction nn with
    | zero => intro words run k h0 h1 h2 h3 h4 h5 hm6; exact absurd hm6 (Nat.not_lt_zero _)
    | succ nn ih6 =>
      intro words run k h0 h1 h2 h3 h4 h5 hm6
      refine j_iload_n (q := 7) F dX5_firstFault_6 rfl rfl 3 rfl ?_
      refine j_aload_n (q := 8) F dX5_firstFault_7 rfl rfl 0 rfl ?_
      refine j_getI (q := 11) (i := 0) (index := 9) F tx79 rfl in_X5_firstFault_5 0 (by decide) rfl rfl fl_X5_firstFault_9 dX5_firstFault_8 rfl ?_
      refine j_icmp_ge (q := 14) (tgt := 83) F dX5_firstFault_11 (by decide) rfl ⟨by omega, by omega⟩ ⟨by omega, by omega⟩ (fun h11_1 => ?_) (fun h11_1 => ?_)
      · skip
        refine j_bipush (q := 85) F dX5_firstFault_83 rfl (by decide) ?_
        exact hret _ _ _ _ dX5_firstFault_85 (by exact ⟨rfl, Or.inr ⟨rfl, fun j g0 g1 => h4 j g0 (by omega)⟩⟩)
      · skip
        refine j_aload_n (q := 15) F dX5_firstFault_14 rfl rfl 0 rfl ?_
        refine j_getR (q := 18) (z := 80) (index := 20) F tx79 rfl in_X5_firstFault_5 1 (by decide) rfl fl_X5_firstFault_20 dX5_firstFault_15 rfl ?_
        refine j_iload_n (q := 19) F dX5_firstFault_18 rfl rfl 3 rfl ?_
        have hch := ht k h0 (by omega)
        refine j_callVE (q := 22) F [vI k] (ct_X2_get_in l X hX M 80 100 81 (rw80) (by decide) rfl k (by omega) (by omega)) gX5_firstFault_X2_get rfl cd_X2_get ⟨by first | exact Nat.le_of_ble_eq_true rfl | (simp only [rm]; omega) | (simp [rm, vI, vR, Value.category]; omega), by first | exact Nat.le_of_ble_eq_true rfl | (simp only [rm]; omega) | (simp [rm, vI, vR, Value.category]; omega), by first | exact Nat.le_of_ble_eq_true rfl | (simp only [rm]; omega) | (simp [rm, vI, vR, Value.category]; omega), by first | exact Nat.le_of_ble_eq_true rfl | (simp only [rm]; omega) | (simp [rm, vI, vR, Value.category]; omega)⟩ (rw80).1 rfl rfl rfl (Nat.le_of_ble_eq_true rfl) dX5_firstFault_19 rfl ?_
        refine j_bipush (q := 24) F dX5_firstFault_22 rfl (by decide) ?_
        refine j_icmp_ne (q := 27) (tgt := 48) F dX5_firstFault_24 (by decide) rfl ⟨by omega, by omega⟩ ⟨by decide, by decide⟩ (fun h24_3 => ?_) (fun h24_3 => ?_)
        · skip
          refine j_iload_n (q := 49) F dX5_firstFault_48 rfl rfl 1 rfl ?_
          refine j_iload_n (q := 50) F dX5_firstFault_49 rfl rfl 2 rfl ?_
          refine j_if_ne (q := 53) (tgt := 57) F dX5_firstFault_50 (by decide) rfl ⟨by omega, by omega⟩ (fun h50_4 => ?_) (fun h50_4 => ?_)
          · skip
            refine j_iconst (q := 58) F dX5_firstFault_57 rfl ?_
            refine j_iadd (q := 59) (z := words + 0) F dX5_firstFault_58 rfl rfl ?_
            refine j_istore_n (q := 60) (lv' := [(0, vR X 79), (1, vI (words + 0)), (2, vI run), (3, vI k)]) F dX5_firstFault_59 rfl rfl (by decide) rfl rfl ?_
            refine j_iinc (q := 63) (lv' := [(0, vR X 79), (1, vI (words + 0)), (2, vI (run + 1)), (3, vI k)]) F dX5_firstFault_60 rfl 2 rfl (by decide) rfl rfl ?_
            refine j_iload_n (q := 64) F dX5_firstFault_63 rfl rfl 2 rfl ?_
            refine j_bipush (q := 66) F dX5_firstFault_64 rfl (by decide) ?_
            refine j_icmp_gt (q := 69) (tgt := 75) F dX5_firstFault_66 (by decide) rfl ⟨by omega, by omega⟩ ⟨by decide, by decide⟩ (fun h66_5 => ?_) (fun h66_5 => ?_)
            · skip
              refine j_iload_n (q := 76) F dX5_firstFault_75 rfl rfl 3 rfl ?_
              exact hret _ _ _ _ dX5_firstFault_76 (by refine ⟨rfl, Or.inl ⟨h0, by omega, ?_, h4⟩⟩; unfold badT; rw [twd_s _ h0]; split <;> omega)
            · skip
              refine j_iload_n (q := 70) F dX5_firstFault_69 rfl rfl 1 rfl ?_
              refine j_bipush (q := 72) F dX5_firstFault_70 rfl (by decide) ?_
              refine j_icmp_le (q := 75) (tgt := 77) F dX5_firstFault_72 (by decide) rfl ⟨by omega, by omega⟩ ⟨by decide, by decide⟩ (fun h72_6 => ?_) (fun h72_6 => ?_)
              · skip
                refine j_iinc (q := 80) (lv' := [(0, vR X 79), (1, vI (words + 0)), (2, vI (run + 1)), (3, vI (k + 1))]) F dX5_firstFault_77 rfl 3 rfl (by decide) rfl rfl ?_
                refine j_goto (q := 6) F dX5_firstFault_80 (by decide) ?_
                refine ih6 (words + 0) (run + 1) (k + 1) (by omega) (by omega) (by rw [twd_s _ h0]; split <;> omega) (by rw [trn_s _ h0]; split <;> omega) ?_ (by omega) (by omega)
                · intro j g0 g1; by_cases hj : j = k
                  · subst hj; unfold badT; rw [twd_s _ h0]; split <;> omega
                  · exact h4 j g0 (by omega)
              · skip
                refine j_iload_n (q := 76) F dX5_firstFault_75 rfl rfl 3 rfl ?_
                exact hret _ _ _ _ dX5_firstFault_76 (by refine ⟨rfl, Or.inl ⟨h0, by omega, ?_, h4⟩⟩; unfold badT; rw [twd_s _ h0]; split <;> omega)
          · skip
            refine j_iconst (q := 54) F dX5_firstFault_53 rfl ?_
            refine j_goto (q := 58) F dX5_firstFault_54 (by decide) ?_
            refine j_iadd (q := 59) (z := words + 1) F dX5_firstFault_58 rfl rfl ?_
            refine j_istore_n (q := 60) (lv' := [(0, vR X 79), (1, vI (words + 1)), (2, vI run), (3, vI k)]) F dX5_firstFault_59 rfl rfl (by decide) rfl rfl ?_
            refine j_iinc (q := 63) (lv' := [(0, vR X 79), (1, vI (words + 1)), (2, vI (run + 1)), (3, vI k)]) F dX5_firstFault_60 rfl 2 rfl (by decide) rfl rfl ?_
            refine j_iload_n (q := 64) F dX5_firstFault_63 rfl rfl 2 rfl ?_
            refine j_bipush (q := 66) F dX5_firstFault_64 rfl (by decide) ?_
            refine j_icmp_gt (q := 69) (tgt := 75) F dX5_firstFault_66 (by decide) rfl ⟨by omega, by omega⟩ ⟨by decide, by decide⟩ (fun h66_7 => ?_) (fun h66_7 => ?_)
            · skip
              refine j_iload_n (q := 76) F dX5_firstFault_75 rfl rfl 3 rfl ?_
              exact hret _ _ _ _ dX5_firstFault_76 (by refine ⟨rfl, Or.inl ⟨h0, by omega, ?_, h4⟩⟩; unfold badT; rw [twd_s _ h0]; split <;> omega)
            · skip
              refine j_iload_n (q := 70) F dX5_firstFault_69 rfl rfl 1 rfl ?_
              refine j_bipush (q := 72) F dX5_firstFault_70 rfl (by decide) ?_
              refine j_icmp_le (q := 75) (tgt := 77) F dX5_firstFault_72 (by decide) rfl ⟨by omega, by omega⟩ ⟨by decide, by decide⟩ (fun h72_8 => ?_) (fun h72_8 => ?_)
              · skip
                refine j_iinc (q := 80) (lv' := [(0, vR X 79), (1, vI (words + 1)), (2, vI (run + 1)), (3, vI (k + 1))]) F dX5_firstFault_77 rfl 3 rfl (by decide) rfl rfl ?_
                refine j_goto (q := 6) F dX5_firstFault_80 (by decide) ?_
                refine ih6 (words + 1) (run + 1) (k + 1) (by omega) (by omega) (by rw [twd_s _ h0]; split <;> omega) (by rw [trn_s _ h0]; split <;> omega) ?_ (by omega) (by omega)
                · intro j g0 g1; by_cases hj : j = k
                  · subst hj; unfold badT; rw [twd_s _ h0]; split <;> omega
                  · exact h4 j g0 (by omega)
              · skip
                refine j_iload_n (q := 76) F dX5_firstFault_75 rfl rfl 3 rfl ?_
                exact hret _ _ _ _ dX5_firstFault_76 (by refine ⟨rfl, Or.inl ⟨h0, by omega, ?_, h4⟩⟩; unfold badT; rw [twd_s _ h0]; split <;> omega)
        · skip
          refine j_iload_n (q := 28) F dX5_firstFault_27 rfl rfl 2 rfl ?_
          refine j_if_eq (q := 31) (tgt := 41) F dX5_firstFault_28 (by decide) rfl ⟨by omega, by omega⟩ (fun h28_9 => ?_) (fun h28_9 => ?_)
          · skip
            refine j_iload_n (q := 42) F dX5_firstFault_41 rfl rfl 3 rfl ?_
            exact hret _ _ _ _ dX5_firstFault_42 (by refine ⟨rfl, Or.inl ⟨h0, by omega, ?_, h4⟩⟩; unfold badT; rw [twd_s _ h0]; split <;> omega)
          · skip
            refine j_iload_n (q := 32) F dX5_firstFault_31 rfl rfl 3 rfl ?_
            refine j_aload_n (q := 33) F dX5_firstFault_32 rfl rfl 0 rfl ?_
            refine j_getI (q := 36) (i := 0) (index := 9) F tx79 rfl in_X5_firstFault_5 0 (by decide) rfl rfl fl_X5_firstFault_9 dX5_firstFault_33 rfl ?_
            refine j_iconst (q := 37) F dX5_firstFault_36 rfl ?_
            refine j_isub (q := 38) (z := (M 79 0) - 1) F dX5_firstFault_37 rfl rfl ?_
            refine j_icmp_ne (q := 41) (tgt := 43) F dX5_firstFault_38 (by decide) rfl ⟨by omega, by omega⟩ ⟨by omega, by omega⟩ (fun h38_10 => ?_) (fun h38_10 => ?_)
            · skip
              refine j_iconst (q := 44) F dX5_firstFault_43 rfl ?_
              refine j_istore_n (q := 45) (lv' := [(0, vR X 79), (1, vI words), (2, vI 0), (3, vI k)]) F dX5_firstFault_44 rfl rfl (by decide) rfl rfl ?_
              refine j_goto (q := 77) F dX5_firstFault_45 (by decide) ?_
              refine j_iinc (q := 80) (lv' := [(0, vR X 79), (1, vI words), (2, vI 0), (3, vI (k + 1))]) F dX5_firstFault_77 rfl 3 rfl (by decide) rfl rfl ?_
              refine j_goto (q := 6) F dX5_firstFault_80 (by decide) ?_
              refine ih6 words 0 (k + 1) (by omega) (by omega) (by rw [twd_s _ h0]; split <;> omega) (by rw [trn_s _ h0]; split <;> omega) ?_ (by omega) (by omega)
              · intro j g0 g1; by_cases hj : j = k
                · subst hj; unfold badT; rw [twd_s _ h0]; split <;> omega
                · exact h4 j g0 (by omega)
            · skip
              refine j_iload_n (q := 42) F dX5_firstFault_41 rfl rfl 3 rfl ?_
              exact hret _ _ _ _ dX5_firstFault_42 (by refine ⟨rfl, Or.inl ⟨h0, by omega, ?_, h4⟩⟩; unfold badT; rw [twd_s _ h0]; split <;> omega)
  exact LP6 _ 0 0 0 (by omega) (by omega) (by exact (twd_0 _).symm) (by exact (trn_0 _).symm) (by intro j g0 g1; omega) (by omega) (by exact Nat.lt_succ_self _)
theorem cd_X1_append : yX1_append.cls = RX1 ∧ yX1_append.cls ≠ "java/lang/invoke/MethodHandle" ∧ yX1_append.cls ≠ "java/lang/invoke/VarHandle" ∧ (parseMethodDescriptor yX1_append.desc).map (fun d => d.parameters.length) = some 1 := by decide +kernel
theorem cd_X1_removeAll : yX1_removeAll.cls = RX1 ∧ yX1_removeAll.cls ≠ "java/lang/invoke/MethodHandle" ∧ yX1_removeAll.cls ≠ "java/lang/invoke/VarHandle" ∧ (parseMethodDescriptor yX1_removeAll.desc).map (fun d => d.parameters.length) = some 0 := by decide +kernel
theorem fl_X5_giveWords_20 : Cond.fieldLink RX5 20 "WhiteRivers$Text" "characters" "LWhiteRivers$Row;" ∈ wsX5_giveWords := by decide +kernel
theorem fl_X5_giveWords_9 : Cond.fieldLink RX5 9 "WhiteRivers$Text" "length" "I" ∈ wsX5_giveWords := by decide +kernel
theorem in_X5_giveWords_5 : ∀ w ∈ u_ws RX5 TX5 2, w ∈ wsX5_giveWords := by decide +kernel
set_option maxRecDepth 100000 in
set_option maxHeartbeats 400000 in
theorem ct_X5_giveWords (l : Launch) (X : Cx) (hX : Inj X) (M : Mem) (hl : 0 ≤ M 79 0 ∧ M 79 0 ≤ 100) (ht : ∀ j, 0 ≤ j → j < 100 → 0 ≤ M 81 j ∧ M 81 j ≤ 126) (hno : ∀ j, 0 ≤ j → j < M 79 0 → ¬ badT (M 81) (M 79 0) j) (c : Nat) (hc : isPage c) (hc7 : c + 7 ≤ 79) (hb : ∀ w, 0 ≤ w → w < 24 → 0 ≤ M (c + 2) w ∧ M (c + 2) w ≤ 8) : CtV l X yX5_giveWords wsX5_giveWords 2 [vR X 79, vR X c] M (fun M' => GWend M M' c (M 81) (M 79 0)) := by
  refine CtV_of (cc := cX5_giveWords) (maxL := 4) hX (by decide +kernel) rfl (Nat.le_of_ble_eq_true rfl) ?_
  intro zp ze zs zm zargs zbelow zmeth zc zQ F hret
  show J zp l ze (rm 2) zs zm zargs zbelow zmeth zc 0 0 zQ zs.heap X 4 M 0 [(0, vR X 79), (1, vR X c)] []
  refine j_aload_n (q := 1) F dX5_giveWords_0 rfl rfl 1 rfl ?_
  refine j_callVM (q := 4) F [] (ct_X1_removeAll l X hX M c (hc)) gX5_giveWords_X1_removeAll rfl cd_X1_removeAll ⟨by first | exact Nat.le_of_ble_eq_true rfl | (simp only [rm]; omega) | (simp [rm, vI, vR, Value.category]; omega), by first | exact Nat.le_of_ble_eq_true rfl | (simp only [rm]; omega) | (simp [rm, vI, vR, Value.category]; omega), by first | exact Nat.le_of_ble_eq_true rfl | (simp only [rm]; omega) | (simp [rm, vI, vR, Value.category]; omega), by first | exact Nat.le_of_ble_eq_true rfl | (simp only [rm]; omega) | (simp [rm, vI, vR, Value.category]; omega)⟩ (hc).1 rfl rfl rfl (Nat.le_of_ble_eq_true rfl) dX5_giveWords_1 rfl ?_
  refine j_iconst (q := 5) F dX5_giveWords_4 rfl ?_
  refine j_istore_n (q := 6) (lv' := [(0, vR X 79), (1, vR X c), (2, vI 0)]) F dX5_giveWords_5 rfl rfl (by decide) rfl rfl ?_
  refine j_iconst (q := 7) F dX5_giveWords_6 rfl ?_
  refine j_istore_n (q := 8) (lv' := [(0, vR X 79), (1, vR X c), (2, vI 0), (3, vI 0)]) F dX5_giveWords_7 rfl rfl (by decide) rfl rfl ?_
  have LP8 : ∀ (nn : Nat) (run k : Int) (Mq : Mem), (0 ≤ k) → (k ≤ M 79 0) → (GW M Mq c (M 81) k run) → (M 79 0 - k).toNat < nn → J zp l ze (rm 2) zs zm zargs zbelow zmeth zc 0 0 zQ zs.heap X 4 Mq 8 [(0, vR X 79), (1, vR X c), (2, vI run), (3, vI k)] [] := by
    intro nn
    induction nn with
    | zero => intro run k Mq h0 h1 hG hm8; exact absurd hm8 (Nat.not_lt_zero _)
    | succ nn ih8 =>
      intro run k Mq h0 h1 hG hm8
      have e79 : Mq 79 = M 79 := hG.2.2.2.1 79 (by omega) (by omega) (by omega) (by omega)
      have e81 : Mq 81 = M 81 := hG.2.2.2.1 81 (by omega) (by omega) (by omega) (by omega)
      have hbd := noBad_bd hno h0 h1
      have hnn := trn_nn (M 81) h0
      have hrun := hG.1
      have hN := hG.2.1
      have hnb : k < M 79 0 → ¬ badT (M 81) (M 79 0) k := hno k h0
      have hch : k < M 79 0 → 0 ≤ M 81 k ∧ M 81 k ≤ 126 := fun z => ht k h0 (by omega)
      have hN24 : 0 < run → Mq c 2 < 24 ∧ 0 ≤ Mq c 2 := fun z => by rw [if_pos z] at hN; omega
      refine j_iload_n (q := 9) F dX5_giveWords_8 rfl rfl 3 rfl ?_
      refine j_aload_n (q := 10) F dX5_giveWords_9 rfl rfl 0 rfl ?_
      refine j_getI (q := 13) (i := 0) (index := 9) F tx79 rfl in_X5_giveWords_5 0 (by decide) rfl rfl fl_X5_giveWords_9 dX5_giveWords_10 rfl ?_
      rw [show Mq 79 0 = M 79 0 from by rw [e79]]
      refine j_icmp_ge (q := 16) (tgt := 48) F dX5_giveWords_13 (by decide) rfl ⟨by omega, by omega⟩ ⟨by omega, by omega⟩ (fun h13_2 => ?_) (fun h13_2 => ?_)
      · skip
        refine j_iload_n (q := 49) F dX5_giveWords_48 rfl rfl 2 rfl ?_
        refine j_if_le (q := 52) (tgt := 57) F dX5_giveWords_49 (by decide) rfl ⟨by omega, by omega⟩ (fun h49_3 => ?_) (fun h49_3 => ?_)
        · skip
          exact hret _ _ _ dX5_giveWords_57 (by exact (show k = M 79 0 by omega) ▸ GW.end0 hG (by omega))
        · skip
          refine j_aload_n (q := 53) F dX5_giveWords_52 rfl rfl 1 rfl ?_
          refine j_iload_n (q := 54) F dX5_giveWords_53 rfl rfl 2 rfl ?_
          have hN24 := hN24 (by omega)
          refine j_callVM (q := 57) F [vI run] (ct_X1_append l X hX Mq c (hc) (by omega) run) gX5_giveWords_X1_append rfl cd_X1_append ⟨by first | exact Nat.le_of_ble_eq_true rfl | (simp only [rm]; omega) | (simp [rm, vI, vR, Value.category]; omega), by first | exact Nat.le_of_ble_eq_true rfl | (simp only [rm]; omega) | (simp [rm, vI, vR, Value.category]; omega), by first | exact Nat.le_of_ble_eq_true rfl | (simp only [rm]; omega) | (simp [rm, vI, vR, Value.category]; omega), by first | exact Nat.le_of_ble_eq_true rfl | (simp only [rm]; omega) | (simp [rm, vI, vR, Value.category]; omega)⟩ (hc).1 rfl rfl rfl (Nat.le_of_ble_eq_true rfl) dX5_giveWords_54 rfl ?_
          exact hret _ _ _ dX5_giveWords_57 (by exact (show k = M 79 0 by omega) ▸ GW.end1 hG h0 (by omega) (by omega) (by omega))
      · skip
        refine j_aload_n (q := 17) F dX5_giveWords_16 rfl rfl 0 rfl ?_
        refine j_getR (q := 20) (z := 80) (index := 20) F tx79 rfl in_X5_giveWords_5 1 (by decide) rfl fl_X5_giveWords_20 dX5_giveWords_17 rfl ?_
        refine j_iload_n (q := 21) F dX5_giveWords_20 rfl rfl 3 rfl ?_
        refine j_callVE (q := 24) F [vI k] (ct_X2_get_in l X hX Mq 80 100 81 (rw80) (by decide) rfl k (by omega) (by omega)) gX5_giveWords_X2_get rfl cd_X2_get ⟨by first | exact Nat.le_of_ble_eq_true rfl | (simp only [rm]; omega) | (simp [rm, vI, vR, Value.category]; omega), by first | exact Nat.le_of_ble_eq_true rfl | (simp only [rm]; omega) | (simp [rm, vI, vR, Value.category]; omega), by first | exact Nat.le_of_ble_eq_true rfl | (simp only [rm]; omega) | (simp [rm, vI, vR, Value.category]; omega), by first | exact Nat.le_of_ble_eq_true rfl | (simp only [rm]; omega) | (simp [rm, vI, vR, Value.category]; omega)⟩ (rw80).1 rfl rfl rfl (Nat.le_of_ble_eq_true rfl) dX5_giveWords_21 rfl ?_
        rw [e81]
        refine j_bipush (q := 26) F dX5_giveWords_24 rfl (by decide) ?_
        refine j_icmp_eq (q := 29) (tgt := 35) F dX5_giveWords_26 (by decide) rfl ⟨by omega, by omega⟩ ⟨by decide, by decide⟩ (fun h26_6 => ?_) (fun h26_6 => ?_)
        · skip
          refine j_aload_n (q := 36) F dX5_giveWords_35 rfl rfl 1 rfl ?_
          refine j_iload_n (q := 37) F dX5_giveWords_36 rfl rfl 2 rfl ?_
          have hr0 : 0 < run := by have := hnb (by omega); unfold badT at this; omega
          have hN24 := hN24 hr0
          refine j_callVM (q := 40) F [vI run] (ct_X1_append l X hX Mq c (hc) (by omega) run) gX5_giveWords_X1_append rfl cd_X1_append ⟨by first | exact Nat.le_of_ble_eq_true rfl | (simp only [rm]; omega) | (simp [rm, vI, vR, Value.category]; omega), by first | exact Nat.le_of_ble_eq_true rfl | (simp only [rm]; omega) | (simp [rm, vI, vR, Value.category]; omega), by first | exact Nat.le_of_ble_eq_true rfl | (simp only [rm]; omega) | (simp [rm, vI, vR, Value.category]; omega), by first | exact Nat.le_of_ble_eq_true rfl | (simp only [rm]; omega) | (simp [rm, vI, vR, Value.category]; omega)⟩ (hc).1 rfl rfl rfl (Nat.le_of_ble_eq_true rfl) dX5_giveWords_37 rfl ?_
          refine j_iconst (q := 41) F dX5_giveWords_40 rfl ?_
          refine j_istore_n (q := 42) (lv' := [(0, vR X 79), (1, vR X c), (2, vI 0), (3, vI k)]) F dX5_giveWords_41 rfl rfl (by decide) rfl rfl ?_
          refine j_iinc (q := 45) (lv' := [(0, vR X 79), (1, vR X c), (2, vI 0), (3, vI (k + 1))]) F dX5_giveWords_42 rfl 3 rfl (by decide) rfl rfl ?_
          refine j_goto (q := 8) F dX5_giveWords_45 (by decide) ?_
          exact ih8 0 (k + 1) (mset (mset Mq (c + 2) (Mq c 2) run) c 2 (Mq c 2 + 1)) (by omega) (by omega) (by exact hG.blank h0 (by assumption) (by omega) (by omega) (by omega)) (by omega)
        · skip
          refine j_iinc (q := 32) (lv' := [(0, vR X 79), (1, vR X c), (2, vI (run + 1)), (3, vI k)]) F dX5_giveWords_29 rfl 2 rfl (by decide) rfl rfl ?_
          refine j_goto (q := 42) F dX5_giveWords_32 (by decide) ?_
          refine j_iinc (q := 45) (lv' := [(0, vR X 79), (1, vR X c), (2, vI (run + 1)), (3, vI (k + 1))]) F dX5_giveWords_42 rfl 3 rfl (by decide) rfl rfl ?_
          refine j_goto (q := 8) F dX5_giveWords_45 (by decide) ?_
          exact ih8 (run + 1) (k + 1) Mq (by omega) (by omega) (by exact hG.char h0 (by assumption)) (by omega)
  exact LP8 _ 0 0 (mclr (mclr (mset M c 2 0) (c + 4) 24) (c + 6) 24) (by omega) (by omega) (by exact GW.start M c _ hb) (by exact Nat.lt_succ_self _)
