theorem fl_X7_fault_118 : Cond.fieldLink RX7 118 "WhiteRiversModel" "typed" "I" ∈ wsX7_fault := by decide +kernel
theorem fl_X7_fault_16 : Cond.fieldLink RX7 16 "WhiteRiversModel" "text" "[C" ∈ wsX7_fault := by decide +kernel
theorem in_X7_fault_7 : ∀ w ∈ u_ws RX7 TX7 19, w ∈ wsX7_fault := by decide +kernel
set_option maxRecDepth 100000 in
set_option maxHeartbeats 400000 in
theorem ct_X7_fault (l : Launch) (X : Cx) (hX : Inj X) (M : Mem) (hty : 0 ≤ M 82 4 ∧ M 82 4 ≤ 100) (htx : ∀ j, 0 ≤ j → j < 100 → 0 ≤ M 85 j ∧ M 85 j ≤ 126) : CtI l X yX7_fault wsX7_fault 0 [vR X 82] M (fun x M' => M' = M ∧ FltP (M 85) (M 82 4) x) := by
  refine CtI_of (cc := cX7_fault) (maxL := 5) hX (by decide +kernel) rfl (Nat.le_of_ble_eq_true rfl) ?_
  intro zp ze zs zm zargs zbelow zmeth zc zQ F hret
  show J zp l ze (rm 0) zs zm zargs zbelow zmeth zc 0 0 zQ zs.heap X 5 M 0 [(0, vR X 82)] []
  refine j_iconst (q := 1) F dX7_fault_0 rfl ?_
  refine j_istore_n (q := 2) (lv' := [(0, vR X 82), (1, vI 0)]) F dX7_fault_1 rfl rfl (by decide) rfl rfl ?_
  refine j_iconst (q := 3) F dX7_fault_2 rfl ?_
  refine j_istore_n (q := 4) (lv' := [(0, vR X 82), (1, vI 0), (2, vI 0)]) F dX7_fault_3 rfl rfl (by decide) rfl rfl ?_
  refine j_iconst (q := 5) F dX7_fault_4 rfl ?_
  refine j_istore_n (q := 6) (lv' := [(0, vR X 82), (1, vI 0), (2, vI 0), (3, vI 0)]) F dX7_fault_5 rfl rfl (by decide) rfl rfl ?_
  have LP6 : ∀ (nn : Nat) (words run k : Int), (0 ≤ k) → (k ≤ M 82 4) → (words = twd (M 85) k) → (run = trn (M 85) k) → (∀ j, 0 ≤ j → j < k → ¬ badT (M 85) (M 82 4) j) → (0 ≤ words ∧ words ≤ 24 ∧ 0 ≤ run ∧ run ≤ 8) → (M 82 4 - k).toNat < nn → J zp l ze (rm 0) zs zm zargs zbelow zmeth zc 0 0 zQ zs.heap X 5 M 6 [(0, vR X 82), (1, vI words), (2, vI run), (3, vI k)] [] := by
    intro nn
    induction nn with
    | zero => intro words run k h0 h1 h2 h3 h4 h5 hm6; exact absurd hm6 (Nat.not_lt_zero _)
    | succ nn ih6 =>
      intro words run k h0 h1 h2 h3 h4 h5 hm6
      refine j_iload_n (q := 7) F dX7_fault_6 rfl rfl 3 rfl ?_
      refine j_aload_n (q := 8) F dX7_fault_7 rfl rfl 0 rfl ?_
      refine j_getI (q := 11) (i := 4) (index := 118) F md82 rfl in_X7_fault_7 4 (by decide) rfl rfl fl_X7_fault_118 dX7_fault_8 rfl ?_
      refine j_icmp_ge (q := 14) (tgt := 103) F dX7_fault_11 (by decide) rfl ⟨by omega, by omega⟩ ⟨by omega, by omega⟩ (fun h11_1 => ?_) (fun h11_1 => ?_)
      · skip
        refine j_bipush (q := 105) F dX7_fault_103 rfl (by decide) ?_
        exact hret _ _ _ _ dX7_fault_105 (by exact ⟨rfl, Or.inr ⟨rfl, fun j g0 g1 => h4 j g0 (by omega)⟩⟩)
      · skip
        have hch := htx k h0 (by omega)
        refine j_aload_n (q := 15) F dX7_fault_14 rfl rfl 0 rfl ?_
        refine j_getR (q := 18) (z := 85) (index := 16) F md82 rfl in_X7_fault_7 3 (by decide) rfl fl_X7_fault_16 dX7_fault_15 rfl ?_
        refine j_iload_n (q := 19) F dX7_fault_18 rfl rfl 3 rfl ?_
        refine j_cald (q := 20) F ar85 (by omega) (by omega) (by decide) dX7_fault_19 rfl ?_
        refine j_bipush (q := 22) F dX7_fault_20 rfl (by decide) ?_
        refine j_icmp_ne (q := 25) (tgt := 29) F dX7_fault_22 (by decide) rfl ⟨by omega, by omega⟩ ⟨by decide, by decide⟩ (fun h22_2 => ?_) (fun h22_2 => ?_)
        · skip
          refine j_iconst (q := 30) F dX7_fault_29 rfl ?_
          refine j_istore (q := 32) (lv' := [(0, vR X 82), (1, vI words), (2, vI run), (3, vI k), (4, vI 0)]) F dX7_fault_30 rfl (by decide) rfl rfl ?_
          refine j_iload (q := 34) F dX7_fault_32 rfl 4 rfl ?_
          refine j_if_eq (q := 37) (tgt := 53) F dX7_fault_34 (by decide) rfl ⟨by decide, by decide⟩ (fun _ => ?_) (fun h => absurd h (by decide))
          refine j_iload_n (q := 54) F dX7_fault_53 rfl rfl 1 rfl ?_
          refine j_iload (q := 56) F dX7_fault_54 rfl 4 rfl ?_
          refine j_if_ne (q := 59) (tgt := 67) F dX7_fault_56 (by decide) rfl ⟨by decide, by decide⟩ (fun h => absurd h (by decide)) (fun _ => ?_)
          refine j_iload_n (q := 60) F dX7_fault_59 rfl rfl 2 rfl ?_
          refine j_if_ne (q := 63) (tgt := 67) F dX7_fault_60 (by decide) rfl ⟨by omega, by omega⟩ (fun h60_3 => ?_) (fun h60_3 => ?_)
          · skip
            refine j_iconst (q := 68) F dX7_fault_67 rfl ?_
            refine j_iadd (q := 69) (z := words + 0) F dX7_fault_68 rfl rfl ?_
            refine j_istore_n (q := 70) (lv' := [(0, vR X 82), (1, vI (words + 0)), (2, vI run), (3, vI k), (4, vI 0)]) F dX7_fault_69 rfl rfl (by decide) rfl rfl ?_
            refine j_iload (q := 72) F dX7_fault_70 rfl 4 rfl ?_
            refine j_if_eq (q := 75) (tgt := 79) F dX7_fault_72 (by decide) rfl ⟨by decide, by decide⟩ (fun _ => ?_) (fun h => absurd h (by decide))
            refine j_iload_n (q := 80) F dX7_fault_79 rfl rfl 2 rfl ?_
            refine j_iconst (q := 81) F dX7_fault_80 rfl ?_
            refine j_iadd (q := 82) (z := run + 1) F dX7_fault_81 rfl rfl ?_
            refine j_istore_n (q := 83) (lv' := [(0, vR X 82), (1, vI (words + 0)), (2, vI (run + 1)), (3, vI k), (4, vI 0)]) F dX7_fault_82 rfl rfl (by decide) rfl rfl ?_
            refine j_iload_n (q := 84) F dX7_fault_83 rfl rfl 2 rfl ?_
            refine j_bipush (q := 86) F dX7_fault_84 rfl (by decide) ?_
            refine j_icmp_gt (q := 89) (tgt := 95) F dX7_fault_86 (by decide) rfl ⟨by omega, by omega⟩ ⟨by decide, by decide⟩ (fun h86_4 => ?_) (fun h86_4 => ?_)
            · skip
              refine j_iload_n (q := 96) F dX7_fault_95 rfl rfl 3 rfl ?_
              exact hret _ _ _ _ dX7_fault_96 (by refine ⟨rfl, Or.inl ⟨h0, by omega, ?_, h4⟩⟩; unfold badT; rw [twd_s _ h0]; split <;> omega)
            · skip
              refine j_iload_n (q := 90) F dX7_fault_89 rfl rfl 1 rfl ?_
              refine j_bipush (q := 92) F dX7_fault_90 rfl (by decide) ?_
              refine j_icmp_le (q := 95) (tgt := 97) F dX7_fault_92 (by decide) rfl ⟨by omega, by omega⟩ ⟨by decide, by decide⟩ (fun h92_5 => ?_) (fun h92_5 => ?_)
              · skip
                refine j_iinc (q := 100) (lv' := [(0, vR X 82), (1, vI (words + 0)), (2, vI (run + 1)), (3, vI (k + 1)), (4, vI 0)]) F dX7_fault_97 rfl 3 rfl (by decide) rfl rfl ?_
                refine j_goto (q := 6) F dX7_fault_100 (by decide) ?_
                refine j_sub (lv' := [(0, vR X 82), (1, vI (words + 0)), (2, vI (run + 1)), (3, vI (k + 1))]) [0, 1, 2, 3] rfl ?_
                refine ih6 (words + 0) (run + 1) (k + 1) (by omega) (by omega) (by rw [twd_s _ h0]; split <;> omega) (by rw [trn_s _ h0]; split <;> omega) ?_ (by omega) (by omega)
                · intro j g0 g1; by_cases hj : j = k
                  · subst hj; unfold badT; rw [twd_s _ h0]; split <;> omega
                  · exact h4 j g0 (by omega)
              · skip
                refine j_iload_n (q := 96) F dX7_fault_95 rfl rfl 3 rfl ?_
                exact hret _ _ _ _ dX7_fault_96 (by refine ⟨rfl, Or.inl ⟨h0, by omega, ?_, h4⟩⟩; unfold badT; rw [twd_s _ h0]; split <;> omega)
          · skip
            refine j_iconst (q := 64) F dX7_fault_63 rfl ?_
            refine j_goto (q := 68) F dX7_fault_64 (by decide) ?_
            refine j_iadd (q := 69) (z := words + 1) F dX7_fault_68 rfl rfl ?_
            refine j_istore_n (q := 70) (lv' := [(0, vR X 82), (1, vI (words + 1)), (2, vI run), (3, vI k), (4, vI 0)]) F dX7_fault_69 rfl rfl (by decide) rfl rfl ?_
            refine j_iload (q := 72) F dX7_fault_70 rfl 4 rfl ?_
            refine j_if_eq (q := 75) (tgt := 79) F dX7_fault_72 (by decide) rfl ⟨by decide, by decide⟩ (fun _ => ?_) (fun h => absurd h (by decide))
            refine j_iload_n (q := 80) F dX7_fault_79 rfl rfl 2 rfl ?_
            refine j_iconst (q := 81) F dX7_fault_80 rfl ?_
            refine j_iadd (q := 82) (z := run + 1) F dX7_fault_81 rfl rfl ?_
            refine j_istore_n (q := 83) (lv' := [(0, vR X 82), (1, vI (words + 1)), (2, vI (run + 1)), (3, vI k), (4, vI 0)]) F dX7_fault_82 rfl rfl (by decide) rfl rfl ?_
            refine j_iload_n (q := 84) F dX7_fault_83 rfl rfl 2 rfl ?_
            refine j_bipush (q := 86) F dX7_fault_84 rfl (by decide) ?_
            refine j_icmp_gt (q := 89) (tgt := 95) F dX7_fault_86 (by decide) rfl ⟨by omega, by omega⟩ ⟨by decide, by decide⟩ (fun h86_6 => ?_) (fun h86_6 => ?_)
            · skip
              refine j_iload_n (q := 96) F dX7_fault_95 rfl rfl 3 rfl ?_
              exact hret _ _ _ _ dX7_fault_96 (by refine ⟨rfl, Or.inl ⟨h0, by omega, ?_, h4⟩⟩; unfold badT; rw [twd_s _ h0]; split <;> omega)
            · skip
              refine j_iload_n (q := 90) F dX7_fault_89 rfl rfl 1 rfl ?_
              refine j_bipush (q := 92) F dX7_fault_90 rfl (by decide) ?_
              refine j_icmp_le (q := 95) (tgt := 97) F dX7_fault_92 (by decide) rfl ⟨by omega, by omega⟩ ⟨by decide, by decide⟩ (fun h92_7 => ?_) (fun h92_7 => ?_)
              · skip
                refine j_iinc (q := 100) (lv' := [(0, vR X 82), (1, vI (words + 1)), (2, vI (run + 1)), (3, vI (k + 1)), (4, vI 0)]) F dX7_fault_97 rfl 3 rfl (by decide) rfl rfl ?_
                refine j_goto (q := 6) F dX7_fault_100 (by decide) ?_
                refine j_sub (lv' := [(0, vR X 82), (1, vI (words + 1)), (2, vI (run + 1)), (3, vI (k + 1))]) [0, 1, 2, 3] rfl ?_
                refine ih6 (words + 1) (run + 1) (k + 1) (by omega) (by omega) (by rw [twd_s _ h0]; split <;> omega) (by rw [trn_s _ h0]; split <;> omega) ?_ (by omega) (by omega)
                · intro j g0 g1; by_cases hj : j = k
                  · subst hj; unfold badT; rw [twd_s _ h0]; split <;> omega
                  · exact h4 j g0 (by omega)
              · skip
                refine j_iload_n (q := 96) F dX7_fault_95 rfl rfl 3 rfl ?_
                exact hret _ _ _ _ dX7_fault_96 (by refine ⟨rfl, Or.inl ⟨h0, by omega, ?_, h4⟩⟩; unfold badT; rw [twd_s _ h0]; split <;> omega)
        · skip
          refine j_iconst (q := 26) F dX7_fault_25 rfl ?_
          refine j_goto (q := 30) F dX7_fault_26 (by decide) ?_
          refine j_istore (q := 32) (lv' := [(0, vR X 82), (1, vI words), (2, vI run), (3, vI k), (4, vI 1)]) F dX7_fault_30 rfl (by decide) rfl rfl ?_
          refine j_iload (q := 34) F dX7_fault_32 rfl 4 rfl ?_
          refine j_if_eq (q := 37) (tgt := 53) F dX7_fault_34 (by decide) rfl ⟨by decide, by decide⟩ (fun h => absurd h (by decide)) (fun _ => ?_)
          refine j_iload_n (q := 38) F dX7_fault_37 rfl rfl 2 rfl ?_
          refine j_if_eq (q := 41) (tgt := 51) F dX7_fault_38 (by decide) rfl ⟨by omega, by omega⟩ (fun h38_8 => ?_) (fun h38_8 => ?_)
          · skip
            refine j_iload_n (q := 52) F dX7_fault_51 rfl rfl 3 rfl ?_
            exact hret _ _ _ _ dX7_fault_52 (by refine ⟨rfl, Or.inl ⟨h0, by omega, ?_, h4⟩⟩; unfold badT; rw [twd_s _ h0]; split <;> omega)
          · skip
            refine j_iload_n (q := 42) F dX7_fault_41 rfl rfl 3 rfl ?_
            refine j_iconst (q := 43) F dX7_fault_42 rfl ?_
            refine j_iadd (q := 44) (z := k + 1) F dX7_fault_43 rfl rfl ?_
            refine j_aload_n (q := 45) F dX7_fault_44 rfl rfl 0 rfl ?_
            refine j_getI (q := 48) (i := 4) (index := 118) F md82 rfl in_X7_fault_7 4 (by decide) rfl rfl fl_X7_fault_118 dX7_fault_45 rfl ?_
            refine j_icmp_ne (q := 51) (tgt := 53) F dX7_fault_48 (by decide) rfl ⟨by omega, by omega⟩ ⟨by omega, by omega⟩ (fun h48_9 => ?_) (fun h48_9 => ?_)
            · skip
              refine j_iload_n (q := 54) F dX7_fault_53 rfl rfl 1 rfl ?_
              refine j_iload (q := 56) F dX7_fault_54 rfl 4 rfl ?_
              refine j_if_ne (q := 59) (tgt := 67) F dX7_fault_56 (by decide) rfl ⟨by decide, by decide⟩ (fun _ => ?_) (fun h => absurd h (by decide))
              refine j_iconst (q := 68) F dX7_fault_67 rfl ?_
              refine j_iadd (q := 69) (z := words + 0) F dX7_fault_68 rfl rfl ?_
              refine j_istore_n (q := 70) (lv' := [(0, vR X 82), (1, vI (words + 0)), (2, vI run), (3, vI k), (4, vI 1)]) F dX7_fault_69 rfl rfl (by decide) rfl rfl ?_
              refine j_iload (q := 72) F dX7_fault_70 rfl 4 rfl ?_
              refine j_if_eq (q := 75) (tgt := 79) F dX7_fault_72 (by decide) rfl ⟨by decide, by decide⟩ (fun h => absurd h (by decide)) (fun _ => ?_)
              refine j_iconst (q := 76) F dX7_fault_75 rfl ?_
              refine j_goto (q := 82) F dX7_fault_76 (by decide) ?_
              refine j_istore_n (q := 83) (lv' := [(0, vR X 82), (1, vI (words + 0)), (2, vI 0), (3, vI k), (4, vI 1)]) F dX7_fault_82 rfl rfl (by decide) rfl rfl ?_
              refine j_iload_n (q := 84) F dX7_fault_83 rfl rfl 2 rfl ?_
              refine j_bipush (q := 86) F dX7_fault_84 rfl (by decide) ?_
              refine j_icmp_gt (q := 89) (tgt := 95) F dX7_fault_86 (by decide) rfl ⟨by decide, by decide⟩ ⟨by decide, by decide⟩ (fun h => absurd h (by decide)) (fun _ => ?_)
              refine j_iload_n (q := 90) F dX7_fault_89 rfl rfl 1 rfl ?_
              refine j_bipush (q := 92) F dX7_fault_90 rfl (by decide) ?_
              refine j_icmp_le (q := 95) (tgt := 97) F dX7_fault_92 (by decide) rfl ⟨by omega, by omega⟩ ⟨by decide, by decide⟩ (fun h92_10 => ?_) (fun h92_10 => ?_)
              · skip
                refine j_iinc (q := 100) (lv' := [(0, vR X 82), (1, vI (words + 0)), (2, vI 0), (3, vI (k + 1)), (4, vI 1)]) F dX7_fault_97 rfl 3 rfl (by decide) rfl rfl ?_
                refine j_goto (q := 6) F dX7_fault_100 (by decide) ?_
                refine j_sub (lv' := [(0, vR X 82), (1, vI (words + 0)), (2, vI 0), (3, vI (k + 1))]) [0, 1, 2, 3] rfl ?_
                refine ih6 (words + 0) 0 (k + 1) (by omega) (by omega) (by rw [twd_s _ h0]; split <;> omega) (by rw [trn_s _ h0]; split <;> omega) ?_ (by omega) (by omega)
                · intro j g0 g1; by_cases hj : j = k
                  · subst hj; unfold badT; rw [twd_s _ h0]; split <;> omega
                  · exact h4 j g0 (by omega)
              · skip
                refine j_iload_n (q := 96) F dX7_fault_95 rfl rfl 3 rfl ?_
                exact hret _ _ _ _ dX7_fault_96 (by refine ⟨rfl, Or.inl ⟨h0, by omega, ?_, h4⟩⟩; unfold badT; rw [twd_s _ h0]; split <;> omega)
            · skip
              refine j_iload_n (q := 52) F dX7_fault_51 rfl rfl 3 rfl ?_
              exact hret _ _ _ _ dX7_fault_52 (by refine ⟨rfl, Or.inl ⟨h0, by omega, ?_, h4⟩⟩; unfold badT; rw [twd_s _ h0]; split <;> omega)
  exact LP6 _ 0 0 0 (by omega) (by omega) (by exact (twd_0 _).symm) (by exact (trn_0 _).symm) (by intro j g0 g1; omega) (by omega) (by exact Nat.lt_succ_self _)
theorem cd_X7_fault : yX7_fault.cls = RX7 ∧ yX7_fault.cls ≠ "java/lang/invoke/MethodHandle" ∧ yX7_fault.cls ≠ "java/lang/invoke/VarHandle" ∧ (parseMethodDescriptor yX7_fault.desc).map (fun d => d.parameters.length) = some 0 := by decide +kernel
theorem fl_X7_read_118 : Cond.fieldLink RX7 118 "WhiteRiversModel" "typed" "I" ∈ wsX7_read := by decide +kernel
theorem fl_X7_read_16 : Cond.fieldLink RX7 16 "WhiteRiversModel" "text" "[C" ∈ wsX7_read := by decide +kernel
theorem fl_X7_read_7 : Cond.fieldLink RX7 7 "WhiteRiversModel" "d" "[I" ∈ wsX7_read := by decide +kernel
theorem in_X7_read_7 : ∀ w ∈ u_ws RX7 TX7 19, w ∈ wsX7_read := by decide +kernel
set_option maxRecDepth 100000 in
set_option maxHeartbeats 1000000 in
theorem ct_X7_read (l : Launch) (X : Cx) (hX : Inj X) (M : Mem) (hD : DOK (M 83)) (hst : 0 ≤ M 82 2 ∧ M 82 2 ≤ 5) (hty : 0 ≤ M 82 4 ∧ M 82 4 ≤ 100) (htx : ∀ j, 0 ≤ j → j < 100 → 0 ≤ M 85 j ∧ M 85 j ≤ 126) : CtI l X yX7_read wsX7_read 4 [vR X 82] M (fun r M' => MPO M (Oread M) r M') := by
  refine CtI_of (cc := cX7_read) (maxL := 3) hX (by decide +kernel) rfl (Nat.le_of_ble_eq_true rfl) ?_
  intro zp ze zs zm zargs zbelow zmeth zc zQ F hret
  show J zp l ze (rm 4) zs zm zargs zbelow zmeth zc 0 0 zQ zs.heap X 3 M 0 [(0, vR X 82)] []
  have hw := hD.w
  have hnn := hD.1
  have hww := hD.2.1
  have hlen := hw.2.2
  have hL24 := hD.L24
  have hss := hD.2.2.1
  have hdb := @DOK.bd _ hD
  refine j_aload_n (q := 1) F dX7_read_0 rfl rfl 0 rfl ?_
  refine j_callVP (q := 4) F [] (ct_X7_fault l X hX M hty htx) gX7_read_X7_fault rfl cd_X7_fault ⟨by first | exact Nat.le_of_ble_eq_true rfl | (simp only [rm]; omega) | (simp [rm, vI, vR, Value.category]; omega), by first | exact Nat.le_of_ble_eq_true rfl | (simp only [rm]; omega) | (simp [rm, vI, vR, Value.category]; omega), by first | exact Nat.le_of_ble_eq_true rfl | (simp only [rm]; omega) | (simp [rm, vI, vR, Value.category]; omega), by first | exact Nat.le_of_ble_eq_true rfl | (simp only [rm]; omega) | (simp [rm, vI, vR, Value.category]; omega)⟩ md82 rfl rfl rfl (Nat.le_of_ble_eq_true rfl) dX7_read_1 rfl (fun x hx => ?_)
  have hxb : -4 ≤ x ∧ x ≤ 100 := by rcases hx with ⟨z1, z2, -⟩ | ⟨z1, -⟩ <;> omega
  refine j_bipush (q := 6) F dX7_read_4 rfl (by decide) ?_
  refine j_icmp_eq (q := 9) (tgt := 12) F dX7_read_6 (by decide) rfl ⟨by omega, by omega⟩ ⟨by decide, by decide⟩ (fun h6_2 => ?_) (fun h6_2 => ?_)
  · skip
    refine j_aload_n (q := 13) F dX7_read_12 rfl rfl 0 rfl ?_
    refine j_callVV (q := 16) F [] (ct_X7_records l X hX M (by omega)) gX7_read_X7_records rfl cd_X7_records ⟨by first | exact Nat.le_of_ble_eq_true rfl | (simp only [rm]; omega) | (simp [rm, vI, vR, Value.category]; omega), by first | exact Nat.le_of_ble_eq_true rfl | (simp only [rm]; omega) | (simp [rm, vI, vR, Value.category]; omega), by first | exact Nat.le_of_ble_eq_true rfl | (simp only [rm]; omega) | (simp [rm, vI, vR, Value.category]; omega), by first | exact Nat.le_of_ble_eq_true rfl | (simp only [rm]; omega) | (simp [rm, vI, vR, Value.category]; omega)⟩ md82 rfl rfl rfl (Nat.le_of_ble_eq_true rfl) dX7_read_13 rfl (fun Mr hr => ?_)
    have r83 : Mr 83 = M 83 := hr.2.1 83 (by decide) (by decide)
    have r0 : Mr 83 0 = M 83 0 := by rw [r83]
    have r1 : Mr 83 1 = M 83 1 := by rw [r83]
    have r2 : Mr 83 2 = M 83 2 := by rw [r83]
    have r3 : Mr 83 3 = M 83 3 := by rw [r83]
    have hno : ∀ j, 0 ≤ j → j < M 82 4 → ¬ badT (M 85) (M 82 4) j := by
      rcases hx with ⟨z1, -⟩ | ⟨-, z⟩
      · omega
      · exact z
    have e4 : Mr 82 4 = M 82 4 := hr.2.2 4 (by decide)
    have e85 : Mr 85 = M 85 := hr.2.1 85 (by decide) (by decide)
    refine j_aload_n (q := 17) F dX7_read_16 rfl rfl 0 rfl ?_
    refine j_getR (q := 20) (z := 83) (index := 7) F md82 rfl in_X7_read_7 0 (by decide) rfl fl_X7_read_7 dX7_read_17 rfl ?_
    refine j_iconst (q := 21) F dX7_read_20 rfl ?_
    refine j_iconst (q := 22) F dX7_read_21 rfl ?_
    refine j_iast (q := 23) F ar83 (by omega) (by omega) (by decide) dX7_read_22 rfl ?_
    refine j_iconst (q := 24) F dX7_read_23 rfl ?_
    refine j_istore_n (q := 25) (lv' := [(0, vR X 82), (1, vI 0)]) F dX7_read_24 rfl rfl (by decide) rfl rfl ?_
    refine j_iconst (q := 26) F dX7_read_25 rfl ?_
    refine j_istore_n (q := 27) (lv' := [(0, vR X 82), (1, vI 0), (2, vI 0)]) F dX7_read_26 rfl rfl (by decide) rfl rfl ?_
    have LP27 : ∀ (nn : Nat) (run k : Int) (Mq : Mem), (0 ≤ k) → (k ≤ M 82 4) → (run = trn (M 85) k) → (∀ q, q ≠ 83 → Mq q = Mr q) → (∀ j, Mq 83 j = rdD (M 83) (M 85) k j) → (M 82 4 - k).toNat < nn → J zp l ze (rm 4) zs zm zargs zbelow zmeth zc 0 0 zQ zs.heap X 3 Mq 27 [(0, vR X 82), (1, vI run), (2, vI k)] [] := by
      intro nn
      induction nn with
      | zero => intro run k Mq h0 h1 h3 hq hA hm27; exact absurd hm27 (Nat.not_lt_zero _)
      | succ nn ih27 =>
        intro run k Mq h0 h1 h3 hq hA hm27
        refine j_iload_n (q := 28) F dX7_read_27 rfl rfl 2 rfl ?_
        refine j_aload_n (q := 29) F dX7_read_28 rfl rfl 0 rfl ?_
        refine j_getI (q := 32) (i := 4) (index := 118) F md82 rfl in_X7_read_7 4 (by decide) rfl rfl fl_X7_read_118 dX7_read_29 rfl ?_
        rw [show Mq 82 4 = M 82 4 from by rw [hq 82 (by decide)]; exact e4]
        refine j_icmp_ge (q := 35) (tgt := 99) F dX7_read_32 (by decide) rfl ⟨by omega, by omega⟩ ⟨by omega, by omega⟩ (fun h32_4 => ?_) (fun h32_4 => ?_)
        · skip
          have hkk : k = M 82 4 := by omega
          have hkE : Mq 83 = rdD (M 83) (M 85) (M 82 4) := by funext j; rw [hA j, hkk]
          refine j_aload_n (q := 100) F dX7_read_99 rfl rfl 0 rfl ?_
          refine j_callVV (q := 103) F [] (ct_X7_fills l X hX Mq (by rw [hkE]; exact rd_wok hno hty.1 hww)) gX7_read_X7_fills rfl cd_X7_fills ⟨by first | exact Nat.le_of_ble_eq_true rfl | (simp only [rm]; omega) | (simp [rm, vI, vR, Value.category]; omega), by first | exact Nat.le_of_ble_eq_true rfl | (simp only [rm]; omega) | (simp [rm, vI, vR, Value.category]; omega), by first | exact Nat.le_of_ble_eq_true rfl | (simp only [rm]; omega) | (simp [rm, vI, vR, Value.category]; omega), by first | exact Nat.le_of_ble_eq_true rfl | (simp only [rm]; omega) | (simp [rm, vI, vR, Value.category]; omega)⟩ md82 rfl rfl rfl (Nat.le_of_ble_eq_true rfl) dX7_read_100 rfl (fun Mf hfl => ?_)
          refine j_aload_n (q := 104) F dX7_read_103 rfl rfl 0 rfl ?_
          refine j_getR (q := 107) (z := 83) (index := 7) F md82 rfl in_X7_read_7 0 (by decide) rfl fl_X7_read_7 dX7_read_104 rfl ?_
          refine j_iconst (q := 108) F dX7_read_107 rfl ?_
          refine j_iald (q := 109) F ar83 (by omega) (by omega) (by decide) dX7_read_108 rfl ?_
          refine hret _ _ _ _ dX7_read_109 ?_
          · have hrec := hr.to (N := Mf) (by rw [hfl.1 82 (by decide), hq 82 (by decide)]) (by rw [hfl.1 84 (by decide), hq 84 (by decide)]) (by rw [hfl.1 85 (by decide), hq 85 (by decide)])
            refine mpo_of (fun q a b c => by rw [hfl.1 q b, hq q b]; exact hr.2.1 q a c) (Or.inr ⟨?_, hrec.1, hrec.2, ?_, rfl⟩)
            · rw [show (-4 : Int) = x by omega]; exact hx
            · have z := hfl.2
              rw [hkE] at z
              exact z
        · skip
          have hch := htx k h0 (by omega)
          have hbd := noBad_bd hno h0 (by omega)
          have hbd1 := noBad_bd hno (show 0 ≤ k + 1 by omega) (by omega)
          have hnn2 := trn_nn (M 85) h0
          have hA00 : Mq 83 0 = twd (M 85) k := by rw [hA 0]; exact if_pos rfl
          have htw := twd_s (M 85) h0
          refine j_aload_n (q := 36) F dX7_read_35 rfl rfl 0 rfl ?_
          refine j_getR (q := 39) (z := 85) (index := 16) F md82 rfl in_X7_read_7 3 (by decide) rfl fl_X7_read_16 dX7_read_36 rfl ?_
          refine j_iload_n (q := 40) F dX7_read_39 rfl rfl 2 rfl ?_
          refine j_cald (q := 41) F ar85 (by omega) (by omega) (by decide) dX7_read_40 rfl ?_
          rw [show Mq 85 k = M 85 k from by rw [hq 85 (by decide), e85]]
          refine j_bipush (q := 43) F dX7_read_41 rfl (by decide) ?_
          refine j_icmp_ne (q := 46) (tgt := 50) F dX7_read_43 (by decide) rfl ⟨by omega, by omega⟩ ⟨by decide, by decide⟩ (fun h43_6 => ?_) (fun h43_6 => ?_)
          · skip
            refine j_iload_n (q := 51) F dX7_read_50 rfl rfl 1 rfl ?_
            refine j_iconst (q := 52) F dX7_read_51 rfl ?_
            refine j_iadd (q := 53) (z := run + 1) F dX7_read_52 rfl rfl ?_
            refine j_istore_n (q := 54) (lv' := [(0, vR X 82), (1, vI (run + 1)), (2, vI k)]) F dX7_read_53 rfl rfl (by decide) rfl rfl ?_
            refine j_aload_n (q := 55) F dX7_read_54 rfl rfl 0 rfl ?_
            refine j_getR (q := 58) (z := 83) (index := 7) F md82 rfl in_X7_read_7 0 (by decide) rfl fl_X7_read_7 dX7_read_55 rfl ?_
            refine j_iconst (q := 59) F dX7_read_58 rfl ?_
            refine j_dup2 (q := 60) F dX7_read_59 rfl rfl rfl ?_
            refine j_iald (q := 61) F ar83 (by omega) (by omega) (by decide) dX7_read_60 rfl ?_
            refine j_iload_n (q := 62) F dX7_read_61 rfl rfl 1 rfl ?_
            refine j_iconst (q := 63) F dX7_read_62 rfl ?_
            refine j_icmp_ne (q := 66) (tgt := 70) F dX7_read_63 (by decide) rfl ⟨by omega, by omega⟩ ⟨by decide, by decide⟩ (fun h63_7 => ?_) (fun h63_7 => ?_)
            · skip
              refine j_iconst (q := 71) F dX7_read_70 rfl ?_
              refine j_iadd (q := 72) (z := (Mq 83 0) + 0) F dX7_read_71 rfl rfl ?_
              refine j_iast (q := 73) F ar83 (by omega) (by omega) (by decide) dX7_read_72 rfl ?_
              refine j_iload_n (q := 74) F dX7_read_73 rfl rfl 1 rfl ?_
              refine j_if_le (q := 77) (tgt := 93) F dX7_read_74 (by decide) rfl ⟨by omega, by omega⟩ (fun h74_8 => ?_) (fun h74_8 => ?_)
              · skip
                refine j_iinc (q := 96) (lv' := [(0, vR X 82), (1, vI (run + 1)), (2, vI (k + 1))]) F dX7_read_93 rfl 2 rfl (by decide) rfl rfl ?_
                refine j_goto (q := 27) F dX7_read_96 (by decide) ?_
                exact ih27 (run + 1) (k + 1) (mset Mq 83 0 ((Mq 83 0) + 0)) (by omega) (by omega) (by rw [trn_s _ h0]; split <;> omega) (by exact fun q a => by rw [mset_nef a]; exact hq q a) (by exfalso; omega) (by omega)
              · skip
                refine j_aload_n (q := 78) F dX7_read_77 rfl rfl 0 rfl ?_
                refine j_getR (q := 81) (z := 83) (index := 7) F md82 rfl in_X7_read_7 0 (by decide) rfl fl_X7_read_7 dX7_read_78 rfl ?_
                refine j_iconst (q := 82) F dX7_read_81 rfl ?_
                refine j_aload_n (q := 83) F dX7_read_82 rfl rfl 0 rfl ?_
                refine j_getR (q := 86) (z := 83) (index := 7) F md82 rfl in_X7_read_7 0 (by decide) rfl fl_X7_read_7 dX7_read_83 rfl ?_
                refine j_iconst (q := 87) F dX7_read_86 rfl ?_
                refine j_iald (q := 88) F ar83 (by omega) (by omega) (by decide) dX7_read_87 rfl ?_
                rw [show (mset Mq 83 0 ((Mq 83 0) + 0)) 83 0 = (Mq 83 0) + 0 from by simp [mset]]
                refine j_iadd (q := 89) (z := 4 + ((Mq 83 0) + 0)) F dX7_read_88 rfl rfl ?_
                refine j_iconst (q := 90) F dX7_read_89 rfl ?_
                refine j_isub (q := 91) (z := (4 + ((Mq 83 0) + 0)) - 1) F dX7_read_90 rfl rfl ?_
                refine j_iload_n (q := 92) F dX7_read_91 rfl rfl 1 rfl ?_
                refine j_iast (q := 93) F ar83 (by omega) (by omega) (by decide) dX7_read_92 rfl ?_
                refine j_iinc (q := 96) (lv' := [(0, vR X 82), (1, vI (run + 1)), (2, vI (k + 1))]) F dX7_read_93 rfl 2 rfl (by decide) rfl rfl ?_
                refine j_goto (q := 27) F dX7_read_96 (by decide) ?_
                refine ih27 (run + 1) (k + 1) (mset (mset Mq 83 0 ((Mq 83 0) + 0)) 83 ((4 + ((Mq 83 0) + 0)) - 1) (run + 1)) (by omega) (by omega) (by rw [trn_s _ h0]; split <;> omega) (by exact fun q a => by rw [mset_nef a, mset_nef a]; exact hq q a) ?_ (by omega)
                · intro j; rw [rd_more h0 (by assumption) (by omega), mset_if, mset_if, ← h3]
                  have hA0 : Mq 83 0 = twd (M 85) k := by rw [hA 0]; exact if_pos rfl
                  by_cases hj : j = 4 + twd (M 85) k - 1
                  · rw [if_pos hj, if_pos (by omega)]
                  · rw [if_neg hj, if_neg (by omega)]
                    by_cases hz : j = 0
                    · rw [if_pos hz, hz, ← hA 0]; omega
                    · rw [if_neg hz]; exact hA j
            · skip
              refine j_iconst (q := 67) F dX7_read_66 rfl ?_
              refine j_goto (q := 71) F dX7_read_67 (by decide) ?_
              refine j_iadd (q := 72) (z := (Mq 83 0) + 1) F dX7_read_71 rfl rfl ?_
              refine j_iast (q := 73) F ar83 (by omega) (by omega) (by decide) dX7_read_72 rfl ?_
              refine j_iload_n (q := 74) F dX7_read_73 rfl rfl 1 rfl ?_
              refine j_if_le (q := 77) (tgt := 93) F dX7_read_74 (by decide) rfl ⟨by omega, by omega⟩ (fun h74_9 => ?_) (fun h74_9 => ?_)
              · skip
                refine j_iinc (q := 96) (lv' := [(0, vR X 82), (1, vI (run + 1)), (2, vI (k + 1))]) F dX7_read_93 rfl 2 rfl (by decide) rfl rfl ?_
                refine j_goto (q := 27) F dX7_read_96 (by decide) ?_
                exact ih27 (run + 1) (k + 1) (mset Mq 83 0 ((Mq 83 0) + 1)) (by omega) (by omega) (by rw [trn_s _ h0]; split <;> omega) (by exact fun q a => by rw [mset_nef a]; exact hq q a) (by exfalso; omega) (by omega)
              · skip
                refine j_aload_n (q := 78) F dX7_read_77 rfl rfl 0 rfl ?_
                refine j_getR (q := 81) (z := 83) (index := 7) F md82 rfl in_X7_read_7 0 (by decide) rfl fl_X7_read_7 dX7_read_78 rfl ?_
                refine j_iconst (q := 82) F dX7_read_81 rfl ?_
                refine j_aload_n (q := 83) F dX7_read_82 rfl rfl 0 rfl ?_
                refine j_getR (q := 86) (z := 83) (index := 7) F md82 rfl in_X7_read_7 0 (by decide) rfl fl_X7_read_7 dX7_read_83 rfl ?_
                refine j_iconst (q := 87) F dX7_read_86 rfl ?_
                refine j_iald (q := 88) F ar83 (by omega) (by omega) (by decide) dX7_read_87 rfl ?_
                rw [show (mset Mq 83 0 ((Mq 83 0) + 1)) 83 0 = (Mq 83 0) + 1 from by simp [mset]]
                refine j_iadd (q := 89) (z := 4 + ((Mq 83 0) + 1)) F dX7_read_88 rfl rfl ?_
                refine j_iconst (q := 90) F dX7_read_89 rfl ?_
                refine j_isub (q := 91) (z := (4 + ((Mq 83 0) + 1)) - 1) F dX7_read_90 rfl rfl ?_
                refine j_iload_n (q := 92) F dX7_read_91 rfl rfl 1 rfl ?_
                refine j_iast (q := 93) F ar83 (by omega) (by omega) (by decide) dX7_read_92 rfl ?_
                refine j_iinc (q := 96) (lv' := [(0, vR X 82), (1, vI (run + 1)), (2, vI (k + 1))]) F dX7_read_93 rfl 2 rfl (by decide) rfl rfl ?_
                refine j_goto (q := 27) F dX7_read_96 (by decide) ?_
                refine ih27 (run + 1) (k + 1) (mset (mset Mq 83 0 ((Mq 83 0) + 1)) 83 ((4 + ((Mq 83 0) + 1)) - 1) (run + 1)) (by omega) (by omega) (by rw [trn_s _ h0]; split <;> omega) (by exact fun q a => by rw [mset_nef a, mset_nef a]; exact hq q a) ?_ (by omega)
                · intro j; rw [rd_new h0 (by assumption) (by omega), mset_if, mset_if]
                  have hA0 : Mq 83 0 = twd (M 85) k := by rw [hA 0]; exact if_pos rfl
                  by_cases hj : j = 4 + twd (M 85) k
                  · rw [if_pos hj, if_pos (by omega)]; omega
                  · rw [if_neg hj, if_neg (by omega)]
                    by_cases hz : j = 0
                    · rw [if_pos hz, if_pos hz]; omega
                    · rw [if_neg hz, if_neg hz]; exact hA j
          · skip
            refine j_iconst (q := 47) F dX7_read_46 rfl ?_
            refine j_goto (q := 53) F dX7_read_47 (by decide) ?_
            refine j_istore_n (q := 54) (lv' := [(0, vR X 82), (1, vI 0), (2, vI k)]) F dX7_read_53 rfl rfl (by decide) rfl rfl ?_
            refine j_aload_n (q := 55) F dX7_read_54 rfl rfl 0 rfl ?_
            refine j_getR (q := 58) (z := 83) (index := 7) F md82 rfl in_X7_read_7 0 (by decide) rfl fl_X7_read_7 dX7_read_55 rfl ?_
            refine j_iconst (q := 59) F dX7_read_58 rfl ?_
            refine j_dup2 (q := 60) F dX7_read_59 rfl rfl rfl ?_
            refine j_iald (q := 61) F ar83 (by omega) (by omega) (by decide) dX7_read_60 rfl ?_
            refine j_iload_n (q := 62) F dX7_read_61 rfl rfl 1 rfl ?_
            refine j_iconst (q := 63) F dX7_read_62 rfl ?_
            refine j_icmp_ne (q := 66) (tgt := 70) F dX7_read_63 (by decide) rfl ⟨by decide, by decide⟩ ⟨by decide, by decide⟩ (fun _ => ?_) (fun h => absurd h (by decide))
            refine j_iconst (q := 71) F dX7_read_70 rfl ?_
            refine j_iadd (q := 72) (z := (Mq 83 0) + 0) F dX7_read_71 rfl rfl ?_
            refine j_iast (q := 73) F ar83 (by omega) (by omega) (by decide) dX7_read_72 rfl ?_
            refine j_iload_n (q := 74) F dX7_read_73 rfl rfl 1 rfl ?_
            refine j_if_le (q := 77) (tgt := 93) F dX7_read_74 (by decide) rfl ⟨by decide, by decide⟩ (fun _ => ?_) (fun h => absurd h (by decide))
            refine j_iinc (q := 96) (lv' := [(0, vR X 82), (1, vI 0), (2, vI (k + 1))]) F dX7_read_93 rfl 2 rfl (by decide) rfl rfl ?_
            refine j_goto (q := 27) F dX7_read_96 (by decide) ?_
            refine ih27 0 (k + 1) (mset Mq 83 0 ((Mq 83 0) + 0)) (by omega) (by omega) (by rw [trn_s _ h0]; split <;> omega) (by exact fun q a => by rw [mset_nef a]; exact hq q a) ?_ (by omega)
            · intro j; rw [rd_blank h0 (by assumption), mset_if]
              by_cases hj : j = 0
              · rw [if_pos hj, hj]; have := hA 0; omega
              · rw [if_neg hj]; exact hA j
    exact LP27 _ 0 0 (mset Mr 83 0 0) (by omega) (by omega) (by exact (trn_0 _).symm) (by exact fun q a => mset_nef a) (by intro j; rw [rdD_0, mset_if, r83]) (by exact Nat.lt_succ_self _)
  · skip
    refine j_bipush (q := 11) F dX7_read_9 rfl (by decide) ?_
    exact hret _ _ _ _ dX7_read_11 (by exact mpo_of (fun _ _ _ _ => rfl) (Or.inl ⟨⟨x, hx, by omega⟩, rfl, SM.rf M⟩))
