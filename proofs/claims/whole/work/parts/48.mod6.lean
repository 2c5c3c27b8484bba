theorem fl_X7_pull_7 : Cond.fieldLink RX7 7 "WhiteRiversModel" "d" "[I" ∈ wsX7_pull := by decide +kernel
theorem in_X7_pull_7 : ∀ w ∈ u_ws RX7 TX7 19, w ∈ wsX7_pull := by decide +kernel
set_option maxRecDepth 100000 in
set_option maxHeartbeats 1000000 in
theorem ct_X7_pull (l : Launch) (X : Cx) (hX : Inj X) (M : Mem) (hD : DOK (M 83)) (hst : 0 ≤ M 82 2 ∧ M 82 2 ≤ 5) (n : Int) (hn0 : inR n) : CtI l X yX7_pull wsX7_pull 2 [vR X 82, vI n] M (fun r M' => MPO M (Opull M n) r M') := by
  refine CtI_of (cc := cX7_pull) (maxL := 3) hX (by decide +kernel) rfl (Nat.le_of_ble_eq_true rfl) ?_
  intro zp ze zs zm zargs zbelow zmeth zc zQ F hret
  show J zp l ze (rm 2) zs zm zargs zbelow zmeth zc 0 0 zQ zs.heap X 3 M 0 [(0, vR X 82), (1, vI n)] []
  have hw := hD.w
  have hnn := hD.1
  have hww := hD.2.1
  have hlen := hw.2.2
  have hL24 := hD.L24
  have hss := hD.2.2.1
  have hdb := @DOK.bd _ hD
  obtain ⟨hn1, hn2⟩ := hn0
  refine j_aload_n (q := 1) F dX7_pull_0 rfl rfl 0 rfl ?_
  refine j_iload_n (q := 2) F dX7_pull_1 rfl rfl 1 rfl ?_
  refine j_callVZ (q := 5) F [vI n] (ct_X7_isLine l X hX M hD n ⟨by omega, by omega⟩) gX7_pull_X7_isLine rfl cd_X7_isLine ⟨by first | exact Nat.le_of_ble_eq_true rfl | (simp only [rm]; omega) | (simp [rm, vI, vR, Value.category]; omega), by first | exact Nat.le_of_ble_eq_true rfl | (simp only [rm]; omega) | (simp [rm, vI, vR, Value.category]; omega), by first | exact Nat.le_of_ble_eq_true rfl | (simp only [rm]; omega) | (simp [rm, vI, vR, Value.category]; omega), by first | exact Nat.le_of_ble_eq_true rfl | (simp only [rm]; omega) | (simp [rm, vI, vR, Value.category]; omega)⟩ md82 rfl rfl rfl (Nat.le_of_ble_eq_true rfl) dX7_pull_2 rfl (fun hli => ?_) (fun hli => ?_)
  · skip
    have hbl := hD.bd (l := n) hli.1 (by omega)
    have hbl1 := hD.bd (l := n + 1) (by omega) (by omega)
    have hseg := hD.2.2.2.2.2.2 n hli.1 hli.2
    have hfn : M 83 (28 + n) = sd (M 83) n := (sd_in hli.2).symm
    refine j_if_ne (q := 8) (tgt := 10) F dX7_pull_5 (by decide) rfl ⟨by decide, by decide⟩ (fun _ => ?_) (fun h => absurd h (by decide))
    refine j_iload_n (q := 11) F dX7_pull_10 rfl rfl 1 rfl ?_
    refine j_iconst (q := 12) F dX7_pull_11 rfl ?_
    refine j_iadd (q := 13) (z := n + 1) F dX7_pull_12 rfl rfl ?_
    refine j_aload_n (q := 14) F dX7_pull_13 rfl rfl 0 rfl ?_
    refine j_getR (q := 17) (z := 83) (index := 7) F md82 rfl in_X7_pull_7 0 (by decide) rfl fl_X7_pull_7 dX7_pull_14 rfl ?_
    refine j_iconst (q := 18) F dX7_pull_17 rfl ?_
    refine j_iald (q := 19) F ar83 (by omega) (by omega) (by decide) dX7_pull_18 rfl ?_
    refine j_icmp_eq (q := 22) (tgt := 65) F dX7_pull_19 (by decide) rfl ⟨by omega, by omega⟩ ⟨by omega, by omega⟩ (fun h19_2 => ?_) (fun h19_2 => ?_)
    · skip
      refine j_bipush (q := 67) F dX7_pull_65 rfl (by decide) ?_
      exact hret _ _ _ _ dX7_pull_67 (by exact mpo_of (fun _ _ _ _ => rfl) (Or.inr (Or.inl ⟨hli, by first | exact Or.inl (by omega) | exact Or.inr (Or.inr (Or.inr hft)) | exact hmks (by omega), rfl, SM.rf M⟩)))
    · skip
      have hmk1 := (hD.2.2.2.2.2.2 n hli.1 hli.2).2.1
      have hmk2 := (hD.2.2.2.2.2.2 (n + 1) (by omega) (by omega)).2.1
      rw [show 53 + (n + 1) = 53 + n + 1 by omega] at hmk2
      have hs2 := (hD.2.2.2.2.2.2 (n + 1) (by omega) (by omega)).1
      rw [show n + 1 + 1 = n + 2 by omega] at hs2
      have hb2 := hD.bd (l := n + 2) (by omega) (by omega)
      have hmks : M 83 (53 + n) + M 83 (53 + n + 1) > 0 → noPull (M 83) n := fun z => by
        by_cases z1 : M 83 (53 + n) = 1
        · exact Or.inr (Or.inl z1)
        · exact Or.inr (Or.inr (Or.inl (by rw [show 53 + (n + 1) = 53 + n + 1 by omega]; omega)))
      refine j_aload_n (q := 23) F dX7_pull_22 rfl rfl 0 rfl ?_
      refine j_getR (q := 26) (z := 83) (index := 7) F md82 rfl in_X7_pull_7 0 (by decide) rfl fl_X7_pull_7 dX7_pull_23 rfl ?_
      refine j_bipush (q := 28) F dX7_pull_26 rfl (by decide) ?_
      refine j_iload_n (q := 29) F dX7_pull_28 rfl rfl 1 rfl ?_
      refine j_iadd (q := 30) (z := 53 + n) F dX7_pull_29 rfl rfl ?_
      refine j_iald (q := 31) F ar83 (by omega) (by omega) (by decide) dX7_pull_30 rfl ?_
      refine j_aload_n (q := 32) F dX7_pull_31 rfl rfl 0 rfl ?_
      refine j_getR (q := 35) (z := 83) (index := 7) F md82 rfl in_X7_pull_7 0 (by decide) rfl fl_X7_pull_7 dX7_pull_32 rfl ?_
      refine j_bipush (q := 37) F dX7_pull_35 rfl (by decide) ?_
      refine j_iload_n (q := 38) F dX7_pull_37 rfl rfl 1 rfl ?_
      refine j_iadd (q := 39) (z := 53 + n) F dX7_pull_38 rfl rfl ?_
      refine j_iconst (q := 40) F dX7_pull_39 rfl ?_
      refine j_iadd (q := 41) (z := (53 + n) + 1) F dX7_pull_40 rfl rfl ?_
      refine j_iald (q := 42) F ar83 (by omega) (by omega) (by decide) dX7_pull_41 rfl ?_
      refine j_iadd (q := 43) (z := (M 83 (53 + n)) + (M 83 ((53 + n) + 1))) F dX7_pull_42 rfl rfl ?_
      refine j_if_gt (q := 46) (tgt := 65) F dX7_pull_43 (by decide) rfl ⟨by omega, by omega⟩ (fun h43_3 => ?_) (fun h43_3 => ?_)
      · skip
        refine j_bipush (q := 67) F dX7_pull_65 rfl (by decide) ?_
        exact hret _ _ _ _ dX7_pull_67 (by exact mpo_of (fun _ _ _ _ => rfl) (Or.inr (Or.inl ⟨hli, by first | exact Or.inl (by omega) | exact Or.inr (Or.inr (Or.inr hft)) | exact hmks (by omega), rfl, SM.rf M⟩)))
      · skip
        refine j_aload_n (q := 47) F dX7_pull_46 rfl rfl 0 rfl ?_
        refine j_aload_n (q := 48) F dX7_pull_47 rfl rfl 0 rfl ?_
        refine j_iload_n (q := 49) F dX7_pull_48 rfl rfl 1 rfl ?_
        refine j_callVE (q := 52) F [vI n] (ct_X7_first l X hX M n (by omega) (by omega)) gX7_pull_X7_first rfl cd_X7_first ⟨by first | exact Nat.le_of_ble_eq_true rfl | (simp only [rm]; omega) | (simp [rm, vI, vR, Value.category]; omega), by first | exact Nat.le_of_ble_eq_true rfl | (simp only [rm]; omega) | (simp [rm, vI, vR, Value.category]; omega), by first | exact Nat.le_of_ble_eq_true rfl | (simp only [rm]; omega) | (simp [rm, vI, vR, Value.category]; omega), by first | exact Nat.le_of_ble_eq_true rfl | (simp only [rm]; omega) | (simp [rm, vI, vR, Value.category]; omega)⟩ md82 rfl rfl rfl (Nat.le_of_ble_eq_true rfl) dX7_pull_49 rfl ?_
        rw [show M 83 (28 + n) = sd (M 83) n from by exact hfn]
        refine j_aload_n (q := 53) F dX7_pull_52 rfl rfl 0 rfl ?_
        refine j_iload_n (q := 54) F dX7_pull_53 rfl rfl 1 rfl ?_
        refine j_callVE (q := 57) F [vI n] (ct_X7_behind l X hX M (by omega) n (by omega) (by omega)) gX7_pull_X7_behind rfl cd_X7_behind ⟨by first | exact Nat.le_of_ble_eq_true rfl | (simp only [rm]; omega) | (simp [rm, vI, vR, Value.category]; omega), by first | exact Nat.le_of_ble_eq_true rfl | (simp only [rm]; omega) | (simp [rm, vI, vR, Value.category]; omega), by first | exact Nat.le_of_ble_eq_true rfl | (simp only [rm]; omega) | (simp [rm, vI, vR, Value.category]; omega), by first | exact Nat.le_of_ble_eq_true rfl | (simp only [rm]; omega) | (simp [rm, vI, vR, Value.category]; omega)⟩ md82 rfl rfl rfl (Nat.le_of_ble_eq_true rfl) dX7_pull_54 rfl ?_
        refine j_iconst (q := 58) F dX7_pull_57 rfl ?_
        refine j_iadd (q := 59) (z := (sd (M 83) (n + 1)) + 1) F dX7_pull_58 rfl rfl ?_
        refine j_callVZ (q := 62) F [vI (sd (M 83) n), vI ((sd (M 83) (n + 1)) + 1)] (ct_X7_fits l X hX M hw (sd (M 83) n) ((sd (M 83) (n + 1)) + 1) (by omega) (by omega) (by omega)) gX7_pull_X7_fits rfl cd_X7_fits ⟨by first | exact Nat.le_of_ble_eq_true rfl | (simp only [rm]; omega) | (simp [rm, vI, vR, Value.category]; omega), by first | exact Nat.le_of_ble_eq_true rfl | (simp only [rm]; omega) | (simp [rm, vI, vR, Value.category]; omega), by first | exact Nat.le_of_ble_eq_true rfl | (simp only [rm]; omega) | (simp [rm, vI, vR, Value.category]; omega), by first | exact Nat.le_of_ble_eq_true rfl | (simp only [rm]; omega) | (simp [rm, vI, vR, Value.category]; omega)⟩ md82 rfl rfl rfl (Nat.le_of_ble_eq_true rfl) dX7_pull_59 rfl (fun hft => ?_) (fun hft => ?_)
        · skip
          refine j_if_ne (q := 65) (tgt := 68) F dX7_pull_62 (by decide) rfl ⟨by decide, by decide⟩ (fun _ => ?_) (fun h => absurd h (by decide))
          refine j_aload_n (q := 69) F dX7_pull_68 rfl rfl 0 rfl ?_
          refine j_callVV (q := 72) F [] (ct_X7_records l X hX M (by omega)) gX7_pull_X7_records rfl cd_X7_records ⟨by first | exact Nat.le_of_ble_eq_true rfl | (simp only [rm]; omega) | (simp [rm, vI, vR, Value.category]; omega), by first | exact Nat.le_of_ble_eq_true rfl | (simp only [rm]; omega) | (simp [rm, vI, vR, Value.category]; omega), by first | exact Nat.le_of_ble_eq_true rfl | (simp only [rm]; omega) | (simp [rm, vI, vR, Value.category]; omega), by first | exact Nat.le_of_ble_eq_true rfl | (simp only [rm]; omega) | (simp [rm, vI, vR, Value.category]; omega)⟩ md82 rfl rfl rfl (Nat.le_of_ble_eq_true rfl) dX7_pull_69 rfl (fun Mr hr => ?_)
          have r83 : Mr 83 = M 83 := hr.2.1 83 (by decide) (by decide)
          have r0 : Mr 83 0 = M 83 0 := by rw [r83]
          have r1 : Mr 83 1 = M 83 1 := by rw [r83]
          have r2 : Mr 83 2 = M 83 2 := by rw [r83]
          have r3 : Mr 83 3 = M 83 3 := by rw [r83]
          refine j_aload_n (q := 73) F dX7_pull_72 rfl rfl 0 rfl ?_
          refine j_getR (q := 76) (z := 83) (index := 7) F md82 rfl in_X7_pull_7 0 (by decide) rfl fl_X7_pull_7 dX7_pull_73 rfl ?_
          refine j_bipush (q := 78) F dX7_pull_76 rfl (by decide) ?_
          refine j_iload_n (q := 79) F dX7_pull_78 rfl rfl 1 rfl ?_
          refine j_iadd (q := 80) (z := 28 + n) F dX7_pull_79 rfl rfl ?_
          refine j_iconst (q := 81) F dX7_pull_80 rfl ?_
          refine j_iadd (q := 82) (z := (28 + n) + 1) F dX7_pull_81 rfl rfl ?_
          refine j_dup2 (q := 83) F dX7_pull_82 rfl rfl rfl ?_
          refine j_iald (q := 84) F ar83 (by omega) (by omega) (by decide) dX7_pull_83 rfl ?_
          rw [show Mr 83 ((28 + n) + 1) = sd (M 83) (n + 1) from by rw [r83, show 28 + n + 1 = 28 + (n + 1) by omega]; exact (sd_in (by omega)).symm]
          refine j_iconst (q := 85) F dX7_pull_84 rfl ?_
          refine j_iadd (q := 86) (z := (sd (M 83) (n + 1)) + 1) F dX7_pull_85 rfl rfl ?_
          refine j_iast (q := 87) F ar83 (by omega) (by omega) (by decide) dX7_pull_86 rfl ?_
          refine j_aload_n (q := 88) F dX7_pull_87 rfl rfl 0 rfl ?_
          refine j_iload_n (q := 89) F dX7_pull_88 rfl rfl 1 rfl ?_
          refine j_iconst (q := 90) F dX7_pull_89 rfl ?_
          refine j_iadd (q := 91) (z := n + 1) F dX7_pull_90 rfl rfl ?_
          refine j_callVE (q := 94) F [vI (n + 1)] (ct_X7_behind l X hX (mset Mr 83 ((28 + n) + 1) ((sd (M 83) (n + 1)) + 1)) (by rw [mset_ne2 (by omega), r3]; omega) (n + 1) (by omega) (by rw [mset_ne2 (by omega), r3]; omega)) gX7_pull_X7_behind rfl cd_X7_behind ⟨by first | exact Nat.le_of_ble_eq_true rfl | (simp only [rm]; omega) | (simp [rm, vI, vR, Value.category]; omega), by first | exact Nat.le_of_ble_eq_true rfl | (simp only [rm]; omega) | (simp [rm, vI, vR, Value.category]; omega), by first | exact Nat.le_of_ble_eq_true rfl | (simp only [rm]; omega) | (simp [rm, vI, vR, Value.category]; omega), by first | exact Nat.le_of_ble_eq_true rfl | (simp only [rm]; omega) | (simp [rm, vI, vR, Value.category]; omega)⟩ md82 rfl rfl rfl (Nat.le_of_ble_eq_true rfl) dX7_pull_91 rfl ?_
          rw [show sd ((mset Mr 83 ((28 + n) + 1) ((sd (M 83) (n + 1)) + 1)) 83) ((n + 1) + 1) = sd (M 83) (n + 2) from by unfold sd; rw [show n + 1 + 1 = n + 2 by omega, mset_ne2 (by omega), mset_ne2 (by omega), mset_ne2 (by omega), r83]]
          refine j_aload_n (q := 95) F dX7_pull_94 rfl rfl 0 rfl ?_
          refine j_getR (q := 98) (z := 83) (index := 7) F md82 rfl in_X7_pull_7 0 (by decide) rfl fl_X7_pull_7 dX7_pull_95 rfl ?_
          refine j_bipush (q := 100) F dX7_pull_98 rfl (by decide) ?_
          refine j_iload_n (q := 101) F dX7_pull_100 rfl rfl 1 rfl ?_
          refine j_iadd (q := 102) (z := 28 + n) F dX7_pull_101 rfl rfl ?_
          refine j_iconst (q := 103) F dX7_pull_102 rfl ?_
          refine j_iadd (q := 104) (z := (28 + n) + 1) F dX7_pull_103 rfl rfl ?_
          refine j_iald (q := 105) F ar83 (by omega) (by omega) (by decide) dX7_pull_104 rfl ?_
          rw [show (mset Mr 83 ((28 + n) + 1) ((sd (M 83) (n + 1)) + 1)) 83 ((28 + n) + 1) = sd (M 83) (n + 1) + 1 from by rw [mset_at]]
          refine j_icmp_ne (q := 108) (tgt := 178) F dX7_pull_105 (by decide) rfl ⟨by omega, by omega⟩ ⟨by omega, by omega⟩ (fun h105_9 => ?_) (fun h105_9 => ?_)
          · skip
            refine j_aload_n (q := 179) F dX7_pull_178 rfl rfl 0 rfl ?_
            refine j_getR (q := 182) (z := 83) (index := 7) F md82 rfl in_X7_pull_7 0 (by decide) rfl fl_X7_pull_7 dX7_pull_179 rfl ?_
            refine j_iconst (q := 183) F dX7_pull_182 rfl ?_
            refine j_iald (q := 184) F ar83 (by omega) (by omega) (by decide) dX7_pull_183 rfl ?_
            refine hret _ _ _ _ dX7_pull_184 ?_
            · have hrec := hr.to (N := (mset Mr 83 ((28 + n) + 1) ((sd (M 83) (n + 1)) + 1))) (by rw [mset_nef (by omega)]) (by rw [mset_nef (by omega)]) (by rw [mset_nef (by omega)])
              refine mpo_of (fun q a b c => by rw [mset_nef (by omega)]; exact hr.2.1 q a c) ?_
              refine Or.inr (Or.inr ⟨hli, fun z => ?_, hrec.1, hrec.2, Or.inr ⟨by omega, ?_⟩, ?_⟩)
              · rcases z with z | z | z | z
                · omega
                · omega
                · rw [show 53 + (n + 1) = 53 + n + 1 by omega] at z; omega
                · omega
              · rw [mset_d, r83, show 28 + n + 1 = 28 + (n + 1) by omega]
                exact fun _ _ _ => rfl
              · rfl
          · skip
            refine j_aload_n (q := 109) F dX7_pull_108 rfl rfl 0 rfl ?_
            refine j_getR (q := 112) (z := 83) (index := 7) F md82 rfl in_X7_pull_7 0 (by decide) rfl fl_X7_pull_7 dX7_pull_109 rfl ?_
            refine j_iconst (q := 113) F dX7_pull_112 rfl ?_
            refine j_dup2 (q := 114) F dX7_pull_113 rfl rfl rfl ?_
            refine j_iald (q := 115) F ar83 (by omega) (by omega) (by decide) dX7_pull_114 rfl ?_
            rw [show (mset Mr 83 ((28 + n) + 1) ((sd (M 83) (n + 1)) + 1)) 83 3 = M 83 3 from by rw [mset_ne2 (by omega)]; exact r3]
            refine j_iconst (q := 116) F dX7_pull_115 rfl ?_
            refine j_isub (q := 117) (z := (M 83 3) - 1) F dX7_pull_116 rfl rfl ?_
            refine j_iast (q := 118) F ar83 (by omega) (by omega) (by decide) dX7_pull_117 rfl ?_
            refine j_iload_n (q := 119) F dX7_pull_118 rfl rfl 1 rfl ?_
            refine j_iconst (q := 120) F dX7_pull_119 rfl ?_
            refine j_iadd (q := 121) (z := n + 1) F dX7_pull_120 rfl rfl ?_
            refine j_istore_n (q := 122) (lv' := [(0, vR X 82), (1, vI n), (2, vI (n + 1))]) F dX7_pull_121 rfl rfl (by decide) rfl rfl ?_
            have LP122 : ∀ (nn : Nat) (k : Int) (Mq : Mem), (n + 1 ≤ k) → (k ≤ M 83 3 - 1) → (∀ q, q ≠ 83 → Mq q = Mr q) → (Mq 83 3 = M 83 3 - 1) → (∀ j, 28 + (n + 1) ≤ j → j < 28 + k → Mq 83 j = M 83 (j + 1)) → (∀ j, 53 + (n + 1) ≤ j → j < 53 + k → Mq 83 j = M 83 (j + 1)) → (∀ j, j ≠ 3 → (j < 28 + (n + 1) ∨ 28 + k ≤ j) → (j < 53 + (n + 1) ∨ 53 + k ≤ j) → j ≠ 28 + (n + 1) → Mq 83 j = M 83 j) → (M 83 3 - k).toNat < nn → J zp l ze (rm 2) zs zm zargs zbelow zmeth zc 0 0 zQ zs.heap X 3 Mq 122 [(0, vR X 82), (1, vI n), (2, vI k)] [] := by
              intro nn
              induction nn with
              | zero => intro k Mq g0 g1 hq hA3 hA1 hA2 hA4 hm122; exact absurd hm122 (Nat.not_lt_zero _)
              | succ nn ih122 =>
                intro k Mq g0 g1 hq hA3 hA1 hA2 hA4 hm122
                refine j_iload_n (q := 123) F dX7_pull_122 rfl rfl 2 rfl ?_
                refine j_aload_n (q := 124) F dX7_pull_123 rfl rfl 0 rfl ?_
                refine j_getR (q := 127) (z := 83) (index := 7) F md82 rfl in_X7_pull_7 0 (by decide) rfl fl_X7_pull_7 dX7_pull_124 rfl ?_
                refine j_iconst (q := 128) F dX7_pull_127 rfl ?_
                refine j_iald (q := 129) F ar83 (by omega) (by omega) (by decide) dX7_pull_128 rfl ?_
                rw [show Mq 83 3 = M 83 3 - 1 from by exact hA3]
                refine j_icmp_ge (q := 132) (tgt := 178) F dX7_pull_129 (by decide) rfl ⟨by omega, by omega⟩ ⟨by omega, by omega⟩ (fun h129_10 => ?_) (fun h129_10 => ?_)
                · skip
                  refine j_aload_n (q := 179) F dX7_pull_178 rfl rfl 0 rfl ?_
                  refine j_getR (q := 182) (z := 83) (index := 7) F md82 rfl in_X7_pull_7 0 (by decide) rfl fl_X7_pull_7 dX7_pull_179 rfl ?_
                  refine j_iconst (q := 183) F dX7_pull_182 rfl ?_
                  refine j_iald (q := 184) F ar83 (by omega) (by omega) (by decide) dX7_pull_183 rfl ?_
                  refine hret _ _ _ _ dX7_pull_184 ?_
                  · have hrec := hr.to (N := Mq) (hq 82 (by decide)) (hq 84 (by decide)) (hq 85 (by decide))
                    refine mpo_of (fun q a b c => by rw [hq q b]; exact hr.2.1 q a c) (Or.inr (Or.inr ⟨hli, fun z => ?_, hrec.1, hrec.2, Or.inl ⟨by omega, fun j j0 j1 j2 => ?_⟩, rfl⟩))
                    · rcases z with z | z | z | z
                      · omega
                      · omega
                      · rw [show 53 + (n + 1) = 53 + n + 1 by omega] at z; omega
                      · omega
                    · unfold shiftD
                      by_cases c3 : j = 3
                      · rw [if_pos c3, c3]; exact hA3.symm
                      · rw [if_neg c3]
                        by_cases c1 : 28 + (n + 1) ≤ j ∧ j < 28 + (M 83 3 - 1)
                        · rw [if_pos c1]; exact (hA1 j c1.1 (by omega)).symm
                        · rw [if_neg c1]
                          by_cases c2 : 53 + (n + 1) ≤ j ∧ j < 53 + (M 83 3 - 1)
                          · rw [if_pos c2]; exact (hA2 j c2.1 (by omega)).symm
                          · rw [if_neg c2]
                            exact (hA4 j c3 (by omega) (by omega) (by omega)).symm
                · skip
                  refine j_aload_n (q := 133) F dX7_pull_132 rfl rfl 0 rfl ?_
                  refine j_getR (q := 136) (z := 83) (index := 7) F md82 rfl in_X7_pull_7 0 (by decide) rfl fl_X7_pull_7 dX7_pull_133 rfl ?_
                  refine j_bipush (q := 138) F dX7_pull_136 rfl (by decide) ?_
                  refine j_iload_n (q := 139) F dX7_pull_138 rfl rfl 2 rfl ?_
                  refine j_iadd (q := 140) (z := 28 + k) F dX7_pull_139 rfl rfl ?_
                  refine j_aload_n (q := 141) F dX7_pull_140 rfl rfl 0 rfl ?_
                  refine j_getR (q := 144) (z := 83) (index := 7) F md82 rfl in_X7_pull_7 0 (by decide) rfl fl_X7_pull_7 dX7_pull_141 rfl ?_
                  refine j_bipush (q := 146) F dX7_pull_144 rfl (by decide) ?_
                  refine j_iload_n (q := 147) F dX7_pull_146 rfl rfl 2 rfl ?_
                  refine j_iadd (q := 148) (z := 28 + k) F dX7_pull_147 rfl rfl ?_
                  refine j_iconst (q := 149) F dX7_pull_148 rfl ?_
                  refine j_iadd (q := 150) (z := (28 + k) + 1) F dX7_pull_149 rfl rfl ?_
                  refine j_iald (q := 151) F ar83 (by omega) (by omega) (by decide) dX7_pull_150 rfl ?_
                  refine j_iast (q := 152) F ar83 (by omega) (by omega) (by decide) dX7_pull_151 rfl ?_
                  refine j_aload_n (q := 153) F dX7_pull_152 rfl rfl 0 rfl ?_
                  refine j_getR (q := 156) (z := 83) (index := 7) F md82 rfl in_X7_pull_7 0 (by decide) rfl fl_X7_pull_7 dX7_pull_153 rfl ?_
                  refine j_bipush (q := 158) F dX7_pull_156 rfl (by decide) ?_
                  refine j_iload_n (q := 159) F dX7_pull_158 rfl rfl 2 rfl ?_
                  refine j_iadd (q := 160) (z := 53 + k) F dX7_pull_159 rfl rfl ?_
                  refine j_aload_n (q := 161) F dX7_pull_160 rfl rfl 0 rfl ?_
                  refine j_getR (q := 164) (z := 83) (index := 7) F md82 rfl in_X7_pull_7 0 (by decide) rfl fl_X7_pull_7 dX7_pull_161 rfl ?_
                  refine j_bipush (q := 166) F dX7_pull_164 rfl (by decide) ?_
                  refine j_iload_n (q := 167) F dX7_pull_166 rfl rfl 2 rfl ?_
                  refine j_iadd (q := 168) (z := 53 + k) F dX7_pull_167 rfl rfl ?_
                  refine j_iconst (q := 169) F dX7_pull_168 rfl ?_
                  refine j_iadd (q := 170) (z := (53 + k) + 1) F dX7_pull_169 rfl rfl ?_
                  refine j_iald (q := 171) F ar83 (by omega) (by omega) (by decide) dX7_pull_170 rfl ?_
                  refine j_iast (q := 172) F ar83 (by omega) (by omega) (by decide) dX7_pull_171 rfl ?_
                  refine j_iinc (q := 175) (lv' := [(0, vR X 82), (1, vI n), (2, vI (k + 1))]) F dX7_pull_172 rfl 2 rfl (by decide) rfl rfl ?_
                  refine j_goto (q := 122) F dX7_pull_175 (by decide) ?_
                  refine ih122 (k + 1) (mset (mset Mq 83 (28 + k) (Mq 83 ((28 + k) + 1))) 83 (53 + k) ((mset Mq 83 (28 + k) (Mq 83 ((28 + k) + 1))) 83 ((53 + k) + 1))) (by omega) (by omega) (by exact fun q a => by rw [mset_nef a, mset_nef a]; exact hq q a) (by rw [mset_ne2 (by omega), mset_ne2 (by omega)]; exact hA3) ?_ ?_ (by intro j q0 q1 q2 q3; rw [mset_ne2 (by omega), mset_ne2 (by omega)]; exact hA4 j q0 (by omega) (by omega) q3) (by omega)
                  · intro j q0 q1; rw [mset_ne2 (by omega)]
                    by_cases hj : j = 28 + k
                    · rw [hj, mset_at]; exact hA4 _ (by omega) (by omega) (by omega) (by omega)
                    · rw [mset_ne2 hj]; exact hA1 j q0 (by omega)
                  · intro j q0 q1
                    by_cases hj : j = 53 + k
                    · rw [hj, mset_at, mset_ne2 (by omega)]; exact hA4 _ (by omega) (by omega) (by omega) (by omega)
                    · rw [mset_ne2 hj, mset_ne2 (by omega)]; exact hA2 j q0 (by omega)
            exact LP122 _ (n + 1) (mset (mset Mr 83 ((28 + n) + 1) ((sd (M 83) (n + 1)) + 1)) 83 3 ((M 83 3) - 1)) (by omega) (by omega) (by exact fun q a => by rw [mset_nef a, mset_nef a]) (by rw [mset_at]) (by intro j q0 q1; omega) (by intro j q0 q1; omega) (by intro j q0 q1 q2 q3; rw [mset_ne2 q0, mset_ne2 (by omega), r83]) (by exact Nat.lt_succ_self _)
        · skip
          refine j_if_ne (q := 65) (tgt := 68) F dX7_pull_62 (by decide) rfl ⟨by decide, by decide⟩ (fun h => absurd h (by decide)) (fun _ => ?_)
          refine j_bipush (q := 67) F dX7_pull_65 rfl (by decide) ?_
          exact hret _ _ _ _ dX7_pull_67 (by exact mpo_of (fun _ _ _ _ => rfl) (Or.inr (Or.inl ⟨hli, by first | exact Or.inl (by omega) | exact Or.inr (Or.inr (Or.inr hft)) | exact hmks (by omega), rfl, SM.rf M⟩)))
  · skip
    refine j_if_ne (q := 8) (tgt := 10) F dX7_pull_5 (by decide) rfl ⟨by decide, by decide⟩ (fun h => absurd h (by decide)) (fun _ => ?_)
    refine j_iconst (q := 9) F dX7_pull_8 rfl ?_
    exact hret _ _ _ _ dX7_pull_9 (by exact mpo_of (fun _ _ _ _ => rfl) (Or.inl ⟨fun z => by have z1 := z.1; have z2 := z.2; omega, rfl, SM.rf M⟩))
