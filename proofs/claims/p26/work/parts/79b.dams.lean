theorem cd_X6_leastRiver : yX6_leastRiver.cls = RX6 ∧ yX6_leastRiver.cls ≠ "java/lang/invoke/MethodHandle" ∧ yX6_leastRiver.cls ≠ "java/lang/invoke/VarHandle" ∧ (parseMethodDescriptor yX6_leastRiver.desc).map (fun d => d.parameters.length) = some 0 := by decide +kernel
theorem cd_X6_plan : yX6_plan.cls = RX6 ∧ yX6_plan.cls ≠ "java/lang/invoke/MethodHandle" ∧ yX6_plan.cls ≠ "java/lang/invoke/VarHandle" ∧ (parseMethodDescriptor yX6_plan.desc).map (fun d => d.parameters.length) = some 2 := by decide +kernel
theorem cd_X6_planned : yX6_planned.cls = RX6 ∧ yX6_planned.cls ≠ "java/lang/invoke/MethodHandle" ∧ yX6_planned.cls ≠ "java/lang/invoke/VarHandle" ∧ (parseMethodDescriptor yX6_planned.desc).map (fun d => d.parameters.length) = some 2 := by decide +kernel
set_option maxRecDepth 100000 in
set_option maxHeartbeats 4000000 in
theorem ct_L_dams (l : Launch) (X : Cx) (hX : Inj X) (N M : Mem) (hI : QI N M) (D : Int) (hDD : 1 ≤ D ∧ D ≤ 24) : CtI l X yL_dams wsL_dams 33 [vR X 0, vI D] M (fun x M' => x = 1 ∧ QI N M') := by
  refine CtI_ofZ (cc := cL_dams) (maxL := 8) hX (by decide +kernel) rfl (Nat.le_of_ble_eq_true rfl) ?_
  intro zp ze zs zm zargs zbelow zmeth zc zQ F hret
  show J zp l ze (rm 33) zs zm zargs zbelow zmeth zc 0 0 zQ zs.heap X 8 M 0 [(0, vR X 0), (1, vI D)] []
  have hD := hI.hD
  have hn := hD.1
  have hW := hD.2.1
  have hL24 := hD.L24
  have hs := sol_bd hD D
  have hs24 := sol_bd hD 24
  have hmono := sol_mono (N 83) hDD.2
  have hd1 := hDD.1
  have hd2 := hDD.2
  have hLR := LR_bd hD
  refine j_aload_n (q := 1) F dL_dams_0 rfl rfl 0 rfl ?_
  refine j_callVI (q := 4) F [] (ct_X6_leastRiver l X hX M hI.1 ) gL_dams_X6_leastRiver rfl cd_X6_leastRiver ⟨by first | exact Nat.le_of_ble_eq_true rfl | (simp only [rm]; omega) | (simp [rm, vI, vR, Value.category]; omega), by first | exact Nat.le_of_ble_eq_true rfl | (simp only [rm]; omega) | (simp [rm, vI, vR, Value.category]; omega), by first | exact Nat.le_of_ble_eq_true rfl | (simp only [rm]; omega) | (simp [rm, vI, vR, Value.category]; omega), by first | exact Nat.le_of_ble_eq_true rfl | (simp only [rm]; omega) | (simp [rm, vI, vR, Value.category]; omega)⟩ wr0 rfl rfl rfl (Nat.le_of_ble_eq_true rfl) dL_dams_1 rfl (fun le M_1 h_1 => ?_)
  obtain ⟨hI, hle, hlq⟩ := q_le hI h_1
  have hlD := hlq D hDD.1 hDD.2
  refine j_istore_n (q := 5) (lv' := [(0, vR X 0), (1, vI D), (2, vI le)]) F dL_dams_4 rfl rfl (by decide) rfl rfl ?_
  refine j_aload_n (q := 6) F dL_dams_5 rfl rfl 0 rfl ?_
  refine j_iload_n (q := 7) F dL_dams_6 rfl rfl 1 rfl ?_
  refine j_iconst (q := 8) F dL_dams_7 rfl ?_
  refine j_callVI (q := 11) F [vI D, vI 0] (ct_X6_plan l X hX M_1 hI.1 D 0 ⟨by omega, by omega⟩ ⟨by omega, by omega⟩) gL_dams_X6_plan rfl cd_X6_plan ⟨by first | exact Nat.le_of_ble_eq_true rfl | (simp only [rm]; omega) | (simp [rm, vI, vR, Value.category]; omega), by first | exact Nat.le_of_ble_eq_true rfl | (simp only [rm]; omega) | (simp [rm, vI, vR, Value.category]; omega), by first | exact Nat.le_of_ble_eq_true rfl | (simp only [rm]; omega) | (simp [rm, vI, vR, Value.category]; omega), by first | exact Nat.le_of_ble_eq_true rfl | (simp only [rm]; omega) | (simp [rm, vI, vR, Value.category]; omega)⟩ wr0 rfl rfl rfl (Nat.le_of_ble_eq_true rfl) dL_dams_8 rfl (fun pl M_8 h_8 => ?_)
  obtain ⟨hI, hpl⟩ := q_p0 hI hDD h_8
  refine j_istore_n (q := 12) (lv' := [(0, vR X 0), (1, vI D), (2, vI le), (3, vI pl)]) F dL_dams_11 rfl rfl (by decide) rfl rfl ?_
  have CUT38 : J zp l ze (rm 33) zs zm zargs zbelow zmeth zc 0 0 zQ zs.heap X 8 M_8 38 [(0, vR X 0), (1, vI D), (2, vI le), (3, vI pl)] [] := by
    refine j_iconst (q := 39) F dL_dams_38 rfl ?_
    refine j_goto (q := 43) F dL_dams_39 (by decide) ?_
    refine j_istore (q := 45) (lv' := [(0, vR X 0), (1, vI D), (2, vI le), (3, vI pl), (4, vI 1)]) F dL_dams_43 rfl (by decide) rfl rfl ?_
    refine j_iload_n (q := 46) F dL_dams_45 rfl rfl 3 rfl ?_
    refine j_if_lt (q := 49) (tgt := 170) F dL_dams_46 (by decide) rfl ⟨by omega, by omega⟩ (fun h46_3 => ?_) (fun h46_3 => ?_)
    · skip
      refine j_iload (q := 172) F dL_dams_170 rfl 4 rfl ?_
      exact hret _ _ _ _ dL_dams_172 (Or.inr rfl) (by exact ⟨rfl, hI⟩)
    · skip
      have hsD : (SOL (N 83) D).1 < 1000000000 := by omega
      have hrv := sol_rv (by omega) hsD
      have hrv1 := hrv.1
      have hpath := sol_path hD hsD
      have hln := sol_len hD D
      refine j_aload_n (q := 50) F dL_dams_49 rfl rfl 0 rfl ?_
      refine j_bipush (q := 52) F dL_dams_50 rfl (by decide) ?_
      refine j_iconst (q := 53) F dL_dams_52 rfl ?_
      refine j_callVI (q := 56) F [vI 24, vI 0] (ct_X6_plan l X hX M_8 hI.1 24 0 ⟨by omega, by omega⟩ ⟨by omega, by omega⟩) gL_dams_X6_plan rfl cd_X6_plan ⟨by first | exact Nat.le_of_ble_eq_true rfl | (simp only [rm]; omega) | (simp [rm, vI, vR, Value.category]; omega), by first | exact Nat.le_of_ble_eq_true rfl | (simp only [rm]; omega) | (simp [rm, vI, vR, Value.category]; omega), by first | exact Nat.le_of_ble_eq_true rfl | (simp only [rm]; omega) | (simp [rm, vI, vR, Value.category]; omega), by first | exact Nat.le_of_ble_eq_true rfl | (simp only [rm]; omega) | (simp [rm, vI, vR, Value.category]; omega)⟩ wr0 rfl rfl rfl (Nat.le_of_ble_eq_true rfl) dL_dams_53 rfl (fun mr M_53 h_53 => ?_)
      obtain ⟨hI, hmr⟩ := q_p0 hI ⟨by decide, by decide⟩ h_53
      refine j_istore (q := 58) (lv' := [(0, vR X 0), (1, vI D), (2, vI le), (3, vI pl), (4, vI 1), (5, vI mr)]) F dL_dams_56 rfl (by decide) rfl rfl ?_
      have CUT106 : ∀ (Mz : Mem), (QI N Mz) → J zp l ze (rm 33) zs zm zargs zbelow zmeth zc 0 0 zQ zs.heap X 8 Mz 106 [(0, vR X 0), (1, vI D), (2, vI le), (3, vI pl), (4, vI 1), (5, vI mr)] [] := by
        intro Mz hI
        refine j_iconst (q := 107) F dL_dams_106 rfl ?_
        refine j_goto (q := 111) F dL_dams_107 (by decide) ?_
        refine j_istore (q := 113) (lv' := [(0, vR X 0), (1, vI D), (2, vI le), (3, vI pl), (4, vI 1), (5, vI mr)]) F dL_dams_111 rfl (by decide) rfl rfl ?_
        refine j_iconst (q := 114) F dL_dams_113 rfl ?_
        refine j_istore (q := 116) (lv' := [(0, vR X 0), (1, vI D), (2, vI le), (3, vI pl), (4, vI 1), (5, vI mr), (6, vI 0)]) F dL_dams_114 rfl (by decide) rfl rfl ?_
        refine j_iconst (q := 117) F dL_dams_116 rfl ?_
        refine j_istore (q := 119) (lv' := [(0, vR X 0), (1, vI D), (2, vI le), (3, vI pl), (4, vI 1), (5, vI mr), (6, vI 0), (7, vI 0)]) F dL_dams_117 rfl (by decide) rfl rfl ?_
        have LP119 : ∀ (nn : Nat) (sm k : Int) (Mq : Mem), (QI N Mq) → (0 ≤ k) → (k ≤ (SOL (N 83) D).2.1) → (sm = (SOL (N 83) D).2.2.2 k) → ((SOL (N 83) D).2.1 - k).toNat < nn → J zp l ze (rm 33) zs zm zargs zbelow zmeth zc 0 0 zQ zs.heap X 8 Mq 119 [(0, vR X 0), (1, vI D), (2, vI le), (3, vI pl), (4, vI 1), (5, vI mr), (6, vI sm), (7, vI k)] [] := by
          intro nn
          induction nn with
          | zero => intro sm k Mq hI k0 k1 hsm hm119; exact absurd hm119 (Nat.not_lt_zero _)
          | succ nn ih119 =>
            intro sm k Mq hI k0 k1 hsm hm119
            refine j_iload (q := 121) F dL_dams_119 rfl 7 rfl ?_
            refine j_aload_n (q := 122) F dL_dams_121 rfl rfl 0 rfl ?_
            refine j_iload_n (q := 123) F dL_dams_122 rfl rfl 1 rfl ?_
            refine j_iconst (q := 124) F dL_dams_123 rfl ?_
            refine j_callVI (q := 127) F [vI D, vI 1] (ct_X6_plan l X hX Mq hI.1 D 1 ⟨by omega, by omega⟩ ⟨by omega, by omega⟩) gL_dams_X6_plan rfl cd_X6_plan ⟨by first | exact Nat.le_of_ble_eq_true rfl | (simp only [rm]; omega) | (simp [rm, vI, vR, Value.category]; omega), by first | exact Nat.le_of_ble_eq_true rfl | (simp only [rm]; omega) | (simp [rm, vI, vR, Value.category]; omega), by first | exact Nat.le_of_ble_eq_true rfl | (simp only [rm]; omega) | (simp [rm, vI, vR, Value.category]; omega), by first | exact Nat.le_of_ble_eq_true rfl | (simp only [rm]; omega) | (simp [rm, vI, vR, Value.category]; omega)⟩ wr0 rfl rfl rfl (Nat.le_of_ble_eq_true rfl) dL_dams_124 rfl (fun np M_124 h_124 => ?_)
            obtain ⟨hI, hnp⟩ := q_p1 hI hDD h_124
            refine j_icmp_ge (q := 130) (tgt := 148) F dL_dams_127 (by decide) rfl ⟨by omega, by omega⟩ ⟨by omega, by omega⟩ (fun h127_6 => ?_) (fun h127_6 => ?_)
            · skip
              have hkm : k = (SOL (N 83) D).2.1 := by omega
              have hsn : sm = N 83 0 := by rw [hsm, hkm]; exact hpath.2.2.1
              refine j_iload (q := 150) F dL_dams_148 rfl 4 rfl ?_
              refine j_if_eq (q := 153) (tgt := 167) F dL_dams_150 (by decide) rfl ⟨by decide, by decide⟩ (fun h => absurd h (by decide)) (fun _ => ?_)
              refine j_iload (q := 155) F dL_dams_153 rfl 6 rfl ?_
              refine j_aload_n (q := 156) F dL_dams_155 rfl rfl 0 rfl ?_
              refine j_iconst (q := 157) F dL_dams_156 rfl ?_
              refine j_callVI (q := 160) F [vI 0] (ct_X6_count l X hX M_124 hI.1 0 ⟨by omega, by omega⟩) gL_dams_X6_count rfl cd_X6_count ⟨by first | exact Nat.le_of_ble_eq_true rfl | (simp only [rm]; omega) | (simp [rm, vI, vR, Value.category]; omega), by first | exact Nat.le_of_ble_eq_true rfl | (simp only [rm]; omega) | (simp [rm, vI, vR, Value.category]; omega), by first | exact Nat.le_of_ble_eq_true rfl | (simp only [rm]; omega) | (simp [rm, vI, vR, Value.category]; omega), by first | exact Nat.le_of_ble_eq_true rfl | (simp only [rm]; omega) | (simp [rm, vI, vR, Value.category]; omega)⟩ wr0 rfl rfl rfl (Nat.le_of_ble_eq_true rfl) dL_dams_157 rfl (fun r_157 M_157 h_157 => ?_)
              obtain ⟨hI, er_157⟩ := q_c0 hI  h_157
              subst er_157
              refine j_icmp_ne (q := 163) (tgt := 167) F dL_dams_160 (by decide) rfl ⟨by omega, by omega⟩ ⟨by omega, by omega⟩ (fun h => by exfalso; omega) (fun h160_8 => ?_)
              refine j_iconst (q := 164) F dL_dams_163 rfl ?_
              refine j_goto (q := 168) F dL_dams_164 (by decide) ?_
              refine j_istore (q := 170) (lv' := [(0, vR X 0), (1, vI D), (2, vI le), (3, vI pl), (4, vI 1), (5, vI mr), (6, vI sm), (7, vI k)]) F dL_dams_168 rfl (by decide) rfl rfl ?_
              refine j_iload (q := 172) F dL_dams_170 rfl 4 rfl ?_
              exact hret _ _ _ _ dL_dams_172 (Or.inr rfl) (by exact ⟨rfl, hI⟩)
            · skip
              have hqk := sol_len2 hD hsD k k0 (by omega)
              have hqk1 := sol_len2 hD hsD (k + 1) (by omega) (by omega)
              refine j_iload (q := 132) F dL_dams_130 rfl 6 rfl ?_
              refine j_aload_n (q := 133) F dL_dams_132 rfl rfl 0 rfl ?_
              refine j_iload_n (q := 134) F dL_dams_133 rfl rfl 1 rfl ?_
              refine j_iload (q := 136) F dL_dams_134 rfl 7 rfl ?_
              refine j_callVI (q := 139) F [vI D, vI k] (ct_X6_planned l X hX M_124 hI.1 D k ⟨by omega, by omega⟩ ⟨by omega, by omega⟩) gL_dams_X6_planned rfl cd_X6_planned ⟨by first | exact Nat.le_of_ble_eq_true rfl | (simp only [rm]; omega) | (simp [rm, vI, vR, Value.category]; omega), by first | exact Nat.le_of_ble_eq_true rfl | (simp only [rm]; omega) | (simp [rm, vI, vR, Value.category]; omega), by first | exact Nat.le_of_ble_eq_true rfl | (simp only [rm]; omega) | (simp [rm, vI, vR, Value.category]; omega), by first | exact Nat.le_of_ble_eq_true rfl | (simp only [rm]; omega) | (simp [rm, vI, vR, Value.category]; omega)⟩ wr0 rfl rfl rfl (Nat.le_of_ble_eq_true rfl) dL_dams_136 rfl (fun r_136 M_136 h_136 => ?_)
              obtain ⟨hI, er_136⟩ := q_pl hI hDD hsD ⟨by omega, by omega⟩ h_136
              subst er_136
              refine j_iadd (q := 140) (z := sm + ((SOL (N 83) D).2.2.2 (k + 1) - (SOL (N 83) D).2.2.2 k)) F dL_dams_139 rfl rfl ?_
              refine j_istore (q := 142) (lv' := [(0, vR X 0), (1, vI D), (2, vI le), (3, vI pl), (4, vI 1), (5, vI mr), (6, vI (sm + ((SOL (N 83) D).2.2.2 (k + 1) - (SOL (N 83) D).2.2.2 k))), (7, vI k)]) F dL_dams_140 rfl (by decide) rfl rfl ?_
              refine j_iinc (q := 145) (lv' := [(0, vR X 0), (1, vI D), (2, vI le), (3, vI pl), (4, vI 1), (5, vI mr), (6, vI (sm + ((SOL (N 83) D).2.2.2 (k + 1) - (SOL (N 83) D).2.2.2 k))), (7, vI (k + 1))]) F dL_dams_142 rfl 7 rfl (by decide) rfl rfl ?_
              refine j_goto (q := 119) F dL_dams_145 (by decide) ?_
              exact ih119 (sm + ((SOL (N 83) D).2.2.2 (k + 1) - (SOL (N 83) D).2.2.2 k)) (k + 1) M_136 (by exact hI) (by omega) (by omega) (by omega) (by omega)
        exact LP119 _ 0 0 Mz (by exact hI) (by omega) (by omega) (by exact hpath.2.1.symm) (by exact Nat.lt_succ_self _)
      refine j_iload (q := 60) F dL_dams_58 rfl 4 rfl ?_
      refine j_if_eq (q := 63) (tgt := 110) F dL_dams_60 (by decide) rfl ⟨by decide, by decide⟩ (fun h => absurd h (by decide)) (fun _ => ?_)
      refine j_iload (q := 65) F dL_dams_63 rfl 5 rfl ?_
      refine j_if_lt (q := 68) (tgt := 110) F dL_dams_65 (by decide) rfl ⟨by omega, by omega⟩ (fun h => by exfalso; omega) (fun h65_10 => ?_)
      refine j_iload (q := 70) F dL_dams_68 rfl 5 rfl ?_
      refine j_iload_n (q := 71) F dL_dams_70 rfl rfl 3 rfl ?_
      refine j_icmp_gt (q := 74) (tgt := 110) F dL_dams_71 (by decide) rfl ⟨by omega, by omega⟩ ⟨by omega, by omega⟩ (fun h => by exfalso; omega) (fun h71_11 => ?_)
      refine j_aload_n (q := 75) F dL_dams_74 rfl rfl 0 rfl ?_
      refine j_iload_n (q := 76) F dL_dams_75 rfl rfl 1 rfl ?_
      refine j_iconst (q := 77) F dL_dams_76 rfl ?_
      refine j_callVI (q := 80) F [vI D, vI 3] (ct_X6_plan l X hX M_53 hI.1 D 3 ⟨by omega, by omega⟩ ⟨by omega, by omega⟩) gL_dams_X6_plan rfl cd_X6_plan ⟨by first | exact Nat.le_of_ble_eq_true rfl | (simp only [rm]; omega) | (simp [rm, vI, vR, Value.category]; omega), by first | exact Nat.le_of_ble_eq_true rfl | (simp only [rm]; omega) | (simp [rm, vI, vR, Value.category]; omega), by first | exact Nat.le_of_ble_eq_true rfl | (simp only [rm]; omega) | (simp [rm, vI, vR, Value.category]; omega), by first | exact Nat.le_of_ble_eq_true rfl | (simp only [rm]; omega) | (simp [rm, vI, vR, Value.category]; omega)⟩ wr0 rfl rfl rfl (Nat.le_of_ble_eq_true rfl) dL_dams_77 rfl (fun rv3 M_77 h_77 => ?_)
      obtain ⟨hI, hrv3⟩ := q_p3 hI hDD h_77
      refine j_iload_n (q := 81) F dL_dams_80 rfl rfl 1 rfl ?_
      refine j_icmp_gt (q := 84) (tgt := 110) F dL_dams_81 (by decide) rfl ⟨by omega, by omega⟩ ⟨by omega, by omega⟩ (fun h => by exfalso; omega) (fun h81_13 => ?_)
      refine j_aload_n (q := 85) F dL_dams_84 rfl rfl 0 rfl ?_
      refine j_iconst (q := 86) F dL_dams_85 rfl ?_
      refine j_callVI (q := 89) F [vI 5] (ct_X6_count l X hX M_77 hI.1 5 ⟨by omega, by omega⟩) gL_dams_X6_count rfl cd_X6_count ⟨by first | exact Nat.le_of_ble_eq_true rfl | (simp only [rm]; omega) | (simp [rm, vI, vR, Value.category]; omega), by first | exact Nat.le_of_ble_eq_true rfl | (simp only [rm]; omega) | (simp [rm, vI, vR, Value.category]; omega), by first | exact Nat.le_of_ble_eq_true rfl | (simp only [rm]; omega) | (simp [rm, vI, vR, Value.category]; omega), by first | exact Nat.le_of_ble_eq_true rfl | (simp only [rm]; omega) | (simp [rm, vI, vR, Value.category]; omega)⟩ wr0 rfl rfl rfl (Nat.le_of_ble_eq_true rfl) dL_dams_86 rfl (fun r_86 M_86 h_86 => ?_)
      obtain ⟨hI, er_86⟩ := q_c5 hI  h_86
      subst er_86
      refine j_iload_n (q := 90) F dL_dams_89 rfl rfl 1 rfl ?_
      refine j_icmp_gt (q := 93) (tgt := 106) F dL_dams_90 (by decide) rfl ⟨by omega, by omega⟩ ⟨by omega, by omega⟩ (fun h90_15 => ?_) (fun h90_15 => ?_)
      · skip
        exact CUT106 M_86 (by exact hI)
      · skip
        refine j_iload_n (q := 94) F dL_dams_93 rfl rfl 3 rfl ?_
        refine j_if_eq (q := 97) (tgt := 106) F dL_dams_94 (by decide) rfl ⟨by omega, by omega⟩ (fun h94_16 => ?_) (fun h94_16 => ?_)
        · skip
          exact CUT106 M_86 (by exact hI)
        · skip
          refine j_aload_n (q := 98) F dL_dams_97 rfl rfl 0 rfl ?_
          refine j_iload_n (q := 99) F dL_dams_98 rfl rfl 1 rfl ?_
          refine j_iconst (q := 100) F dL_dams_99 rfl ?_
          refine j_callVI (q := 103) F [vI D, vI 2] (ct_X6_plan l X hX M_86 hI.1 D 2 ⟨by omega, by omega⟩ ⟨by omega, by omega⟩) gL_dams_X6_plan rfl cd_X6_plan ⟨by first | exact Nat.le_of_ble_eq_true rfl | (simp only [rm]; omega) | (simp [rm, vI, vR, Value.category]; omega), by first | exact Nat.le_of_ble_eq_true rfl | (simp only [rm]; omega) | (simp [rm, vI, vR, Value.category]; omega), by first | exact Nat.le_of_ble_eq_true rfl | (simp only [rm]; omega) | (simp [rm, vI, vR, Value.category]; omega), by first | exact Nat.le_of_ble_eq_true rfl | (simp only [rm]; omega) | (simp [rm, vI, vR, Value.category]; omega)⟩ wr0 rfl rfl rfl (Nat.le_of_ble_eq_true rfl) dL_dams_100 rfl (fun bb M_100 h_100 => ?_)
          obtain ⟨hI, hbb⟩ := q_p2 hI hDD h_100
          refine j_if_lt (q := 106) (tgt := 110) F dL_dams_103 (by decide) rfl ⟨by omega, by omega⟩ (fun h => by exfalso; omega) (fun h103_18 => ?_)
          exact CUT106 M_100 (by exact hI)
  refine j_iload_n (q := 13) F dL_dams_12 rfl rfl 3 rfl ?_
  refine j_if_lt (q := 16) (tgt := 20) F dL_dams_13 (by decide) rfl ⟨by omega, by omega⟩ (fun h13_19 => ?_) (fun h13_19 => ?_)
  · skip
    refine j_iconst (q := 21) F dL_dams_20 rfl ?_
    refine j_iload_n (q := 22) F dL_dams_21 rfl rfl 2 rfl ?_
    refine j_if_lt (q := 25) (tgt := 34) F dL_dams_22 (by decide) rfl ⟨by omega, by omega⟩ (fun h22_20 => ?_) (fun h22_20 => ?_)
    · skip
      refine j_iconst (q := 35) F dL_dams_34 rfl ?_
      refine j_icmp_ne (q := 38) (tgt := 42) F dL_dams_35 (by decide) rfl ⟨by decide, by decide⟩ ⟨by decide, by decide⟩ (fun h => absurd h (by decide)) (fun _ => ?_)
      exact CUT38  
    · skip
      refine j_iload_n (q := 26) F dL_dams_25 rfl rfl 2 rfl ?_
      refine j_iload_n (q := 27) F dL_dams_26 rfl rfl 1 rfl ?_
      refine j_icmp_gt (q := 30) (tgt := 34) F dL_dams_27 (by decide) rfl ⟨by omega, by omega⟩ ⟨by omega, by omega⟩ (fun h27_21 => ?_) (fun h => by exfalso; omega)
      refine j_iconst (q := 35) F dL_dams_34 rfl ?_
      refine j_icmp_ne (q := 38) (tgt := 42) F dL_dams_35 (by decide) rfl ⟨by decide, by decide⟩ ⟨by decide, by decide⟩ (fun h => absurd h (by decide)) (fun _ => ?_)
      exact CUT38  
  · skip
    refine j_iconst (q := 17) F dL_dams_16 rfl ?_
    refine j_goto (q := 21) F dL_dams_17 (by decide) ?_
    refine j_iload_n (q := 22) F dL_dams_21 rfl rfl 2 rfl ?_
    refine j_if_lt (q := 25) (tgt := 34) F dL_dams_22 (by decide) rfl ⟨by omega, by omega⟩ (fun h => by exfalso; omega) (fun h22_22 => ?_)
    refine j_iload_n (q := 26) F dL_dams_25 rfl rfl 2 rfl ?_
    refine j_iload_n (q := 27) F dL_dams_26 rfl rfl 1 rfl ?_
    refine j_icmp_gt (q := 30) (tgt := 34) F dL_dams_27 (by decide) rfl ⟨by omega, by omega⟩ ⟨by omega, by omega⟩ (fun h => by exfalso; omega) (fun h27_23 => ?_)
    refine j_iconst (q := 31) F dL_dams_30 rfl ?_
    refine j_goto (q := 35) F dL_dams_31 (by decide) ?_
    refine j_icmp_ne (q := 38) (tgt := 42) F dL_dams_35 (by decide) rfl ⟨by decide, by decide⟩ ⟨by decide, by decide⟩ (fun h => absurd h (by decide)) (fun _ => ?_)
    exact CUT38  
