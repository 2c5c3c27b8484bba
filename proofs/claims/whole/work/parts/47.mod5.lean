theorem fl_X7_add_7 : Cond.fieldLink RX7 7 "WhiteRiversModel" "d" "[I" ∈ wsX7_add := by decide +kernel
theorem in_X7_add_7 : ∀ w ∈ u_ws RX7 TX7 19, w ∈ wsX7_add := by decide +kernel
set_option maxRecDepth 100000 in
set_option maxHeartbeats 1000000 in
theorem ct_X7_add (l : Launch) (X : Cx) (hX : Inj X) (M : Mem) (hD : DOK (M 83)) (hst : 0 ≤ M 82 2 ∧ M 82 2 ≤ 5) (k : Int) (hk0 : inR k) : CtI l X yX7_add wsX7_add 2 [vR X 82, vI k] M (fun r M' => MPO M (Oadd M k) r M') := by
  refine CtI_of (cc := cX7_add) (maxL := 3) hX (by decide +kernel) rfl (Nat.le_of_ble_eq_true rfl) ?_
  intro zp ze zs zm zargs zbelow zmeth zc zQ F hret
  show J zp l ze (rm 2) zs zm zargs zbelow zmeth zc 0 0 zQ zs.heap X 3 M 0 [(0, vR X 82), (1, vI k)] []
  have hw := hD.w
  have hnn := hD.1
  have hww := hD.2.1
  have hlen := hw.2.2
  have hL24 := hD.L24
  have hss := hD.2.2.1
  have hdb := @DOK.bd _ hD
  obtain ⟨hk1, hk2⟩ := hk0
  refine j_iload_n (q := 1) F dX7_add_0 rfl rfl 1 rfl ?_
  refine j_iconst (q := 2) F dX7_add_1 rfl ?_
  refine j_bipush (q := 4) F dX7_add_2 rfl (by decide) ?_
  refine j_callSZ (q := 7) F [vI k, vI 1, vI 8] (ct_X7_in l X hX M k 1 8 ⟨by omega, by omega⟩ ⟨by omega, by omega⟩ ⟨by omega, by omega⟩) gX7_add_X7_in rfl cd_X7_in ⟨by first | exact Nat.le_of_ble_eq_true rfl | (simp only [rm]; omega) | (simp [rm, vI, vR, Value.category]; omega), by first | exact Nat.le_of_ble_eq_true rfl | (simp only [rm]; omega) | (simp [rm, vI, vR, Value.category]; omega), by first | exact Nat.le_of_ble_eq_true rfl | (simp only [rm]; omega) | (simp [rm, vI, vR, Value.category]; omega), by first | exact Nat.le_of_ble_eq_true rfl | (simp only [rm]; omega) | (simp [rm, vI, vR, Value.category]; omega)⟩ rfl rfl (Nat.le_of_ble_eq_true rfl) dX7_add_4 rfl (fun hwi => ?_) (fun hwi => ?_)
  · skip
    refine j_if_ne (q := 10) (tgt := 12) F dX7_add_7 (by decide) rfl ⟨by decide, by decide⟩ (fun _ => ?_) (fun h => absurd h (by decide))
    refine j_aload_n (q := 13) F dX7_add_12 rfl rfl 0 rfl ?_
    refine j_getR (q := 16) (z := 83) (index := 7) F md82 rfl in_X7_add_7 0 (by decide) rfl fl_X7_add_7 dX7_add_13 rfl ?_
    refine j_iconst (q := 17) F dX7_add_16 rfl ?_
    refine j_iald (q := 18) F ar83 (by omega) (by omega) (by decide) dX7_add_17 rfl ?_
    refine j_bipush (q := 20) F dX7_add_18 rfl (by decide) ?_
    refine j_icmp_ne (q := 23) (tgt := 26) F dX7_add_20 (by decide) rfl ⟨by omega, by omega⟩ ⟨by decide, by decide⟩ (fun h20_2 => ?_) (fun h20_2 => ?_)
    · skip
      refine j_aload_n (q := 27) F dX7_add_26 rfl rfl 0 rfl ?_
      refine j_callVV (q := 30) F [] (ct_X7_records l X hX M (by omega)) gX7_add_X7_records rfl cd_X7_records ⟨by first | exact Nat.le_of_ble_eq_true rfl | (simp only [rm]; omega) | (simp [rm, vI, vR, Value.category]; omega), by first | exact Nat.le_of_ble_eq_true rfl | (simp only [rm]; omega) | (simp [rm, vI, vR, Value.category]; omega), by first | exact Nat.le_of_ble_eq_true rfl | (simp only [rm]; omega) | (simp [rm, vI, vR, Value.category]; omega), by first | exact Nat.le_of_ble_eq_true rfl | (simp only [rm]; omega) | (simp [rm, vI, vR, Value.category]; omega)⟩ md82 rfl rfl rfl (Nat.le_of_ble_eq_true rfl) dX7_add_27 rfl (fun Mr hr => ?_)
      have r83 : Mr 83 = M 83 := hr.2.1 83 (by decide) (by decide)
      have r0 : Mr 83 0 = M 83 0 := by rw [r83]
      have r1 : Mr 83 1 = M 83 1 := by rw [r83]
      have r2 : Mr 83 2 = M 83 2 := by rw [r83]
      have r3 : Mr 83 3 = M 83 3 := by rw [r83]
      refine j_aload_n (q := 31) F dX7_add_30 rfl rfl 0 rfl ?_
      refine j_getR (q := 34) (z := 83) (index := 7) F md82 rfl in_X7_add_7 0 (by decide) rfl fl_X7_add_7 dX7_add_31 rfl ?_
      refine j_iconst (q := 35) F dX7_add_34 rfl ?_
      refine j_iald (q := 36) F ar83 (by omega) (by omega) (by decide) dX7_add_35 rfl ?_
      rw [show Mr 83 3 = M 83 3 from by exact r3]
      refine j_iconst (q := 37) F dX7_add_36 rfl ?_
      refine j_isub (q := 38) (z := (M 83 3) - 1) F dX7_add_37 rfl rfl ?_
      refine j_istore_n (q := 39) (lv' := [(0, vR X 82), (1, vI k), (2, vI ((M 83 3) - 1))]) F dX7_add_38 rfl rfl (by decide) rfl rfl ?_
      refine j_aload_n (q := 40) F dX7_add_39 rfl rfl 0 rfl ?_
      refine j_getR (q := 43) (z := 83) (index := 7) F md82 rfl in_X7_add_7 0 (by decide) rfl fl_X7_add_7 dX7_add_40 rfl ?_
      refine j_iconst (q := 44) F dX7_add_43 rfl ?_
      refine j_aload_n (q := 45) F dX7_add_44 rfl rfl 0 rfl ?_
      refine j_getR (q := 48) (z := 83) (index := 7) F md82 rfl in_X7_add_7 0 (by decide) rfl fl_X7_add_7 dX7_add_45 rfl ?_
      refine j_iconst (q := 49) F dX7_add_48 rfl ?_
      refine j_iald (q := 50) F ar83 (by omega) (by omega) (by decide) dX7_add_49 rfl ?_
      rw [show Mr 83 0 = M 83 0 from by exact r0]
      refine j_iadd (q := 51) (z := 4 + (M 83 0)) F dX7_add_50 rfl rfl ?_
      refine j_iload_n (q := 52) F dX7_add_51 rfl rfl 1 rfl ?_
      refine j_iast (q := 53) F ar83 (by omega) (by omega) (by decide) dX7_add_52 rfl ?_
      refine j_aload_n (q := 54) F dX7_add_53 rfl rfl 0 rfl ?_
      refine j_getR (q := 57) (z := 83) (index := 7) F md82 rfl in_X7_add_7 0 (by decide) rfl fl_X7_add_7 dX7_add_54 rfl ?_
      refine j_iconst (q := 58) F dX7_add_57 rfl ?_
      refine j_dup2 (q := 59) F dX7_add_58 rfl rfl rfl ?_
      refine j_iald (q := 60) F ar83 (by omega) (by omega) (by decide) dX7_add_59 rfl ?_
      rw [show (mset Mr 83 (4 + (M 83 0)) k) 83 0 = M 83 0 from by rw [mset_ne2 (by omega)]; exact r0]
      refine j_iconst (q := 61) F dX7_add_60 rfl ?_
      refine j_iadd (q := 62) (z := (M 83 0) + 1) F dX7_add_61 rfl rfl ?_
      refine j_iast (q := 63) F ar83 (by omega) (by omega) (by decide) dX7_add_62 rfl ?_
      refine j_iload_n (q := 64) F dX7_add_63 rfl rfl 2 rfl ?_
      refine j_if_lt (q := 67) (tgt := 98) F dX7_add_64 (by decide) rfl ⟨by omega, by omega⟩ (fun h64_4 => ?_) (fun h64_4 => ?_)
      · skip
        refine j_aload_n (q := 99) F dX7_add_98 rfl rfl 0 rfl ?_
        refine j_getR (q := 102) (z := 83) (index := 7) F md82 rfl in_X7_add_7 0 (by decide) rfl fl_X7_add_7 dX7_add_99 rfl ?_
        refine j_bipush (q := 104) F dX7_add_102 rfl (by decide) ?_
        refine j_aload_n (q := 105) F dX7_add_104 rfl rfl 0 rfl ?_
        refine j_getR (q := 108) (z := 83) (index := 7) F md82 rfl in_X7_add_7 0 (by decide) rfl fl_X7_add_7 dX7_add_105 rfl ?_
        refine j_iconst (q := 109) F dX7_add_108 rfl ?_
        refine j_iald (q := 110) F ar83 (by omega) (by omega) (by decide) dX7_add_109 rfl ?_
        rw [show (mset (mset Mr 83 (4 + (M 83 0)) k) 83 0 ((M 83 0) + 1)) 83 3 = M 83 3 from by rw [mset_ne2 (by omega), mset_ne2 (by omega)]; exact r3]
        refine j_iadd (q := 111) (z := 28 + (M 83 3)) F dX7_add_110 rfl rfl ?_
        refine j_aload_n (q := 112) F dX7_add_111 rfl rfl 0 rfl ?_
        refine j_getR (q := 115) (z := 83) (index := 7) F md82 rfl in_X7_add_7 0 (by decide) rfl fl_X7_add_7 dX7_add_112 rfl ?_
        refine j_iconst (q := 116) F dX7_add_115 rfl ?_
        refine j_iald (q := 117) F ar83 (by omega) (by omega) (by decide) dX7_add_116 rfl ?_
        rw [show (mset (mset Mr 83 (4 + (M 83 0)) k) 83 0 ((M 83 0) + 1)) 83 0 = M 83 0 + 1 from by rw [mset_at]]
        refine j_iconst (q := 118) F dX7_add_117 rfl ?_
        refine j_isub (q := 119) (z := (M 83 0 + 1) - 1) F dX7_add_118 rfl rfl ?_
        refine j_iast (q := 120) F ar83 (by omega) (by omega) (by decide) dX7_add_119 rfl ?_
        refine j_aload_n (q := 121) F dX7_add_120 rfl rfl 0 rfl ?_
        refine j_getR (q := 124) (z := 83) (index := 7) F md82 rfl in_X7_add_7 0 (by decide) rfl fl_X7_add_7 dX7_add_121 rfl ?_
        refine j_bipush (q := 126) F dX7_add_124 rfl (by decide) ?_
        refine j_aload_n (q := 127) F dX7_add_126 rfl rfl 0 rfl ?_
        refine j_getR (q := 130) (z := 83) (index := 7) F md82 rfl in_X7_add_7 0 (by decide) rfl fl_X7_add_7 dX7_add_127 rfl ?_
        refine j_iconst (q := 131) F dX7_add_130 rfl ?_
        refine j_iald (q := 132) F ar83 (by omega) (by omega) (by decide) dX7_add_131 rfl ?_
        rw [show (mset (mset (mset Mr 83 (4 + (M 83 0)) k) 83 0 ((M 83 0) + 1)) 83 (28 + (M 83 3)) ((M 83 0 + 1) - 1)) 83 3 = M 83 3 from by rw [mset_ne2 (by omega), mset_ne2 (by omega), mset_ne2 (by omega)]; exact r3]
        refine j_iadd (q := 133) (z := 53 + (M 83 3)) F dX7_add_132 rfl rfl ?_
        refine j_iconst (q := 134) F dX7_add_133 rfl ?_
        refine j_iast (q := 135) F ar83 (by omega) (by omega) (by decide) dX7_add_134 rfl ?_
        refine j_aload_n (q := 136) F dX7_add_135 rfl rfl 0 rfl ?_
        refine j_getR (q := 139) (z := 83) (index := 7) F md82 rfl in_X7_add_7 0 (by decide) rfl fl_X7_add_7 dX7_add_136 rfl ?_
        refine j_iconst (q := 140) F dX7_add_139 rfl ?_
        refine j_dup2 (q := 141) F dX7_add_140 rfl rfl rfl ?_
        refine j_iald (q := 142) F ar83 (by omega) (by omega) (by decide) dX7_add_141 rfl ?_
        rw [show (mset (mset (mset (mset Mr 83 (4 + (M 83 0)) k) 83 0 ((M 83 0) + 1)) 83 (28 + (M 83 3)) ((M 83 0 + 1) - 1)) 83 (53 + (M 83 3)) 0) 83 3 = M 83 3 from by rw [mset_ne2 (by omega), mset_ne2 (by omega), mset_ne2 (by omega), mset_ne2 (by omega)]; exact r3]
        refine j_iconst (q := 143) F dX7_add_142 rfl ?_
        refine j_iadd (q := 144) (z := (M 83 3) + 1) F dX7_add_143 rfl rfl ?_
        refine j_iast (q := 145) F ar83 (by omega) (by omega) (by decide) dX7_add_144 rfl ?_
        refine j_aload_n (q := 146) F dX7_add_145 rfl rfl 0 rfl ?_
        refine j_getR (q := 149) (z := 83) (index := 7) F md82 rfl in_X7_add_7 0 (by decide) rfl fl_X7_add_7 dX7_add_146 rfl ?_
        refine j_iconst (q := 150) F dX7_add_149 rfl ?_
        refine j_iald (q := 151) F ar83 (by omega) (by omega) (by decide) dX7_add_150 rfl ?_
        rw [show (mset (mset (mset (mset (mset Mr 83 (4 + (M 83 0)) k) 83 0 ((M 83 0) + 1)) 83 (28 + (M 83 3)) ((M 83 0 + 1) - 1)) 83 (53 + (M 83 3)) 0) 83 3 ((M 83 3) + 1)) 83 0 = M 83 0 + 1 from by rw [mset_ne2 (by omega), mset_ne2 (by omega), mset_ne2 (by omega), mset_at]]
        refine j_iconst (q := 152) F dX7_add_151 rfl ?_
        refine j_isub (q := 153) (z := (M 83 0 + 1) - 1) F dX7_add_152 rfl rfl ?_
        refine hret _ _ _ _ dX7_add_153 ?_
        · have hrec := hr.to (N := (mset (mset (mset (mset (mset Mr 83 (4 + (M 83 0)) k) 83 0 ((M 83 0) + 1)) 83 (28 + (M 83 3)) ((M 83 0 + 1) - 1)) 83 (53 + (M 83 3)) 0) 83 3 ((M 83 3) + 1))) (by rw [mset_nef (by omega), mset_nef (by omega), mset_nef (by omega), mset_nef (by omega), mset_nef (by omega)]) (by rw [mset_nef (by omega), mset_nef (by omega), mset_nef (by omega), mset_nef (by omega), mset_nef (by omega)]) (by rw [mset_nef (by omega), mset_nef (by omega), mset_nef (by omega), mset_nef (by omega), mset_nef (by omega)])
          refine mpo_of (fun q a b c => by rw [mset_nef (by omega), mset_nef (by omega), mset_nef (by omega), mset_nef (by omega), mset_nef (by omega)]; exact hr.2.1 q a c) ?_
          refine Or.inr (Or.inr ⟨hwi, by omega, hrec.1, hrec.2, Or.inl ⟨?_, ?_⟩, by omega⟩)
          · first | exact Or.inl (by omega) | exact Or.inr (Or.inl (by assumption)) | exact Or.inr (Or.inr hft)
          · rw [mset_d, mset_d, mset_d, mset_d, mset_d, r83, show M 83 0 + 1 - 1 = M 83 0 by omega]
            exact fun _ _ _ => rfl
      · skip
        have hmk := (hD.2.2.2.2.2.2 (M 83 3 - 1) (by omega) (by omega)).2.1
        have hfirst : M 83 (28 + (M 83 3 - 1)) = sd (M 83) (M 83 3 - 1) := (sd_in (by omega)).symm
        have hbl := hD.bd (l := M 83 3 - 1) (by omega) (by omega)
        refine j_aload_n (q := 68) F dX7_add_67 rfl rfl 0 rfl ?_
        refine j_getR (q := 71) (z := 83) (index := 7) F md82 rfl in_X7_add_7 0 (by decide) rfl fl_X7_add_7 dX7_add_68 rfl ?_
        refine j_bipush (q := 73) F dX7_add_71 rfl (by decide) ?_
        refine j_iload_n (q := 74) F dX7_add_73 rfl rfl 2 rfl ?_
        refine j_iadd (q := 75) (z := 53 + ((M 83 3) - 1)) F dX7_add_74 rfl rfl ?_
        refine j_iald (q := 76) F ar83 (by omega) (by omega) (by decide) dX7_add_75 rfl ?_
        rw [show (mset (mset Mr 83 (4 + (M 83 0)) k) 83 0 ((M 83 0) + 1)) 83 (53 + ((M 83 3) - 1)) = M 83 (53 + (M 83 3 - 1)) from by rw [mset_ne2 (by omega), mset_ne2 (by omega), r83]]
        refine j_iconst (q := 77) F dX7_add_76 rfl ?_
        refine j_icmp_eq (q := 80) (tgt := 98) F dX7_add_77 (by decide) rfl ⟨by omega, by omega⟩ ⟨by decide, by decide⟩ (fun h77_5 => ?_) (fun h77_5 => ?_)
        · skip
          refine j_aload_n (q := 99) F dX7_add_98 rfl rfl 0 rfl ?_
          refine j_getR (q := 102) (z := 83) (index := 7) F md82 rfl in_X7_add_7 0 (by decide) rfl fl_X7_add_7 dX7_add_99 rfl ?_
          refine j_bipush (q := 104) F dX7_add_102 rfl (by decide) ?_
          refine j_aload_n (q := 105) F dX7_add_104 rfl rfl 0 rfl ?_
          refine j_getR (q := 108) (z := 83) (index := 7) F md82 rfl in_X7_add_7 0 (by decide) rfl fl_X7_add_7 dX7_add_105 rfl ?_
          refine j_iconst (q := 109) F dX7_add_108 rfl ?_
          refine j_iald (q := 110) F ar83 (by omega) (by omega) (by decide) dX7_add_109 rfl ?_
          rw [show (mset (mset Mr 83 (4 + (M 83 0)) k) 83 0 ((M 83 0) + 1)) 83 3 = M 83 3 from by rw [mset_ne2 (by omega), mset_ne2 (by omega)]; exact r3]
          refine j_iadd (q := 111) (z := 28 + (M 83 3)) F dX7_add_110 rfl rfl ?_
          refine j_aload_n (q := 112) F dX7_add_111 rfl rfl 0 rfl ?_
          refine j_getR (q := 115) (z := 83) (index := 7) F md82 rfl in_X7_add_7 0 (by decide) rfl fl_X7_add_7 dX7_add_112 rfl ?_
          refine j_iconst (q := 116) F dX7_add_115 rfl ?_
          refine j_iald (q := 117) F ar83 (by omega) (by omega) (by decide) dX7_add_116 rfl ?_
          rw [show (mset (mset Mr 83 (4 + (M 83 0)) k) 83 0 ((M 83 0) + 1)) 83 0 = M 83 0 + 1 from by rw [mset_at]]
          refine j_iconst (q := 118) F dX7_add_117 rfl ?_
          refine j_isub (q := 119) (z := (M 83 0 + 1) - 1) F dX7_add_118 rfl rfl ?_
          refine j_iast (q := 120) F ar83 (by omega) (by omega) (by decide) dX7_add_119 rfl ?_
          refine j_aload_n (q := 121) F dX7_add_120 rfl rfl 0 rfl ?_
          refine j_getR (q := 124) (z := 83) (index := 7) F md82 rfl in_X7_add_7 0 (by decide) rfl fl_X7_add_7 dX7_add_121 rfl ?_
          refine j_bipush (q := 126) F dX7_add_124 rfl (by decide) ?_
          refine j_aload_n (q := 127) F dX7_add_126 rfl rfl 0 rfl ?_
          refine j_getR (q := 130) (z := 83) (index := 7) F md82 rfl in_X7_add_7 0 (by decide) rfl fl_X7_add_7 dX7_add_127 rfl ?_
          refine j_iconst (q := 131) F dX7_add_130 rfl ?_
          refine j_iald (q := 132) F ar83 (by omega) (by omega) (by decide) dX7_add_131 rfl ?_
          rw [show (mset (mset (mset Mr 83 (4 + (M 83 0)) k) 83 0 ((M 83 0) + 1)) 83 (28 + (M 83 3)) ((M 83 0 + 1) - 1)) 83 3 = M 83 3 from by rw [mset_ne2 (by omega), mset_ne2 (by omega), mset_ne2 (by omega)]; exact r3]
          refine j_iadd (q := 133) (z := 53 + (M 83 3)) F dX7_add_132 rfl rfl ?_
          refine j_iconst (q := 134) F dX7_add_133 rfl ?_
          refine j_iast (q := 135) F ar83 (by omega) (by omega) (by decide) dX7_add_134 rfl ?_
          refine j_aload_n (q := 136) F dX7_add_135 rfl rfl 0 rfl ?_
          refine j_getR (q := 139) (z := 83) (index := 7) F md82 rfl in_X7_add_7 0 (by decide) rfl fl_X7_add_7 dX7_add_136 rfl ?_
          refine j_iconst (q := 140) F dX7_add_139 rfl ?_
          refine j_dup2 (q := 141) F dX7_add_140 rfl rfl rfl ?_
          refine j_iald (q := 142) F ar83 (by omega) (by omega) (by decide) dX7_add_141 rfl ?_
          rw [show (mset (mset (mset (mset Mr 83 (4 + (M 83 0)) k) 83 0 ((M 83 0) + 1)) 83 (28 + (M 83 3)) ((M 83 0 + 1) - 1)) 83 (53 + (M 83 3)) 0) 83 3 = M 83 3 from by rw [mset_ne2 (by omega), mset_ne2 (by omega), mset_ne2 (by omega), mset_ne2 (by omega)]; exact r3]
          refine j_iconst (q := 143) F dX7_add_142 rfl ?_
          refine j_iadd (q := 144) (z := (M 83 3) + 1) F dX7_add_143 rfl rfl ?_
          refine j_iast (q := 145) F ar83 (by omega) (by omega) (by decide) dX7_add_144 rfl ?_
          refine j_aload_n (q := 146) F dX7_add_145 rfl rfl 0 rfl ?_
          refine j_getR (q := 149) (z := 83) (index := 7) F md82 rfl in_X7_add_7 0 (by decide) rfl fl_X7_add_7 dX7_add_146 rfl ?_
          refine j_iconst (q := 150) F dX7_add_149 rfl ?_
          refine j_iald (q := 151) F ar83 (by omega) (by omega) (by decide) dX7_add_150 rfl ?_
          rw [show (mset (mset (mset (mset (mset Mr 83 (4 + (M 83 0)) k) 83 0 ((M 83 0) + 1)) 83 (28 + (M 83 3)) ((M 83 0 + 1) - 1)) 83 (53 + (M 83 3)) 0) 83 3 ((M 83 3) + 1)) 83 0 = M 83 0 + 1 from by rw [mset_ne2 (by omega), mset_ne2 (by omega), mset_ne2 (by omega), mset_at]]
          refine j_iconst (q := 152) F dX7_add_151 rfl ?_
          refine j_isub (q := 153) (z := (M 83 0 + 1) - 1) F dX7_add_152 rfl rfl ?_
          refine hret _ _ _ _ dX7_add_153 ?_
          · have hrec := hr.to (N := (mset (mset (mset (mset (mset Mr 83 (4 + (M 83 0)) k) 83 0 ((M 83 0) + 1)) 83 (28 + (M 83 3)) ((M 83 0 + 1) - 1)) 83 (53 + (M 83 3)) 0) 83 3 ((M 83 3) + 1))) (by rw [mset_nef (by omega), mset_nef (by omega), mset_nef (by omega), mset_nef (by omega), mset_nef (by omega)]) (by rw [mset_nef (by omega), mset_nef (by omega), mset_nef (by omega), mset_nef (by omega), mset_nef (by omega)]) (by rw [mset_nef (by omega), mset_nef (by omega), mset_nef (by omega), mset_nef (by omega), mset_nef (by omega)])
            refine mpo_of (fun q a b c => by rw [mset_nef (by omega), mset_nef (by omega), mset_nef (by omega), mset_nef (by omega), mset_nef (by omega)]; exact hr.2.1 q a c) ?_
            refine Or.inr (Or.inr ⟨hwi, by omega, hrec.1, hrec.2, Or.inl ⟨?_, ?_⟩, by omega⟩)
            · first | exact Or.inl (by omega) | exact Or.inr (Or.inl (by assumption)) | exact Or.inr (Or.inr hft)
            · rw [mset_d, mset_d, mset_d, mset_d, mset_d, r83, show M 83 0 + 1 - 1 = M 83 0 by omega]
              exact fun _ _ _ => rfl
        · skip
          refine j_aload_n (q := 81) F dX7_add_80 rfl rfl 0 rfl ?_
          refine j_aload_n (q := 82) F dX7_add_81 rfl rfl 0 rfl ?_
          refine j_iload_n (q := 83) F dX7_add_82 rfl rfl 2 rfl ?_
          refine j_callVE (q := 86) F [vI ((M 83 3) - 1)] (ct_X7_first l X hX (mset (mset Mr 83 (4 + (M 83 0)) k) 83 0 ((M 83 0) + 1)) ((M 83 3) - 1) (by omega) (by omega)) gX7_add_X7_first rfl cd_X7_first ⟨by first | exact Nat.le_of_ble_eq_true rfl | (simp only [rm]; omega) | (simp [rm, vI, vR, Value.category]; omega), by first | exact Nat.le_of_ble_eq_true rfl | (simp only [rm]; omega) | (simp [rm, vI, vR, Value.category]; omega), by first | exact Nat.le_of_ble_eq_true rfl | (simp only [rm]; omega) | (simp [rm, vI, vR, Value.category]; omega), by first | exact Nat.le_of_ble_eq_true rfl | (simp only [rm]; omega) | (simp [rm, vI, vR, Value.category]; omega)⟩ md82 rfl rfl rfl (Nat.le_of_ble_eq_true rfl) dX7_add_83 rfl ?_
          rw [show (mset (mset Mr 83 (4 + (M 83 0)) k) 83 0 ((M 83 0) + 1)) 83 (28 + ((M 83 3) - 1)) = sd (M 83) (M 83 3 - 1) from by rw [mset_ne2 (by omega), mset_ne2 (by omega), r83]; exact hfirst]
          refine j_aload_n (q := 87) F dX7_add_86 rfl rfl 0 rfl ?_
          refine j_getR (q := 90) (z := 83) (index := 7) F md82 rfl in_X7_add_7 0 (by decide) rfl fl_X7_add_7 dX7_add_87 rfl ?_
          refine j_iconst (q := 91) F dX7_add_90 rfl ?_
          refine j_iald (q := 92) F ar83 (by omega) (by omega) (by decide) dX7_add_91 rfl ?_
          rw [show (mset (mset Mr 83 (4 + (M 83 0)) k) 83 0 ((M 83 0) + 1)) 83 0 = M 83 0 + 1 from by rw [mset_at]]
          refine j_callVZ (q := 95) F [vI (sd (M 83) (M 83 3 - 1)), vI (M 83 0 + 1)] (ct_X7_fits l X hX (mset (mset Mr 83 (4 + (M 83 0)) k) 83 0 ((M 83 0) + 1)) (by rw [mset_d, mset_d, r83]; exact addW_wok hw (by omega) hwi) (sd (M 83) (M 83 3 - 1)) (M 83 0 + 1) (by omega) (by omega) (by rw [mset_at]; omega)) gX7_add_X7_fits rfl cd_X7_fits ⟨by first | exact Nat.le_of_ble_eq_true rfl | (simp only [rm]; omega) | (simp [rm, vI, vR, Value.category]; omega), by first | exact Nat.le_of_ble_eq_true rfl | (simp only [rm]; omega) | (simp [rm, vI, vR, Value.category]; omega), by first | exact Nat.le_of_ble_eq_true rfl | (simp only [rm]; omega) | (simp [rm, vI, vR, Value.category]; omega), by first | exact Nat.le_of_ble_eq_true rfl | (simp only [rm]; omega) | (simp [rm, vI, vR, Value.category]; omega)⟩ md82 rfl rfl rfl (Nat.le_of_ble_eq_true rfl) dX7_add_92 rfl (fun hft => ?_) (fun hft => ?_)
          · skip
            have hft : 0 ≤ exF (lenD (addW (M 83) k)) (M 83 1) (M 83 (28 + (M 83 3 - 1))) (M 83 0 + 1) := by
              rw [mset_d, mset_d, r83] at hft
              rw [hfirst, ← addW_ex (k := k) hnn.1]
              exact hft
            refine j_if_ne (q := 98) (tgt := 145) F dX7_add_95 (by decide) rfl ⟨by decide, by decide⟩ (fun _ => ?_) (fun h => absurd h (by decide))
            refine j_aload_n (q := 146) F dX7_add_145 rfl rfl 0 rfl ?_
            refine j_getR (q := 149) (z := 83) (index := 7) F md82 rfl in_X7_add_7 0 (by decide) rfl fl_X7_add_7 dX7_add_146 rfl ?_
            refine j_iconst (q := 150) F dX7_add_149 rfl ?_
            refine j_iald (q := 151) F ar83 (by omega) (by omega) (by decide) dX7_add_150 rfl ?_
            rw [show (mset (mset Mr 83 (4 + (M 83 0)) k) 83 0 ((M 83 0) + 1)) 83 0 = M 83 0 + 1 from by rw [mset_at]]
            refine j_iconst (q := 152) F dX7_add_151 rfl ?_
            refine j_isub (q := 153) (z := (M 83 0 + 1) - 1) F dX7_add_152 rfl rfl ?_
            refine hret _ _ _ _ dX7_add_153 ?_
            · have hrec := hr.to (N := (mset (mset Mr 83 (4 + (M 83 0)) k) 83 0 ((M 83 0) + 1))) (by rw [mset_nef (by omega), mset_nef (by omega)]) (by rw [mset_nef (by omega), mset_nef (by omega)]) (by rw [mset_nef (by omega), mset_nef (by omega)])
              refine mpo_of (fun q a b c => by rw [mset_nef (by omega), mset_nef (by omega)]; exact hr.2.1 q a c) ?_
              refine Or.inr (Or.inr ⟨hwi, by omega, hrec.1, hrec.2, Or.inr ⟨fun z => ?_, ?_⟩, by omega⟩)
              · rcases z with z | z | z
                · omega
                · omega
                · exact absurd (Int.lt_of_lt_of_le z hft) (Int.lt_irrefl _)
              · rw [mset_d, mset_d, r83]
                exact fun _ _ _ => rfl
          · skip
            have hft : exF (lenD (addW (M 83) k)) (M 83 1) (M 83 (28 + (M 83 3 - 1))) (M 83 0 + 1) < 0 := by
              rw [mset_d, mset_d, r83] at hft
              rw [hfirst, ← addW_ex (k := k) hnn.1]
              exact hft
            refine j_if_ne (q := 98) (tgt := 145) F dX7_add_95 (by decide) rfl ⟨by decide, by decide⟩ (fun h => absurd h (by decide)) (fun _ => ?_)
            refine j_aload_n (q := 99) F dX7_add_98 rfl rfl 0 rfl ?_
            refine j_getR (q := 102) (z := 83) (index := 7) F md82 rfl in_X7_add_7 0 (by decide) rfl fl_X7_add_7 dX7_add_99 rfl ?_
            refine j_bipush (q := 104) F dX7_add_102 rfl (by decide) ?_
            refine j_aload_n (q := 105) F dX7_add_104 rfl rfl 0 rfl ?_
            refine j_getR (q := 108) (z := 83) (index := 7) F md82 rfl in_X7_add_7 0 (by decide) rfl fl_X7_add_7 dX7_add_105 rfl ?_
            refine j_iconst (q := 109) F dX7_add_108 rfl ?_
            refine j_iald (q := 110) F ar83 (by omega) (by omega) (by decide) dX7_add_109 rfl ?_
            rw [show (mset (mset Mr 83 (4 + (M 83 0)) k) 83 0 ((M 83 0) + 1)) 83 3 = M 83 3 from by rw [mset_ne2 (by omega), mset_ne2 (by omega)]; exact r3]
            refine j_iadd (q := 111) (z := 28 + (M 83 3)) F dX7_add_110 rfl rfl ?_
            refine j_aload_n (q := 112) F dX7_add_111 rfl rfl 0 rfl ?_
            refine j_getR (q := 115) (z := 83) (index := 7) F md82 rfl in_X7_add_7 0 (by decide) rfl fl_X7_add_7 dX7_add_112 rfl ?_
            refine j_iconst (q := 116) F dX7_add_115 rfl ?_
            refine j_iald (q := 117) F ar83 (by omega) (by omega) (by decide) dX7_add_116 rfl ?_
            rw [show (mset (mset Mr 83 (4 + (M 83 0)) k) 83 0 ((M 83 0) + 1)) 83 0 = M 83 0 + 1 from by rw [mset_at]]
            refine j_iconst (q := 118) F dX7_add_117 rfl ?_
            refine j_isub (q := 119) (z := (M 83 0 + 1) - 1) F dX7_add_118 rfl rfl ?_
            refine j_iast (q := 120) F ar83 (by omega) (by omega) (by decide) dX7_add_119 rfl ?_
            refine j_aload_n (q := 121) F dX7_add_120 rfl rfl 0 rfl ?_
            refine j_getR (q := 124) (z := 83) (index := 7) F md82 rfl in_X7_add_7 0 (by decide) rfl fl_X7_add_7 dX7_add_121 rfl ?_
            refine j_bipush (q := 126) F dX7_add_124 rfl (by decide) ?_
            refine j_aload_n (q := 127) F dX7_add_126 rfl rfl 0 rfl ?_
            refine j_getR (q := 130) (z := 83) (index := 7) F md82 rfl in_X7_add_7 0 (by decide) rfl fl_X7_add_7 dX7_add_127 rfl ?_
            refine j_iconst (q := 131) F dX7_add_130 rfl ?_
            refine j_iald (q := 132) F ar83 (by omega) (by omega) (by decide) dX7_add_131 rfl ?_
            rw [show (mset (mset (mset Mr 83 (4 + (M 83 0)) k) 83 0 ((M 83 0) + 1)) 83 (28 + (M 83 3)) ((M 83 0 + 1) - 1)) 83 3 = M 83 3 from by rw [mset_ne2 (by omega), mset_ne2 (by omega), mset_ne2 (by omega)]; exact r3]
            refine j_iadd (q := 133) (z := 53 + (M 83 3)) F dX7_add_132 rfl rfl ?_
            refine j_iconst (q := 134) F dX7_add_133 rfl ?_
            refine j_iast (q := 135) F ar83 (by omega) (by omega) (by decide) dX7_add_134 rfl ?_
            refine j_aload_n (q := 136) F dX7_add_135 rfl rfl 0 rfl ?_
            refine j_getR (q := 139) (z := 83) (index := 7) F md82 rfl in_X7_add_7 0 (by decide) rfl fl_X7_add_7 dX7_add_136 rfl ?_
            refine j_iconst (q := 140) F dX7_add_139 rfl ?_
            refine j_dup2 (q := 141) F dX7_add_140 rfl rfl rfl ?_
            refine j_iald (q := 142) F ar83 (by omega) (by omega) (by decide) dX7_add_141 rfl ?_
            rw [show (mset (mset (mset (mset Mr 83 (4 + (M 83 0)) k) 83 0 ((M 83 0) + 1)) 83 (28 + (M 83 3)) ((M 83 0 + 1) - 1)) 83 (53 + (M 83 3)) 0) 83 3 = M 83 3 from by rw [mset_ne2 (by omega), mset_ne2 (by omega), mset_ne2 (by omega), mset_ne2 (by omega)]; exact r3]
            refine j_iconst (q := 143) F dX7_add_142 rfl ?_
            refine j_iadd (q := 144) (z := (M 83 3) + 1) F dX7_add_143 rfl rfl ?_
            refine j_iast (q := 145) F ar83 (by omega) (by omega) (by decide) dX7_add_144 rfl ?_
            refine j_aload_n (q := 146) F dX7_add_145 rfl rfl 0 rfl ?_
            refine j_getR (q := 149) (z := 83) (index := 7) F md82 rfl in_X7_add_7 0 (by decide) rfl fl_X7_add_7 dX7_add_146 rfl ?_
            refine j_iconst (q := 150) F dX7_add_149 rfl ?_
            refine j_iald (q := 151) F ar83 (by omega) (by omega) (by decide) dX7_add_150 rfl ?_
            rw [show (mset (mset (mset (mset (mset Mr 83 (4 + (M 83 0)) k) 83 0 ((M 83 0) + 1)) 83 (28 + (M 83 3)) ((M 83 0 + 1) - 1)) 83 (53 + (M 83 3)) 0) 83 3 ((M 83 3) + 1)) 83 0 = M 83 0 + 1 from by rw [mset_ne2 (by omega), mset_ne2 (by omega), mset_ne2 (by omega), mset_at]]
            refine j_iconst (q := 152) F dX7_add_151 rfl ?_
            refine j_isub (q := 153) (z := (M 83 0 + 1) - 1) F dX7_add_152 rfl rfl ?_
            refine hret _ _ _ _ dX7_add_153 ?_
            · have hrec := hr.to (N := (mset (mset (mset (mset (mset Mr 83 (4 + (M 83 0)) k) 83 0 ((M 83 0) + 1)) 83 (28 + (M 83 3)) ((M 83 0 + 1) - 1)) 83 (53 + (M 83 3)) 0) 83 3 ((M 83 3) + 1))) (by rw [mset_nef (by omega), mset_nef (by omega), mset_nef (by omega), mset_nef (by omega), mset_nef (by omega)]) (by rw [mset_nef (by omega), mset_nef (by omega), mset_nef (by omega), mset_nef (by omega), mset_nef (by omega)]) (by rw [mset_nef (by omega), mset_nef (by omega), mset_nef (by omega), mset_nef (by omega), mset_nef (by omega)])
              refine mpo_of (fun q a b c => by rw [mset_nef (by omega), mset_nef (by omega), mset_nef (by omega), mset_nef (by omega), mset_nef (by omega)]; exact hr.2.1 q a c) ?_
              refine Or.inr (Or.inr ⟨hwi, by omega, hrec.1, hrec.2, Or.inl ⟨?_, ?_⟩, by omega⟩)
              · first | exact Or.inl (by omega) | exact Or.inr (Or.inl (by assumption)) | exact Or.inr (Or.inr hft)
              · rw [mset_d, mset_d, mset_d, mset_d, mset_d, r83, show M 83 0 + 1 - 1 = M 83 0 by omega]
                exact fun _ _ _ => rfl
    · skip
      refine j_bipush (q := 25) F dX7_add_23 rfl (by decide) ?_
      exact hret _ _ _ _ dX7_add_25 (by exact mpo_of (fun _ _ _ _ => rfl) (Or.inr (Or.inl ⟨hwi, by omega, rfl, SM.rf M⟩)))
  · skip
    refine j_if_ne (q := 10) (tgt := 12) F dX7_add_7 (by decide) rfl ⟨by decide, by decide⟩ (fun h => absurd h (by decide)) (fun _ => ?_)
    refine j_iconst (q := 11) F dX7_add_10 rfl ?_
    exact hret _ _ _ _ dX7_add_11 (by exact mpo_of (fun _ _ _ _ => rfl) (Or.inl ⟨by omega, rfl, SM.rf M⟩))
theorem fl_X7_push_7 : Cond.fieldLink RX7 7 "WhiteRiversModel" "d" "[I" ∈ wsX7_push := by decide +kernel
theorem in_X7_push_7 : ∀ w ∈ u_ws RX7 TX7 19, w ∈ wsX7_push := by decide +kernel
set_option maxRecDepth 100000 in
set_option maxHeartbeats 1000000 in
theorem ct_X7_push (l : Launch) (X : Cx) (hX : Inj X) (M : Mem) (hD : DOK (M 83)) (hst : 0 ≤ M 82 2 ∧ M 82 2 ≤ 5) (n : Int) (hn0 : inR n) : CtI l X yX7_push wsX7_push 2 [vR X 82, vI n] M (fun r M' => MPO M (Opush M n) r M') := by
  refine CtI_of (cc := cX7_push) (maxL := 4) hX (by decide +kernel) rfl (Nat.le_of_ble_eq_true rfl) ?_
  intro zp ze zs zm zargs zbelow zmeth zc zQ F hret
  show J zp l ze (rm 2) zs zm zargs zbelow zmeth zc 0 0 zQ zs.heap X 4 M 0 [(0, vR X 82), (1, vI n)] []
  have hw := hD.w
  have hnn := hD.1
  have hww := hD.2.1
  have hlen := hw.2.2
  have hL24 := hD.L24
  have hss := hD.2.2.1
  have hdb := @DOK.bd _ hD
  obtain ⟨hn1, hn2⟩ := hn0
  refine j_aload_n (q := 1) F dX7_push_0 rfl rfl 0 rfl ?_
  refine j_iload_n (q := 2) F dX7_push_1 rfl rfl 1 rfl ?_
  refine j_callVZ (q := 5) F [vI n] (ct_X7_isLine l X hX M hD n ⟨by omega, by omega⟩) gX7_push_X7_isLine rfl cd_X7_isLine ⟨by first | exact Nat.le_of_ble_eq_true rfl | (simp only [rm]; omega) | (simp [rm, vI, vR, Value.category]; omega), by first | exact Nat.le_of_ble_eq_true rfl | (simp only [rm]; omega) | (simp [rm, vI, vR, Value.category]; omega), by first | exact Nat.le_of_ble_eq_true rfl | (simp only [rm]; omega) | (simp [rm, vI, vR, Value.category]; omega), by first | exact Nat.le_of_ble_eq_true rfl | (simp only [rm]; omega) | (simp [rm, vI, vR, Value.category]; omega)⟩ md82 rfl rfl rfl (Nat.le_of_ble_eq_true rfl) dX7_push_2 rfl (fun hli => ?_) (fun hli => ?_)
  · skip
    have hbl := hD.bd (l := n) hli.1 (by omega)
    have hbl1 := hD.bd (l := n + 1) (by omega) (by omega)
    have hseg := hD.2.2.2.2.2.2 n hli.1 hli.2
    have hfn : M 83 (28 + n) = sd (M 83) n := (sd_in hli.2).symm
    refine j_if_ne (q := 8) (tgt := 10) F dX7_push_5 (by decide) rfl ⟨by decide, by decide⟩ (fun _ => ?_) (fun h => absurd h (by decide))
    refine j_iload_n (q := 11) F dX7_push_10 rfl rfl 1 rfl ?_
    refine j_iconst (q := 12) F dX7_push_11 rfl ?_
    refine j_iadd (q := 13) (z := n + 1) F dX7_push_12 rfl rfl ?_
    refine j_aload_n (q := 14) F dX7_push_13 rfl rfl 0 rfl ?_
    refine j_getR (q := 17) (z := 83) (index := 7) F md82 rfl in_X7_push_7 0 (by decide) rfl fl_X7_push_7 dX7_push_14 rfl ?_
    refine j_iconst (q := 18) F dX7_push_17 rfl ?_
    refine j_iald (q := 19) F ar83 (by omega) (by omega) (by decide) dX7_push_18 rfl ?_
    refine j_icmp_ne (q := 22) (tgt := 26) F dX7_push_19 (by decide) rfl ⟨by omega, by omega⟩ ⟨by omega, by omega⟩ (fun h19_2 => ?_) (fun h19_2 => ?_)
    · skip
      refine j_iconst (q := 27) F dX7_push_26 rfl ?_
      refine j_istore_n (q := 28) (lv' := [(0, vR X 82), (1, vI n), (2, vI 0)]) F dX7_push_27 rfl rfl (by decide) rfl rfl ?_
      refine j_aload_n (q := 29) F dX7_push_28 rfl rfl 0 rfl ?_
      refine j_iload_n (q := 30) F dX7_push_29 rfl rfl 1 rfl ?_
      refine j_callVE (q := 33) F [vI n] (ct_X7_behind l X hX M (by omega) n (by omega) (by omega)) gX7_push_X7_behind rfl cd_X7_behind ⟨by first | exact Nat.le_of_ble_eq_true rfl | (simp only [rm]; omega) | (simp [rm, vI, vR, Value.category]; omega), by first | exact Nat.le_of_ble_eq_true rfl | (simp only [rm]; omega) | (simp [rm, vI, vR, Value.category]; omega), by first | exact Nat.le_of_ble_eq_true rfl | (simp only [rm]; omega) | (simp [rm, vI, vR, Value.category]; omega), by first | exact Nat.le_of_ble_eq_true rfl | (simp only [rm]; omega) | (simp [rm, vI, vR, Value.category]; omega)⟩ md82 rfl rfl rfl (Nat.le_of_ble_eq_true rfl) dX7_push_30 rfl ?_
      refine j_iconst (q := 34) F dX7_push_33 rfl ?_
      refine j_isub (q := 35) (z := (sd (M 83) (n + 1)) - 1) F dX7_push_34 rfl rfl ?_
      refine j_istore_n (q := 36) (lv' := [(0, vR X 82), (1, vI n), (2, vI 0), (3, vI ((sd (M 83) (n + 1)) - 1))]) F dX7_push_35 rfl rfl (by decide) rfl rfl ?_
      refine j_iload_n (q := 37) F dX7_push_36 rfl rfl 3 rfl ?_
      refine j_aload_n (q := 38) F dX7_push_37 rfl rfl 0 rfl ?_
      refine j_iload_n (q := 39) F dX7_push_38 rfl rfl 1 rfl ?_
      refine j_callVE (q := 42) F [vI n] (ct_X7_first l X hX M n (by omega) (by omega)) gX7_push_X7_first rfl cd_X7_first ⟨by first | exact Nat.le_of_ble_eq_true rfl | (simp only [rm]; omega) | (simp [rm, vI, vR, Value.category]; omega), by first | exact Nat.le_of_ble_eq_true rfl | (simp only [rm]; omega) | (simp [rm, vI, vR, Value.category]; omega), by first | exact Nat.le_of_ble_eq_true rfl | (simp only [rm]; omega) | (simp [rm, vI, vR, Value.category]; omega), by first | exact Nat.le_of_ble_eq_true rfl | (simp only [rm]; omega) | (simp [rm, vI, vR, Value.category]; omega)⟩ md82 rfl rfl rfl (Nat.le_of_ble_eq_true rfl) dX7_push_39 rfl ?_
      rw [show M 83 (28 + n) = sd (M 83) n from by exact hfn]
      refine j_icmp_eq (q := 45) (tgt := 92) F dX7_push_42 (by decide) rfl ⟨by omega, by omega⟩ ⟨by omega, by omega⟩ (fun h42_5 => ?_) (fun h42_5 => ?_)
      · skip
        refine j_bipush (q := 94) F dX7_push_92 rfl (by decide) ?_
        exact hret _ _ _ _ dX7_push_94 (by exact mpo_of (fun _ _ _ _ => rfl) (Or.inr (Or.inl ⟨hli, by first | exact Or.inl (by omega) | exact Or.inr (Or.inl (by assumption)) | exact Or.inr (Or.inr ⟨by omega, Or.inl (by rw [show 53 + (n + 1) = 53 + n + 1 by omega]; assumption)⟩) | exact Or.inr (Or.inr ⟨by omega, Or.inr hft⟩), rfl, SM.rf M⟩)))
      · skip
        refine j_aload_n (q := 46) F dX7_push_45 rfl rfl 0 rfl ?_
        refine j_getR (q := 49) (z := 83) (index := 7) F md82 rfl in_X7_push_7 0 (by decide) rfl fl_X7_push_7 dX7_push_46 rfl ?_
        refine j_bipush (q := 51) F dX7_push_49 rfl (by decide) ?_
        refine j_iload_n (q := 52) F dX7_push_51 rfl rfl 1 rfl ?_
        refine j_iadd (q := 53) (z := 53 + n) F dX7_push_52 rfl rfl ?_
        refine j_iald (q := 54) F ar83 (by omega) (by omega) (by decide) dX7_push_53 rfl ?_
        refine j_iconst (q := 55) F dX7_push_54 rfl ?_
        refine j_icmp_eq (q := 58) (tgt := 92) F dX7_push_55 (by decide) rfl ⟨by omega, by omega⟩ ⟨by decide, by decide⟩ (fun h55_6 => ?_) (fun h55_6 => ?_)
        · skip
          refine j_bipush (q := 94) F dX7_push_92 rfl (by decide) ?_
          exact hret _ _ _ _ dX7_push_94 (by exact mpo_of (fun _ _ _ _ => rfl) (Or.inr (Or.inl ⟨hli, by first | exact Or.inl (by omega) | exact Or.inr (Or.inl (by assumption)) | exact Or.inr (Or.inr ⟨by omega, Or.inl (by rw [show 53 + (n + 1) = 53 + n + 1 by omega]; assumption)⟩) | exact Or.inr (Or.inr ⟨by omega, Or.inr hft⟩), rfl, SM.rf M⟩)))
        · skip
          refine j_iload_n (q := 59) F dX7_push_58 rfl rfl 2 rfl ?_
          refine j_if_ne (q := 62) (tgt := 95) F dX7_push_59 (by decide) rfl ⟨by decide, by decide⟩ (fun h => absurd h (by decide)) (fun _ => ?_)
          have hmk2 := (hD.2.2.2.2.2.2 (n + 1) (by omega) (by omega)).2.1
          rw [show 53 + (n + 1) = 53 + n + 1 by omega] at hmk2
          refine j_aload_n (q := 63) F dX7_push_62 rfl rfl 0 rfl ?_
          refine j_getR (q := 66) (z := 83) (index := 7) F md82 rfl in_X7_push_7 0 (by decide) rfl fl_X7_push_7 dX7_push_63 rfl ?_
          refine j_bipush (q := 68) F dX7_push_66 rfl (by decide) ?_
          refine j_iload_n (q := 69) F dX7_push_68 rfl rfl 1 rfl ?_
          refine j_iadd (q := 70) (z := 53 + n) F dX7_push_69 rfl rfl ?_
          refine j_iconst (q := 71) F dX7_push_70 rfl ?_
          refine j_iadd (q := 72) (z := (53 + n) + 1) F dX7_push_71 rfl rfl ?_
          refine j_iald (q := 73) F ar83 (by omega) (by omega) (by decide) dX7_push_72 rfl ?_
          refine j_iconst (q := 74) F dX7_push_73 rfl ?_
          refine j_icmp_eq (q := 77) (tgt := 92) F dX7_push_74 (by decide) rfl ⟨by omega, by omega⟩ ⟨by decide, by decide⟩ (fun h74_7 => ?_) (fun h74_7 => ?_)
          · skip
            refine j_bipush (q := 94) F dX7_push_92 rfl (by decide) ?_
            exact hret _ _ _ _ dX7_push_94 (by exact mpo_of (fun _ _ _ _ => rfl) (Or.inr (Or.inl ⟨hli, by first | exact Or.inl (by omega) | exact Or.inr (Or.inl (by assumption)) | exact Or.inr (Or.inr ⟨by omega, Or.inl (by rw [show 53 + (n + 1) = 53 + n + 1 by omega]; assumption)⟩) | exact Or.inr (Or.inr ⟨by omega, Or.inr hft⟩), rfl, SM.rf M⟩)))
          · skip
            have hb2 := hD.bd (l := n + 2) (by omega) (by omega)
            have hs2 := (hD.2.2.2.2.2.2 (n + 1) (by omega) (by omega)).1
            rw [show n + 1 + 1 = n + 2 by omega] at hs2
            refine j_aload_n (q := 78) F dX7_push_77 rfl rfl 0 rfl ?_
            refine j_iload_n (q := 79) F dX7_push_78 rfl rfl 3 rfl ?_
            refine j_aload_n (q := 80) F dX7_push_79 rfl rfl 0 rfl ?_
            refine j_iload_n (q := 81) F dX7_push_80 rfl rfl 1 rfl ?_
            refine j_iconst (q := 82) F dX7_push_81 rfl ?_
            refine j_iadd (q := 83) (z := n + 1) F dX7_push_82 rfl rfl ?_
            refine j_callVE (q := 86) F [vI (n + 1)] (ct_X7_behind l X hX M (by omega) (n + 1) (by omega) (by omega)) gX7_push_X7_behind rfl cd_X7_behind ⟨by first | exact Nat.le_of_ble_eq_true rfl | (simp only [rm]; omega) | (simp [rm, vI, vR, Value.category]; omega), by first | exact Nat.le_of_ble_eq_true rfl | (simp only [rm]; omega) | (simp [rm, vI, vR, Value.category]; omega), by first | exact Nat.le_of_ble_eq_true rfl | (simp only [rm]; omega) | (simp [rm, vI, vR, Value.category]; omega), by first | exact Nat.le_of_ble_eq_true rfl | (simp only [rm]; omega) | (simp [rm, vI, vR, Value.category]; omega)⟩ md82 rfl rfl rfl (Nat.le_of_ble_eq_true rfl) dX7_push_83 rfl ?_
            rw [show sd (M 83) ((n + 1) + 1) = sd (M 83) (n + 2) from by rw [show n + 1 + 1 = n + 2 by omega]]
            refine j_callVZ (q := 89) F [vI ((sd (M 83) (n + 1)) - 1), vI (sd (M 83) (n + 2))] (ct_X7_fits l X hX M hw ((sd (M 83) (n + 1)) - 1) (sd (M 83) (n + 2)) (by omega) (by omega) (by omega)) gX7_push_X7_fits rfl cd_X7_fits ⟨by first | exact Nat.le_of_ble_eq_true rfl | (simp only [rm]; omega) | (simp [rm, vI, vR, Value.category]; omega), by first | exact Nat.le_of_ble_eq_true rfl | (simp only [rm]; omega) | (simp [rm, vI, vR, Value.category]; omega), by first | exact Nat.le_of_ble_eq_true rfl | (simp only [rm]; omega) | (simp [rm, vI, vR, Value.category]; omega), by first | exact Nat.le_of_ble_eq_true rfl | (simp only [rm]; omega) | (simp [rm, vI, vR, Value.category]; omega)⟩ md82 rfl rfl rfl (Nat.le_of_ble_eq_true rfl) dX7_push_86 rfl (fun hft => ?_) (fun hft => ?_)
            · skip
              refine j_if_ne (q := 92) (tgt := 95) F dX7_push_89 (by decide) rfl ⟨by decide, by decide⟩ (fun _ => ?_) (fun h => absurd h (by decide))
              refine j_aload_n (q := 96) F dX7_push_95 rfl rfl 0 rfl ?_
              refine j_callVV (q := 99) F [] (ct_X7_records l X hX M (by omega)) gX7_push_X7_records rfl cd_X7_records ⟨by first | exact Nat.le_of_ble_eq_true rfl | (simp only [rm]; omega) | (simp [rm, vI, vR, Value.category]; omega), by first | exact Nat.le_of_ble_eq_true rfl | (simp only [rm]; omega) | (simp [rm, vI, vR, Value.category]; omega), by first | exact Nat.le_of_ble_eq_true rfl | (simp only [rm]; omega) | (simp [rm, vI, vR, Value.category]; omega), by first | exact Nat.le_of_ble_eq_true rfl | (simp only [rm]; omega) | (simp [rm, vI, vR, Value.category]; omega)⟩ md82 rfl rfl rfl (Nat.le_of_ble_eq_true rfl) dX7_push_96 rfl (fun Mr hr => ?_)
              have r83 : Mr 83 = M 83 := hr.2.1 83 (by decide) (by decide)
              have r0 : Mr 83 0 = M 83 0 := by rw [r83]
              have r1 : Mr 83 1 = M 83 1 := by rw [r83]
              have r2 : Mr 83 2 = M 83 2 := by rw [r83]
              have r3 : Mr 83 3 = M 83 3 := by rw [r83]
              refine j_aload_n (q := 100) F dX7_push_99 rfl rfl 0 rfl ?_
              refine j_getR (q := 103) (z := 83) (index := 7) F md82 rfl in_X7_push_7 0 (by decide) rfl fl_X7_push_7 dX7_push_100 rfl ?_
              refine j_bipush (q := 105) F dX7_push_103 rfl (by decide) ?_
              refine j_iload_n (q := 106) F dX7_push_105 rfl rfl 1 rfl ?_
              refine j_iadd (q := 107) (z := 28 + n) F dX7_push_106 rfl rfl ?_
              refine j_iconst (q := 108) F dX7_push_107 rfl ?_
              refine j_iadd (q := 109) (z := (28 + n) + 1) F dX7_push_108 rfl rfl ?_
              refine j_iload_n (q := 110) F dX7_push_109 rfl rfl 3 rfl ?_
              refine j_iast (q := 111) F ar83 (by omega) (by omega) (by decide) dX7_push_110 rfl ?_
              refine j_iload_n (q := 112) F dX7_push_111 rfl rfl 2 rfl ?_
              refine j_if_eq (q := 115) (tgt := 137) F dX7_push_112 (by decide) rfl ⟨by decide, by decide⟩ (fun _ => ?_) (fun h => absurd h (by decide))
              refine j_aload_n (q := 138) F dX7_push_137 rfl rfl 0 rfl ?_
              refine j_getR (q := 141) (z := 83) (index := 7) F md82 rfl in_X7_push_7 0 (by decide) rfl fl_X7_push_7 dX7_push_138 rfl ?_
              refine j_iconst (q := 142) F dX7_push_141 rfl ?_
              refine j_iald (q := 143) F ar83 (by omega) (by omega) (by decide) dX7_push_142 rfl ?_
              refine hret _ _ _ _ dX7_push_143 ?_
              · have hrec := hr.to (N := (mset Mr 83 ((28 + n) + 1) ((sd (M 83) (n + 1)) - 1))) (by rw [mset_nef (by omega)]) (by rw [mset_nef (by omega)]) (by rw [mset_nef (by omega)])
                refine mpo_of (fun q a b c => by rw [mset_nef (by omega)]; exact hr.2.1 q a c) ?_
                refine Or.inr (Or.inr ⟨hli, fun z => ?_, hrec.1, hrec.2, Or.inr ⟨by omega, ?_⟩, ?_⟩)
                · rcases z with z | z | ⟨z0, z | z⟩
                  · omega
                  · omega
                  · rw [show 53 + (n + 1) = 53 + n + 1 by omega] at z; omega
                  · omega
                · rw [mset_d, r83, show 28 + n + 1 = 28 + (n + 1) by omega]
                  exact fun _ _ _ => rfl
                · rfl
            · skip
              refine j_if_ne (q := 92) (tgt := 95) F dX7_push_89 (by decide) rfl ⟨by decide, by decide⟩ (fun h => absurd h (by decide)) (fun _ => ?_)
              refine j_bipush (q := 94) F dX7_push_92 rfl (by decide) ?_
              exact hret _ _ _ _ dX7_push_94 (by exact mpo_of (fun _ _ _ _ => rfl) (Or.inr (Or.inl ⟨hli, by first | exact Or.inl (by omega) | exact Or.inr (Or.inl (by assumption)) | exact Or.inr (Or.inr ⟨by omega, Or.inl (by rw [show 53 + (n + 1) = 53 + n + 1 by omega]; assumption)⟩) | exact Or.inr (Or.inr ⟨by omega, Or.inr hft⟩), rfl, SM.rf M⟩)))
    · skip
      refine j_iconst (q := 23) F dX7_push_22 rfl ?_
      refine j_goto (q := 27) F dX7_push_23 (by decide) ?_
      refine j_istore_n (q := 28) (lv' := [(0, vR X 82), (1, vI n), (2, vI 1)]) F dX7_push_27 rfl rfl (by decide) rfl rfl ?_
      refine j_aload_n (q := 29) F dX7_push_28 rfl rfl 0 rfl ?_
      refine j_iload_n (q := 30) F dX7_push_29 rfl rfl 1 rfl ?_
      refine j_callVE (q := 33) F [vI n] (ct_X7_behind l X hX M (by omega) n (by omega) (by omega)) gX7_push_X7_behind rfl cd_X7_behind ⟨by first | exact Nat.le_of_ble_eq_true rfl | (simp only [rm]; omega) | (simp [rm, vI, vR, Value.category]; omega), by first | exact Nat.le_of_ble_eq_true rfl | (simp only [rm]; omega) | (simp [rm, vI, vR, Value.category]; omega), by first | exact Nat.le_of_ble_eq_true rfl | (simp only [rm]; omega) | (simp [rm, vI, vR, Value.category]; omega), by first | exact Nat.le_of_ble_eq_true rfl | (simp only [rm]; omega) | (simp [rm, vI, vR, Value.category]; omega)⟩ md82 rfl rfl rfl (Nat.le_of_ble_eq_true rfl) dX7_push_30 rfl ?_
      refine j_iconst (q := 34) F dX7_push_33 rfl ?_
      refine j_isub (q := 35) (z := (sd (M 83) (n + 1)) - 1) F dX7_push_34 rfl rfl ?_
      refine j_istore_n (q := 36) (lv' := [(0, vR X 82), (1, vI n), (2, vI 1), (3, vI ((sd (M 83) (n + 1)) - 1))]) F dX7_push_35 rfl rfl (by decide) rfl rfl ?_
      refine j_iload_n (q := 37) F dX7_push_36 rfl rfl 3 rfl ?_
      refine j_aload_n (q := 38) F dX7_push_37 rfl rfl 0 rfl ?_
      refine j_iload_n (q := 39) F dX7_push_38 rfl rfl 1 rfl ?_
      refine j_callVE (q := 42) F [vI n] (ct_X7_first l X hX M n (by omega) (by omega)) gX7_push_X7_first rfl cd_X7_first ⟨by first | exact Nat.le_of_ble_eq_true rfl | (simp only [rm]; omega) | (simp [rm, vI, vR, Value.category]; omega), by first | exact Nat.le_of_ble_eq_true rfl | (simp only [rm]; omega) | (simp [rm, vI, vR, Value.category]; omega), by first | exact Nat.le_of_ble_eq_true rfl | (simp only [rm]; omega) | (simp [rm, vI, vR, Value.category]; omega), by first | exact Nat.le_of_ble_eq_true rfl | (simp only [rm]; omega) | (simp [rm, vI, vR, Value.category]; omega)⟩ md82 rfl rfl rfl (Nat.le_of_ble_eq_true rfl) dX7_push_39 rfl ?_
      rw [show M 83 (28 + n) = sd (M 83) n from by exact hfn]
      refine j_icmp_eq (q := 45) (tgt := 92) F dX7_push_42 (by decide) rfl ⟨by omega, by omega⟩ ⟨by omega, by omega⟩ (fun h42_13 => ?_) (fun h42_13 => ?_)
      · skip
        refine j_bipush (q := 94) F dX7_push_92 rfl (by decide) ?_
        exact hret _ _ _ _ dX7_push_94 (by exact mpo_of (fun _ _ _ _ => rfl) (Or.inr (Or.inl ⟨hli, by first | exact Or.inl (by omega) | exact Or.inr (Or.inl (by assumption)) | exact Or.inr (Or.inr ⟨by omega, Or.inl (by rw [show 53 + (n + 1) = 53 + n + 1 by omega]; assumption)⟩) | exact Or.inr (Or.inr ⟨by omega, Or.inr hft⟩), rfl, SM.rf M⟩)))
      · skip
        refine j_aload_n (q := 46) F dX7_push_45 rfl rfl 0 rfl ?_
        refine j_getR (q := 49) (z := 83) (index := 7) F md82 rfl in_X7_push_7 0 (by decide) rfl fl_X7_push_7 dX7_push_46 rfl ?_
        refine j_bipush (q := 51) F dX7_push_49 rfl (by decide) ?_
        refine j_iload_n (q := 52) F dX7_push_51 rfl rfl 1 rfl ?_
        refine j_iadd (q := 53) (z := 53 + n) F dX7_push_52 rfl rfl ?_
        refine j_iald (q := 54) F ar83 (by omega) (by omega) (by decide) dX7_push_53 rfl ?_
        refine j_iconst (q := 55) F dX7_push_54 rfl ?_
        refine j_icmp_eq (q := 58) (tgt := 92) F dX7_push_55 (by decide) rfl ⟨by omega, by omega⟩ ⟨by decide, by decide⟩ (fun h55_14 => ?_) (fun h55_14 => ?_)
        · skip
          refine j_bipush (q := 94) F dX7_push_92 rfl (by decide) ?_
          exact hret _ _ _ _ dX7_push_94 (by exact mpo_of (fun _ _ _ _ => rfl) (Or.inr (Or.inl ⟨hli, by first | exact Or.inl (by omega) | exact Or.inr (Or.inl (by assumption)) | exact Or.inr (Or.inr ⟨by omega, Or.inl (by rw [show 53 + (n + 1) = 53 + n + 1 by omega]; assumption)⟩) | exact Or.inr (Or.inr ⟨by omega, Or.inr hft⟩), rfl, SM.rf M⟩)))
        · skip
          refine j_iload_n (q := 59) F dX7_push_58 rfl rfl 2 rfl ?_
          refine j_if_ne (q := 62) (tgt := 95) F dX7_push_59 (by decide) rfl ⟨by decide, by decide⟩ (fun _ => ?_) (fun h => absurd h (by decide))
          refine j_aload_n (q := 96) F dX7_push_95 rfl rfl 0 rfl ?_
          refine j_callVV (q := 99) F [] (ct_X7_records l X hX M (by omega)) gX7_push_X7_records rfl cd_X7_records ⟨by first | exact Nat.le_of_ble_eq_true rfl | (simp only [rm]; omega) | (simp [rm, vI, vR, Value.category]; omega), by first | exact Nat.le_of_ble_eq_true rfl | (simp only [rm]; omega) | (simp [rm, vI, vR, Value.category]; omega), by first | exact Nat.le_of_ble_eq_true rfl | (simp only [rm]; omega) | (simp [rm, vI, vR, Value.category]; omega), by first | exact Nat.le_of_ble_eq_true rfl | (simp only [rm]; omega) | (simp [rm, vI, vR, Value.category]; omega)⟩ md82 rfl rfl rfl (Nat.le_of_ble_eq_true rfl) dX7_push_96 rfl (fun Mr hr => ?_)
          have r83 : Mr 83 = M 83 := hr.2.1 83 (by decide) (by decide)
          have r0 : Mr 83 0 = M 83 0 := by rw [r83]
          have r1 : Mr 83 1 = M 83 1 := by rw [r83]
          have r2 : Mr 83 2 = M 83 2 := by rw [r83]
          have r3 : Mr 83 3 = M 83 3 := by rw [r83]
          refine j_aload_n (q := 100) F dX7_push_99 rfl rfl 0 rfl ?_
          refine j_getR (q := 103) (z := 83) (index := 7) F md82 rfl in_X7_push_7 0 (by decide) rfl fl_X7_push_7 dX7_push_100 rfl ?_
          refine j_bipush (q := 105) F dX7_push_103 rfl (by decide) ?_
          refine j_iload_n (q := 106) F dX7_push_105 rfl rfl 1 rfl ?_
          refine j_iadd (q := 107) (z := 28 + n) F dX7_push_106 rfl rfl ?_
          refine j_iconst (q := 108) F dX7_push_107 rfl ?_
          refine j_iadd (q := 109) (z := (28 + n) + 1) F dX7_push_108 rfl rfl ?_
          refine j_iload_n (q := 110) F dX7_push_109 rfl rfl 3 rfl ?_
          refine j_iast (q := 111) F ar83 (by omega) (by omega) (by decide) dX7_push_110 rfl ?_
          refine j_iload_n (q := 112) F dX7_push_111 rfl rfl 2 rfl ?_
          refine j_if_eq (q := 115) (tgt := 137) F dX7_push_112 (by decide) rfl ⟨by decide, by decide⟩ (fun h => absurd h (by decide)) (fun _ => ?_)
          refine j_aload_n (q := 116) F dX7_push_115 rfl rfl 0 rfl ?_
          refine j_getR (q := 119) (z := 83) (index := 7) F md82 rfl in_X7_push_7 0 (by decide) rfl fl_X7_push_7 dX7_push_116 rfl ?_
          refine j_bipush (q := 121) F dX7_push_119 rfl (by decide) ?_
          refine j_iload_n (q := 122) F dX7_push_121 rfl rfl 1 rfl ?_
          refine j_iadd (q := 123) (z := 53 + n) F dX7_push_122 rfl rfl ?_
          refine j_iconst (q := 124) F dX7_push_123 rfl ?_
          refine j_iadd (q := 125) (z := (53 + n) + 1) F dX7_push_124 rfl rfl ?_
          refine j_iconst (q := 126) F dX7_push_125 rfl ?_
          refine j_iast (q := 127) F ar83 (by omega) (by omega) (by decide) dX7_push_126 rfl ?_
          refine j_aload_n (q := 128) F dX7_push_127 rfl rfl 0 rfl ?_
          refine j_getR (q := 131) (z := 83) (index := 7) F md82 rfl in_X7_push_7 0 (by decide) rfl fl_X7_push_7 dX7_push_128 rfl ?_
          refine j_iconst (q := 132) F dX7_push_131 rfl ?_
          refine j_dup2 (q := 133) F dX7_push_132 rfl rfl rfl ?_
          refine j_iald (q := 134) F ar83 (by omega) (by omega) (by decide) dX7_push_133 rfl ?_
          rw [show (mset (mset Mr 83 ((28 + n) + 1) ((sd (M 83) (n + 1)) - 1)) 83 ((53 + n) + 1) 0) 83 3 = M 83 3 from by rw [mset_ne2 (by omega), mset_ne2 (by omega)]; exact r3]
          refine j_iconst (q := 135) F dX7_push_134 rfl ?_
          refine j_iadd (q := 136) (z := (M 83 3) + 1) F dX7_push_135 rfl rfl ?_
          refine j_iast (q := 137) F ar83 (by omega) (by omega) (by decide) dX7_push_136 rfl ?_
          refine j_aload_n (q := 138) F dX7_push_137 rfl rfl 0 rfl ?_
          refine j_getR (q := 141) (z := 83) (index := 7) F md82 rfl in_X7_push_7 0 (by decide) rfl fl_X7_push_7 dX7_push_138 rfl ?_
          refine j_iconst (q := 142) F dX7_push_141 rfl ?_
          refine j_iald (q := 143) F ar83 (by omega) (by omega) (by decide) dX7_push_142 rfl ?_
          rw [show (mset (mset (mset Mr 83 ((28 + n) + 1) ((sd (M 83) (n + 1)) - 1)) 83 ((53 + n) + 1) 0) 83 3 ((M 83 3) + 1)) 83 3 = (M 83 3) + 1 from by simp [mset]]
          refine hret _ _ _ _ dX7_push_143 ?_
          · have hrec := hr.to (N := (mset (mset (mset Mr 83 ((28 + n) + 1) ((sd (M 83) (n + 1)) - 1)) 83 ((53 + n) + 1) 0) 83 3 ((M 83 3) + 1))) (by rw [mset_nef (by omega), mset_nef (by omega), mset_nef (by omega)]) (by rw [mset_nef (by omega), mset_nef (by omega), mset_nef (by omega)]) (by rw [mset_nef (by omega), mset_nef (by omega), mset_nef (by omega)])
            refine mpo_of (fun q a b c => by rw [mset_nef (by omega), mset_nef (by omega), mset_nef (by omega)]; exact hr.2.1 q a c) ?_
            refine Or.inr (Or.inr ⟨hli, fun z => ?_, hrec.1, hrec.2, Or.inl ⟨by omega, ?_⟩, ?_⟩)
            · rcases z with z | z | ⟨z0, z | z⟩ <;> omega
            · rw [mset_d, mset_d, mset_d, r83, show 28 + n + 1 = 28 + (n + 1) by omega, show 53 + n + 1 = 53 + (n + 1) by omega, show sd (M 83) (n + 1) = M 83 0 from sd_L (by omega)]
              exact fun _ _ _ => rfl
            · rw [mset_at]
  · skip
    refine j_if_ne (q := 8) (tgt := 10) F dX7_push_5 (by decide) rfl ⟨by decide, by decide⟩ (fun h => absurd h (by decide)) (fun _ => ?_)
    refine j_iconst (q := 9) F dX7_push_8 rfl ?_
    exact hret _ _ _ _ dX7_push_9 (by exact mpo_of (fun _ _ _ _ => rfl) (Or.inl ⟨fun z => by have z1 := z.1; have z2 := z.2; omega, rfl, SM.rf M⟩))
