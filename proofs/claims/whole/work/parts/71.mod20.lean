theorem cd_X7_may : yX7_may.cls = RX7 ∧ yX7_may.cls ≠ "java/lang/invoke/MethodHandle" ∧ yX7_may.cls ≠ "java/lang/invoke/VarHandle" ∧ (parseMethodDescriptor yX7_may.desc).map (fun d => d.parameters.length) = some 2 := by decide +kernel
theorem cd_X7_takes : yX7_takes.cls = RX7 ∧ yX7_takes.cls ≠ "java/lang/invoke/MethodHandle" ∧ yX7_takes.cls ≠ "java/lang/invoke/VarHandle" ∧ (parseMethodDescriptor yX7_takes.desc).map (fun d => d.parameters.length) = some 1 := by decide +kernel
theorem fl_X7_plans_136 : Cond.fieldLink RX7 136 "WhiteRiversModel" "bestChanged" "I" ∈ wsX7_plans := by decide +kernel
theorem fl_X7_plans_139 : Cond.fieldLink RX7 139 "WhiteRiversModel" "bestBad" "I" ∈ wsX7_plans := by decide +kernel
theorem fl_X7_plans_32 : Cond.fieldLink RX7 32 "WhiteRiversModel" "at" "[I" ∈ wsX7_plans := by decide +kernel
theorem fl_X7_plans_35 : Cond.fieldLink RX7 35 "WhiteRiversModel" "next" "[I" ∈ wsX7_plans := by decide +kernel
theorem fl_X7_plans_38 : Cond.fieldLink RX7 38 "WhiteRiversModel" "changed" "[I" ∈ wsX7_plans := by decide +kernel
theorem fl_X7_plans_41 : Cond.fieldLink RX7 41 "WhiteRiversModel" "bad" "[I" ∈ wsX7_plans := by decide +kernel
theorem fl_X7_plans_44 : Cond.fieldLink RX7 44 "WhiteRiversModel" "longest" "[I" ∈ wsX7_plans := by decide +kernel
theorem fl_X7_plans_7 : Cond.fieldLink RX7 7 "WhiteRiversModel" "d" "[I" ∈ wsX7_plans := by decide +kernel
theorem in_X7_plans_7 : ∀ w ∈ u_ws RX7 TX7 19, w ∈ wsX7_plans := by decide +kernel
set_option maxRecDepth 100000 in
set_option maxHeartbeats 4000000 in
theorem ct_X7_plans (l : Launch) (X : Cx) (hX : Inj X) (M : Mem) (hD : DOK (M 83)) (hz : M 90 0 = 0 ∧ M 92 0 = 0 ∧ M 93 0 = 0 ∧ M 94 0 = 0) (D : Int) (hDD : 1 ≤ D ∧ D ≤ 24) : CtI l X yX7_plans wsX7_plans 3 [vR X 82, vI D] M (fun x M' => SI M M' D (-1) (SOL (M 83) D) ∧ (x = 1 ∧ M' 82 16 ≠ -1 ∨ x = 0 ∧ M' 82 16 = -1)) := by
  refine CtI_ofZ (cc := cX7_plans) (maxL := 8) hX (by decide +kernel) rfl (Nat.le_of_ble_eq_true rfl) ?_
  intro zp ze zs zm zargs zbelow zmeth zc zQ F hret
  show J zp l ze (rm 3) zs zm zargs zbelow zmeth zc 0 0 zQ zs.heap X 8 M 0 [(0, vR X 82), (1, vI D)] []
  have hw := hD.w
  have hnn := hD.1
  have hww := hD.2.1
  have hlen := hw.2.2
  have hL24 := hD.L24
  have hss := hD.2.2.1
  refine j_aload_n (q := 1) F dX7_plans_0 rfl rfl 0 rfl ?_
  refine j_iconst (q := 2) F dX7_plans_1 rfl ?_
  refine j_putI (q := 5) (i := 16) (index := 136) F md82 rfl in_X7_plans_7 16 (by decide) tyX7_ok nmX7 rfl rfl rfl rfl fl_X7_plans_136 dX7_plans_2 rfl ?_
  refine j_iconst (q := 6) F dX7_plans_5 rfl ?_
  refine j_istore_n (q := 7) (lv' := [(0, vR X 82), (1, vI D), (2, vI 0)]) F dX7_plans_6 rfl rfl (by decide) rfl rfl ?_
  refine j_aload_n (q := 8) F dX7_plans_7 rfl rfl 0 rfl ?_
  refine j_getR (q := 11) (z := 91) (index := 35) F md82 rfl in_X7_plans_7 10 (by decide) rfl fl_X7_plans_35 dX7_plans_8 rfl ?_
  refine j_iconst (q := 12) F dX7_plans_11 rfl ?_
  refine j_aload_n (q := 13) F dX7_plans_12 rfl rfl 0 rfl ?_
  refine j_iconst (q := 14) F dX7_plans_13 rfl ?_
  refine j_callVP (q := 17) F [vI 0] (ct_X7_mostFrom l X hX (mset M 82 16 ((-1))) (by rw [mset_nef (by decide)]; exact hw) 0 (by omega) (by rw [mset_nef (by decide)]; omega)) gX7_plans_X7_mostFrom rfl cd_X7_mostFrom ⟨by first | exact Nat.le_of_ble_eq_true rfl | (simp only [rm]; omega) | (simp [rm, vI, vR, Value.category]; omega), by first | exact Nat.le_of_ble_eq_true rfl | (simp only [rm]; omega) | (simp [rm, vI, vR, Value.category]; omega), by first | exact Nat.le_of_ble_eq_true rfl | (simp only [rm]; omega) | (simp [rm, vI, vR, Value.category]; omega), by first | exact Nat.le_of_ble_eq_true rfl | (simp only [rm]; omega) | (simp [rm, vI, vR, Value.category]; omega)⟩ md82 rfl rfl rfl (Nat.le_of_ble_eq_true rfl) dX7_plans_14 rfl (fun x0 hx0 => ?_)
  rw [mset_nef (by decide)] at hx0
  refine j_iast (q := 18) F ar91 (by omega) (by omega) (by decide) dX7_plans_17 rfl ?_
  refine j_sub (lv' := [(0, vR X 82), (1, vI D), (2, vI 0)]) [0, 1, 2] rfl ?_
  have LP18 : ∀ (nn : Nat) (dep : Int) (Mq : Mem) (b : Bst), (SI M Mq D dep b) → (((VM (M 83 0) Mq dep : Nat) : Int)).toNat < nn → J zp l ze (rm 3) zs zm zargs zbelow zmeth zc 0 0 zQ zs.heap X 8 Mq 18 [(0, vR X 82), (1, vI D), (2, vI dep)] [] := by
    intro nn
    induction nn with
    | zero => intro dep Mq b hS hm18; exact absurd hm18 (Nat.not_lt_zero _)
    | succ nn ih18 =>
      intro dep Mq b hS hm18
      have q83 : Mq 83 = M 83 := hS.1 83 (by decide)
      have hdep := hS.2.2.2.1
      have hbm := hS.2.2.2.2.2.2.1
      have hbm16 : -1 ≤ Mq 82 16 ∧ Mq 82 16 ≤ 24 := by rcases hbm with ⟨-, z⟩ | ⟨z, -⟩ <;> omega
      have hbm17 : Mq 82 16 ≠ -1 → 0 ≤ Mq 82 17 ∧ Mq 82 17 < 100000 := fun z => by
        rcases hbm with ⟨-, y⟩ | ⟨-, y, -⟩
        · exact absurd y z
        · exact y
      refine j_iload_n (q := 19) F dX7_plans_18 rfl rfl 2 rfl ?_
      refine j_if_lt (q := 22) (tgt := 329) F dX7_plans_19 (by decide) rfl ⟨by omega, by omega⟩ (fun h19_2 => ?_) (fun h19_2 => ?_)
      · skip
        refine j_aload_n (q := 330) F dX7_plans_329 rfl rfl 0 rfl ?_
        refine j_getI (q := 333) (i := 16) (index := 136) F md82 rfl in_X7_plans_7 16 (by decide) rfl rfl fl_X7_plans_136 dX7_plans_330 rfl ?_
        refine j_iconst (q := 334) F dX7_plans_333 rfl ?_
        refine j_icmp_eq (q := 337) (tgt := 341) F dX7_plans_334 (by decide) rfl ⟨by omega, by omega⟩ ⟨by decide, by decide⟩ (fun h334_3 => ?_) (fun h334_3 => ?_)
        · skip
          refine j_iconst (q := 342) F dX7_plans_341 rfl ?_
          refine hret _ _ _ _ dX7_plans_342 (Or.inl rfl) ?_
          · have hdm : dep = -1 := by omega
            rw [hdm] at hS
            exact ⟨hS.done, Or.inr ⟨rfl, by omega⟩⟩
        · skip
          refine j_iconst (q := 338) F dX7_plans_337 rfl ?_
          refine j_goto (q := 342) F dX7_plans_338 (by decide) ?_
          refine hret _ _ _ _ dX7_plans_342 (Or.inr rfl) ?_
          · have hdm : dep = -1 := by omega
            rw [hdm] at hS
            exact ⟨hS.done, Or.inl ⟨rfl, by omega⟩⟩
      · skip
        have hdp : 0 ≤ dep := by omega
        have hf := hS.2.2.2.2.1 dep hdp (Int.le_refl _)
        have hf1 := hf.1
        have hf2 := hf.2.1.1
        have hf3 := hf.2.1.2.1
        have hf4 := hf.2.2.1
        have hf5 := hf.2.2.2.1
        have hf6 := hf.2.2.2.2.1
        refine j_aload_n (q := 23) F dX7_plans_22 rfl rfl 0 rfl ?_
        refine j_getR (q := 26) (z := 90) (index := 32) F md82 rfl in_X7_plans_7 9 (by decide) rfl fl_X7_plans_32 dX7_plans_23 rfl ?_
        refine j_iload_n (q := 27) F dX7_plans_26 rfl rfl 2 rfl ?_
        refine j_iald (q := 28) F ar90 (by omega) (by omega) (by decide) dX7_plans_27 rfl ?_
        refine j_istore_n (q := 29) (lv' := [(0, vR X 82), (1, vI D), (2, vI dep), (3, vI (Mq 90 dep))]) F dX7_plans_28 rfl rfl (by decide) rfl rfl ?_
        refine j_iload_n (q := 30) F dX7_plans_29 rfl rfl 3 rfl ?_
        refine j_aload_n (q := 31) F dX7_plans_30 rfl rfl 0 rfl ?_
        refine j_getR (q := 34) (z := 83) (index := 7) F md82 rfl in_X7_plans_7 0 (by decide) rfl fl_X7_plans_7 dX7_plans_31 rfl ?_
        refine j_iconst (q := 35) F dX7_plans_34 rfl ?_
        refine j_iald (q := 36) F ar83 (by omega) (by omega) (by decide) dX7_plans_35 rfl ?_
        rw [show Mq 83 0 = M 83 0 from by rw [q83]]
        refine j_icmp_ne (q := 39) (tgt := 91) F dX7_plans_36 (by decide) rfl ⟨by omega, by omega⟩ ⟨by omega, by omega⟩ (fun h36_4 => ?_) (fun h36_4 => ?_)
        · skip
          refine j_iload_n (q := 92) F dX7_plans_91 rfl rfl 3 rfl ?_
          refine j_aload_n (q := 93) F dX7_plans_92 rfl rfl 0 rfl ?_
          refine j_getR (q := 96) (z := 83) (index := 7) F md82 rfl in_X7_plans_7 0 (by decide) rfl fl_X7_plans_7 dX7_plans_93 rfl ?_
          refine j_iconst (q := 97) F dX7_plans_96 rfl ?_
          refine j_iald (q := 98) F ar83 (by omega) (by omega) (by decide) dX7_plans_97 rfl ?_
          rw [show Mq 83 0 = M 83 0 from by rw [q83]]
          refine j_icmp_ne (q := 101) (tgt := 105) F dX7_plans_98 (by decide) rfl ⟨by omega, by omega⟩ ⟨by omega, by omega⟩ (fun h98_5 => ?_) (fun h => by exfalso; omega)
          refine j_aload_n (q := 106) F dX7_plans_105 rfl rfl 0 rfl ?_
          refine j_getR (q := 109) (z := 91) (index := 35) F md82 rfl in_X7_plans_7 10 (by decide) rfl fl_X7_plans_35 dX7_plans_106 rfl ?_
          refine j_iload_n (q := 110) F dX7_plans_109 rfl rfl 2 rfl ?_
          refine j_iald (q := 111) F ar91 (by omega) (by omega) (by decide) dX7_plans_110 rfl ?_
          refine j_istore (q := 113) (lv' := [(0, vR X 82), (1, vI D), (2, vI dep), (3, vI (Mq 90 dep)), (4, vI (Mq 91 dep))]) F dX7_plans_111 rfl (by decide) rfl rfl ?_
          refine j_iload (q := 115) F dX7_plans_113 rfl 4 rfl ?_
          refine j_if_ne (q := 118) (tgt := 124) F dX7_plans_115 (by decide) rfl ⟨by omega, by omega⟩ (fun h115_6 => ?_) (fun h115_6 => ?_)
          · skip
            have CUT134 : ∀ (i c : Int) (M1 : Mem), (i = Mq 90 dep) → (c = Mq 91 dep) → (M1 = mset Mq 91 dep (Mq 91 dep - 1)) → J zp l ze (rm 3) zs zm zargs zbelow zmeth zc 0 0 zQ zs.heap X 8 M1 134 [(0, vR X 82), (1, vI D), (2, vI dep), (3, vI i), (4, vI c)] [] := by
              intro i c M1 hi hc hM1
              have s83 : M1 83 = M 83 := by rw [hM1, mset_nef (by decide)]; exact q83
              have s90 : M1 90 = Mq 90 := by rw [hM1, mset_nef (by decide)]
              have s92 : M1 92 = Mq 92 := by rw [hM1, mset_nef (by decide)]
              have s93 : M1 93 = Mq 93 := by rw [hM1, mset_nef (by decide)]
              have s94 : M1 94 = Mq 94 := by rw [hM1, mset_nef (by decide)]
              have s91 : M1 91 = dset (Mq 91) dep (Mq 91 dep - 1) := by rw [hM1, mset_d]
              have hc0 : 0 < c := by omega
              have hin : i < M 83 0 := by omega
              have hjn : i + c ≤ M 83 0 := by omega
              have hDs : DOK (M1 83) := by rw [s83]; exact hD
              have hxb := exD_bd hw (show 0 ≤ i by omega) (show i ≤ i + c by omega) hjn
              have hx0 : 0 ≤ exD (M 83) i (i + c) := by
                have z := hf.2.1.2.2 (c - 1) (by omega) (by omega)
                rw [← hi, show i + (c - 1) + 1 = i + c by omega] at z
                exact z
              refine j_iload_n (q := 135) F dX7_plans_134 rfl rfl 3 rfl ?_
              refine j_iload (q := 137) F dX7_plans_135 rfl 4 rfl ?_
              refine j_iadd (q := 138) (z := i + c) F dX7_plans_137 rfl rfl ?_
              refine j_istore (q := 140) (lv' := [(0, vR X 82), (1, vI D), (2, vI dep), (3, vI i), (4, vI c), (5, vI (i + c))]) F dX7_plans_138 rfl (by decide) rfl rfl ?_
              refine j_aload_n (q := 141) F dX7_plans_140 rfl rfl 0 rfl ?_
              refine j_iload_n (q := 142) F dX7_plans_141 rfl rfl 3 rfl ?_
              refine j_iload (q := 144) F dX7_plans_142 rfl 5 rfl ?_
              refine j_callVZ (q := 147) F [vI i, vI (i + c)] (ct_X7_may l X hX M1 hDs i (i + c) (by omega) (by omega) (by rw [s83]; omega)) gX7_plans_X7_may rfl cd_X7_may ⟨by first | exact Nat.le_of_ble_eq_true rfl | (simp only [rm]; omega) | (simp [rm, vI, vR, Value.category]; omega), by first | exact Nat.le_of_ble_eq_true rfl | (simp only [rm]; omega) | (simp [rm, vI, vR, Value.category]; omega), by first | exact Nat.le_of_ble_eq_true rfl | (simp only [rm]; omega) | (simp [rm, vI, vR, Value.category]; omega), by first | exact Nat.le_of_ble_eq_true rfl | (simp only [rm]; omega) | (simp [rm, vI, vR, Value.category]; omega)⟩ md82 rfl rfl rfl (Nat.le_of_ble_eq_true rfl) dX7_plans_144 rfl (fun hmy => ?_) (fun hmy => ?_)
              · skip
                rw [s83] at hmy
                refine j_if_eq (q := 150) (tgt := 176) F dX7_plans_147 (by decide) rfl ⟨by decide, by decide⟩ (fun h => absurd h (by decide)) (fun _ => ?_)
                refine j_aload_n (q := 151) F dX7_plans_150 rfl rfl 0 rfl ?_
                have CUT167 : ∀ (p : Int), (p = pvQ (Mq 90) dep) → J zp l ze (rm 3) zs zm zargs zbelow zmeth zc 0 0 zQ zs.heap X 8 M1 167 [(0, vR X 82), (1, vI D), (2, vI dep), (3, vI i), (4, vI c), (5, vI (i + c))] [vI p, vR X 82] := by
                  intro p hp
                  have hp1 : 0 ≤ p ∧ p ≤ i := by rw [hp, hi]; exact ⟨hf.2.2.2.2.2.1.2.1, hf.2.2.2.2.2.1.1⟩
                  have hG1 : GpAt M1 (M 83) p i (RSN (M 83) (Mq 90) dep.toNat) := by
                    rw [hp, hi]
                    intro g a b
                    rw [hM1, mset_nef (by decide), mset_nef (by decide), mset_nef (by decide)]
                    exact hf.2.2.2.2.2.2 g a b
                  refine j_iload_n (q := 168) F dX7_plans_167 rfl rfl 3 rfl ?_
                  refine j_iload (q := 170) F dX7_plans_168 rfl 5 rfl ?_
                  refine j_callVI (q := 173) F [vI p, vI i, vI (i + c)] (ct_X7_lays l X hX M1 (by rw [s83]; exact hw) p i (i + c) (RSN (M 83) (Mq 90) dep.toNat) (by omega) (by omega) (by omega) (by rw [s83]; omega) (Or.inr (by rw [s83]; exact hx0)) (fun z => by rw [s83, hp, hi]; exact hf.2.2.2.2.2.1.2.2 (by rw [← hp, ← hi]; exact z)) (by rw [s83]; exact hG1)) gX7_plans_X7_lays rfl cd_X7_lays ⟨by first | exact Nat.le_of_ble_eq_true rfl | (simp only [rm]; omega) | (simp [rm, vI, vR, Value.category]; omega), by first | exact Nat.le_of_ble_eq_true rfl | (simp only [rm]; omega) | (simp [rm, vI, vR, Value.category]; omega), by first | exact Nat.le_of_ble_eq_true rfl | (simp only [rm]; omega) | (simp [rm, vI, vR, Value.category]; omega), by first | exact Nat.le_of_ble_eq_true rfl | (simp only [rm]; omega) | (simp [rm, vI, vR, Value.category]; omega)⟩ md82 rfl rfl rfl (Nat.le_of_ble_eq_true rfl) dX7_plans_170 rfl (fun mo Ml hly => ?_)
                  rw [s83] at hly
                  have hmo : mo = mostD (M 83) p i (i + c) (RSN (M 83) (Mq 90) dep.toNat) := hly.2
                  have hmb : 0 ≤ mo ∧ mo ≤ 51 := by rw [hmo]; exact ⟨mx_nn, mostD_bd (fun w a b => (hG1 w a b).2.2.2.2)⟩
                  have l83 : Ml 83 = M 83 := by rw [hly.1.1 83 (by decide)]; exact s83
                  have l90 : Ml 90 = Mq 90 := by rw [hly.1.1 90 (by decide)]; exact s90
                  have l92 : Ml 92 = Mq 92 := by rw [hly.1.1 92 (by decide)]; exact s92
                  have l93 : Ml 93 = Mq 93 := by rw [hly.1.1 93 (by decide)]; exact s93
                  have l94 : Ml 94 = Mq 94 := by rw [hly.1.1 94 (by decide)]; exact s94
                  have l91 : Ml 91 = dset (Mq 91) dep (Mq 91 dep - 1) := by rw [hly.1.1 91 (by decide)]; exact s91
                  refine j_goto (q := 179) F dX7_plans_173 (by decide) ?_
                  refine j_istore (q := 181) (lv' := [(0, vR X 82), (1, vI D), (2, vI dep), (3, vI i), (4, vI c), (5, vI (i + c)), (6, vI mo)]) F dX7_plans_179 rfl (by decide) rfl rfl ?_
                  refine j_iload (q := 183) F dX7_plans_181 rfl 6 rfl ?_
                  refine j_iload_n (q := 184) F dX7_plans_183 rfl rfl 1 rfl ?_
                  refine j_icmp_gt (q := 187) (tgt := 326) F dX7_plans_184 (by decide) rfl ⟨by omega, by omega⟩ ⟨by omega, by omega⟩ (fun h184_9 => ?_) (fun h184_9 => ?_)
                  · skip
                    refine j_goto (q := 18) F dX7_plans_326 (by decide) ?_
                    refine j_sub (lv' := [(0, vR X 82), (1, vI D), (2, vI dep)]) [0, 1, 2] rfl ?_
                    refine ih18 dep Ml b (by exact (hS.skip hdp (by omega) (by omega) (Or.inr (by rw [← hi, ← hc, ← hp, ← hmo]; omega)) hM1).lay hdp (by rw [s90]; exact hi) hly.1) ?_
                    · have z := VM_less (n := M 83 0) (N := Mq) (N' := Ml) hdp (by omega) (by omega) l90 l91
                      omega
                  · skip
                    have CUT218 : ∀ (ex : Int), (ex * ex = bdD (M 83) i (i + c)) → (0 ≤ ex ∧ ex ≤ 41) → J zp l ze (rm 3) zs zm zargs zbelow zmeth zc 0 0 zQ zs.heap X 8 Ml 218 [(0, vR X 82), (1, vI D), (2, vI dep), (3, vI i), (4, vI c), (5, vI (i + c)), (6, vI mo), (7, vI ex)] [] := by
                      intro ex hex hexb
                      refine j_aload_n (q := 219) F dX7_plans_218 rfl rfl 0 rfl ?_
                      refine j_getR (q := 222) (z := 90) (index := 32) F md82 rfl in_X7_plans_7 9 (by decide) rfl fl_X7_plans_32 dX7_plans_219 rfl ?_
                      refine j_iload_n (q := 223) F dX7_plans_222 rfl rfl 2 rfl ?_
                      refine j_iconst (q := 224) F dX7_plans_223 rfl ?_
                      refine j_iadd (q := 225) (z := dep + 1) F dX7_plans_224 rfl rfl ?_
                      refine j_iload (q := 227) F dX7_plans_225 rfl 5 rfl ?_
                      refine j_iast (q := 228) F ar90 (by omega) (by omega) (by decide) dX7_plans_227 rfl ?_
                      refine j_aload_n (q := 229) F dX7_plans_228 rfl rfl 0 rfl ?_
                      refine j_getR (q := 232) (z := 91) (index := 35) F md82 rfl in_X7_plans_7 10 (by decide) rfl fl_X7_plans_35 dX7_plans_229 rfl ?_
                      refine j_iload_n (q := 233) F dX7_plans_232 rfl rfl 2 rfl ?_
                      refine j_iconst (q := 234) F dX7_plans_233 rfl ?_
                      refine j_iadd (q := 235) (z := dep + 1) F dX7_plans_234 rfl rfl ?_
                      refine j_aload_n (q := 236) F dX7_plans_235 rfl rfl 0 rfl ?_
                      refine j_iload (q := 238) F dX7_plans_236 rfl 5 rfl ?_
                      refine j_callVP (q := 241) F [vI (i + c)] (ct_X7_mostFrom l X hX (mset Ml 90 (dep + 1) (i + c)) (by rw [mset_nef (by decide), l83]; exact hw) (i + c) (by omega) (by rw [mset_nef (by decide), l83]; omega)) gX7_plans_X7_mostFrom rfl cd_X7_mostFrom ⟨by first | exact Nat.le_of_ble_eq_true rfl | (simp only [rm]; omega) | (simp [rm, vI, vR, Value.category]; omega), by first | exact Nat.le_of_ble_eq_true rfl | (simp only [rm]; omega) | (simp [rm, vI, vR, Value.category]; omega), by first | exact Nat.le_of_ble_eq_true rfl | (simp only [rm]; omega) | (simp [rm, vI, vR, Value.category]; omega), by first | exact Nat.le_of_ble_eq_true rfl | (simp only [rm]; omega) | (simp [rm, vI, vR, Value.category]; omega)⟩ md82 rfl rfl rfl (Nat.le_of_ble_eq_true rfl) dX7_plans_238 rfl (fun x hx => ?_)
                      rw [mset_nef (by decide), l83] at hx
                      refine j_iast (q := 242) F ar91 (by omega) (by omega) (by decide) dX7_plans_241 rfl ?_
                      refine j_aload_n (q := 243) F dX7_plans_242 rfl rfl 0 rfl ?_
                      refine j_getR (q := 246) (z := 92) (index := 38) F md82 rfl in_X7_plans_7 11 (by decide) rfl fl_X7_plans_38 dX7_plans_243 rfl ?_
                      refine j_iload_n (q := 247) F dX7_plans_246 rfl rfl 2 rfl ?_
                      refine j_iconst (q := 248) F dX7_plans_247 rfl ?_
                      refine j_iadd (q := 249) (z := dep + 1) F dX7_plans_248 rfl rfl ?_
                      refine j_aload_n (q := 250) F dX7_plans_249 rfl rfl 0 rfl ?_
                      refine j_getR (q := 253) (z := 92) (index := 38) F md82 rfl in_X7_plans_7 11 (by decide) rfl fl_X7_plans_38 dX7_plans_250 rfl ?_
                      refine j_iload_n (q := 254) F dX7_plans_253 rfl rfl 2 rfl ?_
                      refine j_iald (q := 255) F ar92 (by omega) (by omega) (by decide) dX7_plans_254 rfl ?_
                      rw [show (mset (mset Ml 90 (dep + 1) (i + c)) 91 (dep + 1) x) 92 dep = Mq 92 dep from by rw [mset_nef (by decide), mset_nef (by decide), l92]]
                      have CUT271 : ∀ (ch : Int), (ch = chD (M 83) i (i + c)) → (0 ≤ ch ∧ ch ≤ 1) → J zp l ze (rm 3) zs zm zargs zbelow zmeth zc 0 0 zQ zs.heap X 8 (mset (mset Ml 90 (dep + 1) (i + c)) 91 (dep + 1) x) 271 [(0, vR X 82), (1, vI D), (2, vI dep), (3, vI i), (4, vI c), (5, vI (i + c)), (6, vI mo), (7, vI ex)] [vI ch, vI (Mq 92 dep), vI (dep + 1), vR X 92] := by
                        intro ch hch hchb
                        refine j_iadd (q := 272) (z := (Mq 92 dep) + ch) F dX7_plans_271 rfl rfl ?_
                        refine j_iast (q := 273) F ar92 (by omega) (by omega) (by decide) dX7_plans_272 rfl ?_
                        refine j_aload_n (q := 274) F dX7_plans_273 rfl rfl 0 rfl ?_
                        refine j_getR (q := 277) (z := 93) (index := 41) F md82 rfl in_X7_plans_7 12 (by decide) rfl fl_X7_plans_41 dX7_plans_274 rfl ?_
                        refine j_iload_n (q := 278) F dX7_plans_277 rfl rfl 2 rfl ?_
                        refine j_iconst (q := 279) F dX7_plans_278 rfl ?_
                        refine j_iadd (q := 280) (z := dep + 1) F dX7_plans_279 rfl rfl ?_
                        refine j_aload_n (q := 281) F dX7_plans_280 rfl rfl 0 rfl ?_
                        refine j_getR (q := 284) (z := 93) (index := 41) F md82 rfl in_X7_plans_7 12 (by decide) rfl fl_X7_plans_41 dX7_plans_281 rfl ?_
                        refine j_iload_n (q := 285) F dX7_plans_284 rfl rfl 2 rfl ?_
                        refine j_iald (q := 286) F ar93 (by omega) (by omega) (by decide) dX7_plans_285 rfl ?_
                        rw [show (mset (mset (mset Ml 90 (dep + 1) (i + c)) 91 (dep + 1) x) 92 (dep + 1) ((Mq 92 dep) + ch)) 93 dep = Mq 93 dep from by rw [mset_nef (by decide), mset_nef (by decide), mset_nef (by decide), l93]]
                        refine j_iload (q := 288) F dX7_plans_286 rfl 7 rfl ?_
                        refine j_iload (q := 290) F dX7_plans_288 rfl 7 rfl ?_
                        refine j_imul (q := 291) (z := ex * ex) F dX7_plans_290 rfl rfl ?_
                        refine j_iadd (q := 292) (z := (Mq 93 dep) + (ex * ex)) F dX7_plans_291 rfl rfl ?_
                        refine j_iast (q := 293) F ar93 (by omega) (by omega) (by decide) dX7_plans_292 rfl ?_
                        refine j_aload_n (q := 294) F dX7_plans_293 rfl rfl 0 rfl ?_
                        refine j_getR (q := 297) (z := 94) (index := 44) F md82 rfl in_X7_plans_7 13 (by decide) rfl fl_X7_plans_44 dX7_plans_294 rfl ?_
                        refine j_iload_n (q := 298) F dX7_plans_297 rfl rfl 2 rfl ?_
                        refine j_iconst (q := 299) F dX7_plans_298 rfl ?_
                        refine j_iadd (q := 300) (z := dep + 1) F dX7_plans_299 rfl rfl ?_
                        have CUT322 : ∀ (mv : Int), (mv = max (Mq 94 dep) mo) → J zp l ze (rm 3) zs zm zargs zbelow zmeth zc 0 0 zQ zs.heap X 8 (mset (mset (mset (mset Ml 90 (dep + 1) (i + c)) 91 (dep + 1) x) 92 (dep + 1) ((Mq 92 dep) + ch)) 93 (dep + 1) ((Mq 93 dep) + (ex * ex))) 322 [(0, vR X 82), (1, vI D), (2, vI dep), (3, vI i), (4, vI c), (5, vI (i + c)), (6, vI mo), (7, vI ex)] [vI mv, vI (dep + 1), vR X 94] := by
                          intro mv hmv
                          refine j_iast (q := 323) F ar94 (by omega) (by omega) (by decide) dX7_plans_322 rfl ?_
                          refine j_iinc (q := 326) (lv' := [(0, vR X 82), (1, vI D), (2, vI (dep + 1)), (3, vI i), (4, vI c), (5, vI (i + c)), (6, vI mo), (7, vI ex)]) F dX7_plans_323 rfl 2 rfl (by decide) rfl rfl ?_
                          refine j_goto (q := 18) F dX7_plans_326 (by decide) ?_
                          refine j_sub (lv' := [(0, vR X 82), (1, vI D), (2, vI (dep + 1))]) [0, 1, 2] rfl ?_
                          refine ih18 (dep + 1) (mset (mset (mset (mset (mset Ml 90 (dep + 1) (i + c)) 91 (dep + 1) x) 92 (dep + 1) ((Mq 92 dep) + ch)) 93 (dep + 1) ((Mq 93 dep) + (ex * ex))) 94 (dep + 1) mv) b (by exact hS.push hD hDD hdp (by omega) (by omega) (by omega) hM1 hp hi rfl hly.1 hmy (by rw [← hmo]; omega) (fun q a => by rw [mset_nef (by omega), mset_nef (by omega), mset_nef (by omega), mset_nef (by omega), mset_nef (by omega)]) (by rw [mset_nef (by decide), mset_nef (by decide), mset_nef (by decide), mset_nef (by decide), mset_d]) (by rw [mset_nef (by decide), mset_nef (by decide), mset_nef (by decide), mset_d, mset_nef (by decide)]) (by rw [mset_nef (by decide), mset_nef (by decide), mset_d, mset_nef (by decide), mset_nef (by decide), ← hch]) (by rw [mset_nef (by decide), mset_d, mset_nef (by decide), mset_nef (by decide), mset_nef (by decide), ← hex]) (by rw [mset_d, mset_nef (by decide), mset_nef (by decide), mset_nef (by decide), mset_nef (by decide), ← hmo, ← hmv]) hx) ?_
                          · have z := VM_push (n := M 83 0) (N := Mq) (N1 := M1) (N' := (mset (mset (mset (mset (mset Ml 90 (dep + 1) (i + c)) 91 (dep + 1) x) 92 (dep + 1) ((Mq 92 dep) + ch)) 93 (dep + 1) ((Mq 93 dep) + (ex * ex))) 94 (dep + 1) mv)) (j := i + c) (x := x) hdp (by omega) (by omega) (by omega) s90 s91 (by rw [mset_nef (by decide), mset_nef (by decide), mset_nef (by decide), mset_nef (by decide), mset_d, hly.1.1 90 (by decide)]) (by rw [mset_nef (by decide), mset_nef (by decide), mset_nef (by decide), mset_d, mset_nef (by decide), hly.1.1 91 (by decide)]) hx.1 hx.2.1
                            omega
                        refine j_iload (q := 302) F dX7_plans_300 rfl 6 rfl ?_
                        refine j_aload_n (q := 303) F dX7_plans_302 rfl rfl 0 rfl ?_
                        refine j_getR (q := 306) (z := 94) (index := 44) F md82 rfl in_X7_plans_7 13 (by decide) rfl fl_X7_plans_44 dX7_plans_303 rfl ?_
                        refine j_iload_n (q := 307) F dX7_plans_306 rfl rfl 2 rfl ?_
                        refine j_iald (q := 308) F ar94 (by omega) (by omega) (by decide) dX7_plans_307 rfl ?_
                        rw [show (mset (mset (mset (mset Ml 90 (dep + 1) (i + c)) 91 (dep + 1) x) 92 (dep + 1) ((Mq 92 dep) + ch)) 93 (dep + 1) ((Mq 93 dep) + (ex * ex))) 94 dep = Mq 94 dep from by rw [mset_nef (by decide), mset_nef (by decide), mset_nef (by decide), mset_nef (by decide), l94]]
                        refine j_icmp_le (q := 311) (tgt := 316) F dX7_plans_308 (by decide) rfl ⟨by omega, by omega⟩ ⟨by omega, by omega⟩ (fun h308_11 => ?_) (fun h308_11 => ?_)
                        · skip
                          refine j_aload_n (q := 317) F dX7_plans_316 rfl rfl 0 rfl ?_
                          refine j_getR (q := 320) (z := 94) (index := 44) F md82 rfl in_X7_plans_7 13 (by decide) rfl fl_X7_plans_44 dX7_plans_317 rfl ?_
                          refine j_iload_n (q := 321) F dX7_plans_320 rfl rfl 2 rfl ?_
                          refine j_iald (q := 322) F ar94 (by omega) (by omega) (by decide) dX7_plans_321 rfl ?_
                          rw [show (mset (mset (mset (mset Ml 90 (dep + 1) (i + c)) 91 (dep + 1) x) 92 (dep + 1) ((Mq 92 dep) + ch)) 93 (dep + 1) ((Mq 93 dep) + (ex * ex))) 94 dep = Mq 94 dep from by rw [mset_nef (by decide), mset_nef (by decide), mset_nef (by decide), mset_nef (by decide), l94]]
                          exact CUT322 (Mq 94 dep) (by omega)
                        · skip
                          refine j_iload (q := 313) F dX7_plans_311 rfl 6 rfl ?_
                          refine j_goto (q := 322) F dX7_plans_313 (by decide) ?_
                          exact CUT322 mo (by omega)
                      refine j_aload_n (q := 256) F dX7_plans_255 rfl rfl 0 rfl ?_
                      refine j_iload_n (q := 257) F dX7_plans_256 rfl rfl 3 rfl ?_
                      refine j_iload (q := 259) F dX7_plans_257 rfl 5 rfl ?_
                      refine j_callVP (q := 262) F [vI i, vI (i + c)] (ct_X7_nowLine l X hX (mset (mset Ml 90 (dep + 1) (i + c)) 91 (dep + 1) x) (by rw [mset_nef (by decide), mset_nef (by decide), l83]; exact hD) i (i + c) ⟨by omega, by omega⟩ ⟨by omega, by omega⟩) gX7_plans_X7_nowLine rfl cd_X7_nowLine ⟨by first | exact Nat.le_of_ble_eq_true rfl | (simp only [rm]; omega) | (simp [rm, vI, vR, Value.category]; omega), by first | exact Nat.le_of_ble_eq_true rfl | (simp only [rm]; omega) | (simp [rm, vI, vR, Value.category]; omega), by first | exact Nat.le_of_ble_eq_true rfl | (simp only [rm]; omega) | (simp [rm, vI, vR, Value.category]; omega), by first | exact Nat.le_of_ble_eq_true rfl | (simp only [rm]; omega) | (simp [rm, vI, vR, Value.category]; omega)⟩ md82 rfl rfl rfl (Nat.le_of_ble_eq_true rfl) dX7_plans_259 rfl (fun nl hnl => ?_)
                      rw [mset_nef (by decide), mset_nef (by decide), l83] at hnl
                      have hnb : -1 ≤ nl ∧ nl < 24 := by rcases hnl with ⟨q0, q1, -⟩ | ⟨q0, -⟩ <;> omega
                      refine j_iconst (q := 263) F dX7_plans_262 rfl ?_
                      refine j_icmp_ne (q := 266) (tgt := 270) F dX7_plans_263 (by decide) rfl ⟨by omega, by omega⟩ ⟨by decide, by decide⟩ (fun h263_13 => ?_) (fun h263_13 => ?_)
                      · skip
                        refine j_iconst (q := 271) F dX7_plans_270 rfl ?_
                        refine CUT271 0 ?_ (by omega)
                        · unfold chD
                          rw [if_pos]
                          refine lnB_iff.mpr ?_
                          rcases hnl with ⟨q0, q1, q2, q3⟩ | ⟨q, -⟩
                          · exact ⟨nl, q0, q1, q2, q3⟩
                          · omega
                      · skip
                        refine j_iconst (q := 267) F dX7_plans_266 rfl ?_
                        refine j_goto (q := 271) F dX7_plans_267 (by decide) ?_
                        refine CUT271 1 ?_ (by omega)
                        · unfold chD
                          rw [if_neg]
                          intro z
                          have z2 := lnB_iff.mp z
                          rcases hnl with ⟨q0, -⟩ | ⟨-, q⟩
                          · omega
                          · exact q z2
                    refine j_iload (q := 189) F dX7_plans_187 rfl 5 rfl ?_
                    refine j_aload_n (q := 190) F dX7_plans_189 rfl rfl 0 rfl ?_
                    refine j_getR (q := 193) (z := 83) (index := 7) F md82 rfl in_X7_plans_7 0 (by decide) rfl fl_X7_plans_7 dX7_plans_190 rfl ?_
                    refine j_iconst (q := 194) F dX7_plans_193 rfl ?_
                    refine j_iald (q := 195) F ar83 (by omega) (by omega) (by decide) dX7_plans_194 rfl ?_
                    rw [show Ml 83 0 = M 83 0 from by rw [l83]]
                    refine j_icmp_ne (q := 198) (tgt := 202) F dX7_plans_195 (by decide) rfl ⟨by omega, by omega⟩ ⟨by omega, by omega⟩ (fun h195_14 => ?_) (fun h195_14 => ?_)
                    · skip
                      refine j_aload_n (q := 203) F dX7_plans_202 rfl rfl 0 rfl ?_
                      refine j_getR (q := 206) (z := 83) (index := 7) F md82 rfl in_X7_plans_7 0 (by decide) rfl fl_X7_plans_7 dX7_plans_203 rfl ?_
                      refine j_iconst (q := 207) F dX7_plans_206 rfl ?_
                      refine j_iald (q := 208) F ar83 (by omega) (by omega) (by decide) dX7_plans_207 rfl ?_
                      rw [show Ml 83 1 = M 83 1 from by rw [l83]]
                      refine j_aload_n (q := 209) F dX7_plans_208 rfl rfl 0 rfl ?_
                      refine j_iload_n (q := 210) F dX7_plans_209 rfl rfl 3 rfl ?_
                      refine j_iload (q := 212) F dX7_plans_210 rfl 5 rfl ?_
                      refine j_callVE (q := 215) F [vI i, vI (i + c)] (ct_X7_needs l X hX Ml (by rw [l83]; exact hw) i (i + c) (by omega) (by omega) (by rw [l83]; omega)) gX7_plans_X7_needs rfl cd_X7_needs ⟨by first | exact Nat.le_of_ble_eq_true rfl | (simp only [rm]; omega) | (simp [rm, vI, vR, Value.category]; omega), by first | exact Nat.le_of_ble_eq_true rfl | (simp only [rm]; omega) | (simp [rm, vI, vR, Value.category]; omega), by first | exact Nat.le_of_ble_eq_true rfl | (simp only [rm]; omega) | (simp [rm, vI, vR, Value.category]; omega), by first | exact Nat.le_of_ble_eq_true rfl | (simp only [rm]; omega) | (simp [rm, vI, vR, Value.category]; omega)⟩ md82 rfl rfl rfl (Nat.le_of_ble_eq_true rfl) dX7_plans_212 rfl ?_
                      rw [show Ml 83 1 - exD (Ml 83) i (i + c) = M 83 1 - exD (M 83) i (i + c) from by rw [l83]]
                      refine j_isub (q := 216) (z := (M 83 1) - (M 83 1 - exD (M 83) i (i + c))) F dX7_plans_215 rfl rfl ?_
                      refine j_istore (q := 218) (lv' := [(0, vR X 82), (1, vI D), (2, vI dep), (3, vI i), (4, vI c), (5, vI (i + c)), (6, vI mo), (7, vI ((M 83 1) - (M 83 1 - exD (M 83) i (i + c))))]) F dX7_plans_216 rfl (by decide) rfl rfl ?_
                      exact CUT218 ((M 83 1) - (M 83 1 - exD (M 83) i (i + c))) (by rw [show M 83 1 - (M 83 1 - exD (M 83) i (i + c)) = exD (M 83) i (i + c) by omega]; unfold bdD; rw [if_neg (by omega)]) (by omega)
                    · skip
                      refine j_iconst (q := 199) F dX7_plans_198 rfl ?_
                      refine j_goto (q := 216) F dX7_plans_199 (by decide) ?_
                      refine j_istore (q := 218) (lv' := [(0, vR X 82), (1, vI D), (2, vI dep), (3, vI i), (4, vI c), (5, vI (i + c)), (6, vI mo), (7, vI 0)]) F dX7_plans_216 rfl (by decide) rfl rfl ?_
                      exact CUT218 0 (by show (0 : Int) = _; unfold bdD; rw [if_pos (by omega)]) (by omega)
                refine j_iload_n (q := 152) F dX7_plans_151 rfl rfl 2 rfl ?_
                refine j_if_ne (q := 155) (tgt := 159) F dX7_plans_152 (by decide) rfl ⟨by omega, by omega⟩ (fun h152_16 => ?_) (fun h152_16 => ?_)
                · skip
                  refine j_aload_n (q := 160) F dX7_plans_159 rfl rfl 0 rfl ?_
                  refine j_getR (q := 163) (z := 90) (index := 32) F md82 rfl in_X7_plans_7 9 (by decide) rfl fl_X7_plans_32 dX7_plans_160 rfl ?_
                  refine j_iload_n (q := 164) F dX7_plans_163 rfl rfl 2 rfl ?_
                  refine j_iconst (q := 165) F dX7_plans_164 rfl ?_
                  refine j_isub (q := 166) (z := dep - 1) F dX7_plans_165 rfl rfl ?_
                  refine j_iald (q := 167) F ar90 (by omega) (by omega) (by decide) dX7_plans_166 rfl ?_
                  exact CUT167 (M1 90 (dep - 1)) (by rw [s90]; exact (if_neg (by omega)).symm)
                · skip
                  refine j_iconst (q := 156) F dX7_plans_155 rfl ?_
                  refine j_goto (q := 167) F dX7_plans_156 (by decide) ?_
                  exact CUT167 0 (by exact (if_pos (by omega)).symm)
              · skip
                rw [s83] at hmy
                refine j_if_eq (q := 150) (tgt := 176) F dX7_plans_147 (by decide) rfl ⟨by decide, by decide⟩ (fun _ => ?_) (fun h => absurd h (by decide))
                refine j_iload_n (q := 177) F dX7_plans_176 rfl rfl 1 rfl ?_
                refine j_iconst (q := 178) F dX7_plans_177 rfl ?_
                refine j_iadd (q := 179) (z := D + 1) F dX7_plans_178 rfl rfl ?_
                refine j_istore (q := 181) (lv' := [(0, vR X 82), (1, vI D), (2, vI dep), (3, vI i), (4, vI c), (5, vI (i + c)), (6, vI (D + 1))]) F dX7_plans_179 rfl (by decide) rfl rfl ?_
                refine j_iload (q := 183) F dX7_plans_181 rfl 6 rfl ?_
                refine j_iload_n (q := 184) F dX7_plans_183 rfl rfl 1 rfl ?_
                refine j_icmp_gt (q := 187) (tgt := 326) F dX7_plans_184 (by decide) rfl ⟨by omega, by omega⟩ ⟨by omega, by omega⟩ (fun h184_17 => ?_) (fun h => by exfalso; omega)
                refine j_goto (q := 18) F dX7_plans_326 (by decide) ?_
                refine j_sub (lv' := [(0, vR X 82), (1, vI D), (2, vI dep)]) [0, 1, 2] rfl ?_
                refine ih18 dep M1 b (by exact hS.skip hdp (by omega) (by omega) (Or.inl (by rw [← hi, ← hc]; exact hmy)) hM1) ?_
                · have z := VM_less (n := M 83 0) (N := Mq) (N' := M1) hdp (by omega) (by omega) s90 s91
                  omega
            refine j_aload_n (q := 125) F dX7_plans_124 rfl rfl 0 rfl ?_
            refine j_getR (q := 128) (z := 91) (index := 35) F md82 rfl in_X7_plans_7 10 (by decide) rfl fl_X7_plans_35 dX7_plans_125 rfl ?_
            refine j_iload_n (q := 129) F dX7_plans_128 rfl rfl 2 rfl ?_
            refine j_dup2 (q := 130) F dX7_plans_129 rfl rfl rfl ?_
            refine j_iald (q := 131) F ar91 (by omega) (by omega) (by decide) dX7_plans_130 rfl ?_
            refine j_iconst (q := 132) F dX7_plans_131 rfl ?_
            refine j_isub (q := 133) (z := (Mq 91 dep) - 1) F dX7_plans_132 rfl rfl ?_
            refine j_iast (q := 134) F ar91 (by omega) (by omega) (by decide) dX7_plans_133 rfl ?_
            exact CUT134 (Mq 90 dep) (Mq 91 dep) (mset Mq 91 dep ((Mq 91 dep) - 1)) (by rfl) (by rfl) (by rfl)
          · skip
            refine j_iinc (q := 121) (lv' := [(0, vR X 82), (1, vI D), (2, vI (dep + (-1))), (3, vI (Mq 90 dep)), (4, vI (Mq 91 dep))]) F dX7_plans_118 rfl 2 rfl (by decide) rfl rfl ?_
            refine j_goto (q := 326) F dX7_plans_121 (by decide) ?_
            refine j_goto (q := 18) F dX7_plans_326 (by decide) ?_
            refine j_sub (lv' := [(0, vR X 82), (1, vI D), (2, vI (dep + (-1)))]) [0, 1, 2] rfl ?_
            refine ih18 (dep + (-1)) Mq b (by rw [show dep + (-1) = dep - 1 by omega]; exact hS.pop hdp (Or.inr ⟨by omega, by omega⟩)) ?_
            · have z := VM_pop (n := M 83 0) (N := Mq) (N' := Mq) hdp hf2 rfl rfl
              rw [show dep + (-1) = dep - 1 by omega]
              omega
        · skip
          have CUT91 : ∀ (Mt : Mem), (∃ b', SI M Mt D (dep - 1) b') → (Mt 90 = Mq 90) → (Mt 91 = Mq 91) → (Mt 83 = M 83) → J zp l ze (rm 3) zs zm zargs zbelow zmeth zc 0 0 zQ zs.heap X 8 Mt 91 [(0, vR X 82), (1, vI D), (2, vI dep), (3, vI (Mq 90 dep))] [] := by
            intro Mt hSl t90 t91 t83
            obtain ⟨b9, hS9⟩ := hSl
            refine j_iload_n (q := 92) F dX7_plans_91 rfl rfl 3 rfl ?_
            refine j_aload_n (q := 93) F dX7_plans_92 rfl rfl 0 rfl ?_
            refine j_getR (q := 96) (z := 83) (index := 7) F md82 rfl in_X7_plans_7 0 (by decide) rfl fl_X7_plans_7 dX7_plans_93 rfl ?_
            refine j_iconst (q := 97) F dX7_plans_96 rfl ?_
            refine j_iald (q := 98) F ar83 (by omega) (by omega) (by decide) dX7_plans_97 rfl ?_
            rw [show Mt 83 0 = M 83 0 from by rw [t83]]
            refine j_icmp_ne (q := 101) (tgt := 105) F dX7_plans_98 (by decide) rfl ⟨by omega, by omega⟩ ⟨by omega, by omega⟩ (fun h => by exfalso; omega) (fun h98_18 => ?_)
            refine j_iconst (q := 102) F dX7_plans_101 rfl ?_
            refine j_goto (q := 111) F dX7_plans_102 (by decide) ?_
            refine j_istore (q := 113) (lv' := [(0, vR X 82), (1, vI D), (2, vI dep), (3, vI (Mq 90 dep)), (4, vI 0)]) F dX7_plans_111 rfl (by decide) rfl rfl ?_
            refine j_iload (q := 115) F dX7_plans_113 rfl 4 rfl ?_
            refine j_if_ne (q := 118) (tgt := 124) F dX7_plans_115 (by decide) rfl ⟨by decide, by decide⟩ (fun h => absurd h (by decide)) (fun _ => ?_)
            refine j_iinc (q := 121) (lv' := [(0, vR X 82), (1, vI D), (2, vI (dep + (-1))), (3, vI (Mq 90 dep)), (4, vI 0)]) F dX7_plans_118 rfl 2 rfl (by decide) rfl rfl ?_
            refine j_goto (q := 326) F dX7_plans_121 (by decide) ?_
            refine j_goto (q := 18) F dX7_plans_326 (by decide) ?_
            refine j_sub (lv' := [(0, vR X 82), (1, vI D), (2, vI (dep + (-1)))]) [0, 1, 2] rfl ?_
            refine ih18 (dep + (-1)) Mt b9 (by rw [show dep + (-1) = dep - 1 by omega]; exact hS9) ?_
            · have z := VM_pop (n := M 83 0) (N := Mq) (N' := Mt) hdp hf2 t90 t91
              rw [show dep + (-1) = dep - 1 by omega]
              omega
          refine j_aload_n (q := 40) F dX7_plans_39 rfl rfl 0 rfl ?_
          refine j_getI (q := 43) (i := 16) (index := 136) F md82 rfl in_X7_plans_7 16 (by decide) rfl rfl fl_X7_plans_136 dX7_plans_40 rfl ?_
          refine j_iconst (q := 44) F dX7_plans_43 rfl ?_
          refine j_icmp_eq (q := 47) (tgt := 86) F dX7_plans_44 (by decide) rfl ⟨by omega, by omega⟩ ⟨by decide, by decide⟩ (fun h44_19 => ?_) (fun h44_19 => ?_)
          · skip
            refine j_aload_n (q := 87) F dX7_plans_86 rfl rfl 0 rfl ?_
            refine j_iload_n (q := 88) F dX7_plans_87 rfl rfl 2 rfl ?_
            refine j_callVV (q := 91) F [vI dep] (ct_X7_takes l X hX Mq dep (by omega) (by omega)) gX7_plans_X7_takes rfl cd_X7_takes ⟨by first | exact Nat.le_of_ble_eq_true rfl | (simp only [rm]; omega) | (simp [rm, vI, vR, Value.category]; omega), by first | exact Nat.le_of_ble_eq_true rfl | (simp only [rm]; omega) | (simp [rm, vI, vR, Value.category]; omega), by first | exact Nat.le_of_ble_eq_true rfl | (simp only [rm]; omega) | (simp [rm, vI, vR, Value.category]; omega), by first | exact Nat.le_of_ble_eq_true rfl | (simp only [rm]; omega) | (simp [rm, vI, vR, Value.category]; omega)⟩ md82 rfl rfl rfl (Nat.le_of_ble_eq_true rfl) dX7_plans_88 rfl (fun Mt0 htk => ?_)
            exact CUT91 Mt0 (by exact hS.take hdp (by omega) (by rcases hbm with ⟨y, z⟩ | ⟨y1, y2, y3, -⟩ <;> omega) htk) (by exact htk.1 90 (by decide) (by decide)) (by exact htk.1 91 (by decide) (by decide)) (by rw [htk.1 83 (by decide) (by decide)]; exact q83)
          · skip
            refine j_aload_n (q := 48) F dX7_plans_47 rfl rfl 0 rfl ?_
            refine j_getR (q := 51) (z := 92) (index := 38) F md82 rfl in_X7_plans_7 11 (by decide) rfl fl_X7_plans_38 dX7_plans_48 rfl ?_
            refine j_iload_n (q := 52) F dX7_plans_51 rfl rfl 2 rfl ?_
            refine j_iald (q := 53) F ar92 (by omega) (by omega) (by decide) dX7_plans_52 rfl ?_
            refine j_aload_n (q := 54) F dX7_plans_53 rfl rfl 0 rfl ?_
            refine j_getI (q := 57) (i := 16) (index := 136) F md82 rfl in_X7_plans_7 16 (by decide) rfl rfl fl_X7_plans_136 dX7_plans_54 rfl ?_
            refine j_icmp_lt (q := 60) (tgt := 86) F dX7_plans_57 (by decide) rfl ⟨by omega, by omega⟩ ⟨by omega, by omega⟩ (fun h57_21 => ?_) (fun h57_21 => ?_)
            · skip
              refine j_aload_n (q := 87) F dX7_plans_86 rfl rfl 0 rfl ?_
              refine j_iload_n (q := 88) F dX7_plans_87 rfl rfl 2 rfl ?_
              refine j_callVV (q := 91) F [vI dep] (ct_X7_takes l X hX Mq dep (by omega) (by omega)) gX7_plans_X7_takes rfl cd_X7_takes ⟨by first | exact Nat.le_of_ble_eq_true rfl | (simp only [rm]; omega) | (simp [rm, vI, vR, Value.category]; omega), by first | exact Nat.le_of_ble_eq_true rfl | (simp only [rm]; omega) | (simp [rm, vI, vR, Value.category]; omega), by first | exact Nat.le_of_ble_eq_true rfl | (simp only [rm]; omega) | (simp [rm, vI, vR, Value.category]; omega), by first | exact Nat.le_of_ble_eq_true rfl | (simp only [rm]; omega) | (simp [rm, vI, vR, Value.category]; omega)⟩ md82 rfl rfl rfl (Nat.le_of_ble_eq_true rfl) dX7_plans_88 rfl (fun Mt0 htk => ?_)
              exact CUT91 Mt0 (by exact hS.take hdp (by omega) (by rcases hbm with ⟨y, z⟩ | ⟨y1, y2, y3, -⟩ <;> omega) htk) (by exact htk.1 90 (by decide) (by decide)) (by exact htk.1 91 (by decide) (by decide)) (by rw [htk.1 83 (by decide) (by decide)]; exact q83)
            · skip
              refine j_aload_n (q := 61) F dX7_plans_60 rfl rfl 0 rfl ?_
              refine j_getR (q := 64) (z := 92) (index := 38) F md82 rfl in_X7_plans_7 11 (by decide) rfl fl_X7_plans_38 dX7_plans_61 rfl ?_
              refine j_iload_n (q := 65) F dX7_plans_64 rfl rfl 2 rfl ?_
              refine j_iald (q := 66) F ar92 (by omega) (by omega) (by decide) dX7_plans_65 rfl ?_
              refine j_aload_n (q := 67) F dX7_plans_66 rfl rfl 0 rfl ?_
              refine j_getI (q := 70) (i := 16) (index := 136) F md82 rfl in_X7_plans_7 16 (by decide) rfl rfl fl_X7_plans_136 dX7_plans_67 rfl ?_
              refine j_icmp_ne (q := 73) (tgt := 91) F dX7_plans_70 (by decide) rfl ⟨by omega, by omega⟩ ⟨by omega, by omega⟩ (fun h70_23 => ?_) (fun h70_23 => ?_)
              · skip
                exact CUT91 Mq (by exact ⟨b, hS.pop hdp (Or.inl ⟨by omega, by rcases hbm with ⟨y, z⟩ | ⟨y1, y2, y3, -⟩ <;> omega⟩)⟩) (by rfl) (by rfl) (by exact q83)
              · skip
                have hbm17 := hbm17 (by omega)
                refine j_aload_n (q := 74) F dX7_plans_73 rfl rfl 0 rfl ?_
                refine j_getR (q := 77) (z := 93) (index := 41) F md82 rfl in_X7_plans_7 12 (by decide) rfl fl_X7_plans_41 dX7_plans_74 rfl ?_
                refine j_iload_n (q := 78) F dX7_plans_77 rfl rfl 2 rfl ?_
                refine j_iald (q := 79) F ar93 (by omega) (by omega) (by decide) dX7_plans_78 rfl ?_
                refine j_aload_n (q := 80) F dX7_plans_79 rfl rfl 0 rfl ?_
                refine j_getI (q := 83) (i := 17) (index := 139) F md82 rfl in_X7_plans_7 17 (by decide) rfl rfl fl_X7_plans_139 dX7_plans_80 rfl ?_
                refine j_icmp_ge (q := 86) (tgt := 91) F dX7_plans_83 (by decide) rfl ⟨by omega, by omega⟩ ⟨by omega, by omega⟩ (fun h83_24 => ?_) (fun h83_24 => ?_)
                · skip
                  exact CUT91 Mq (by exact ⟨b, hS.pop hdp (Or.inl ⟨by omega, by rcases hbm with ⟨y, z⟩ | ⟨y1, y2, y3, -⟩ <;> omega⟩)⟩) (by rfl) (by rfl) (by exact q83)
                · skip
                  refine j_aload_n (q := 87) F dX7_plans_86 rfl rfl 0 rfl ?_
                  refine j_iload_n (q := 88) F dX7_plans_87 rfl rfl 2 rfl ?_
                  refine j_callVV (q := 91) F [vI dep] (ct_X7_takes l X hX Mq dep (by omega) (by omega)) gX7_plans_X7_takes rfl cd_X7_takes ⟨by first | exact Nat.le_of_ble_eq_true rfl | (simp only [rm]; omega) | (simp [rm, vI, vR, Value.category]; omega), by first | exact Nat.le_of_ble_eq_true rfl | (simp only [rm]; omega) | (simp [rm, vI, vR, Value.category]; omega), by first | exact Nat.le_of_ble_eq_true rfl | (simp only [rm]; omega) | (simp [rm, vI, vR, Value.category]; omega), by first | exact Nat.le_of_ble_eq_true rfl | (simp only [rm]; omega) | (simp [rm, vI, vR, Value.category]; omega)⟩ md82 rfl rfl rfl (Nat.le_of_ble_eq_true rfl) dX7_plans_88 rfl (fun Mt0 htk => ?_)
                  exact CUT91 Mt0 (by exact hS.take hdp (by omega) (by rcases hbm with ⟨y, z⟩ | ⟨y1, y2, y3, -⟩ <;> omega) htk) (by exact htk.1 90 (by decide) (by decide)) (by exact htk.1 91 (by decide) (by decide)) (by rw [htk.1 83 (by decide) (by decide)]; exact q83)
  exact LP18 _ 0 (mset (mset M 82 16 ((-1))) 91 0 x0) ((1000000000, 0, 0, fun _ => 0)) (by exact SI.start hD hz hx0 rfl) (by exact Nat.lt_succ_self _)
