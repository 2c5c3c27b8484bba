theorem cd_X7_meets : yX7_meets.cls = RX7 ∧ yX7_meets.cls ≠ "java/lang/invoke/MethodHandle" ∧ yX7_meets.cls ≠ "java/lang/invoke/VarHandle" ∧ (parseMethodDescriptor yX7_meets.desc).map (fun d => d.parameters.length) = some 2 := by decide +kernel
theorem fl_X7_lays_20 : Cond.fieldLink RX7 20 "WhiteRiversModel" "column" "[I" ∈ wsX7_lays := by decide +kernel
theorem fl_X7_lays_23 : Cond.fieldLink RX7 23 "WhiteRiversModel" "gapAt" "[I" ∈ wsX7_lays := by decide +kernel
theorem fl_X7_lays_26 : Cond.fieldLink RX7 26 "WhiteRiversModel" "wide" "[I" ∈ wsX7_lays := by decide +kernel
theorem fl_X7_lays_29 : Cond.fieldLink RX7 29 "WhiteRiversModel" "reach" "[I" ∈ wsX7_lays := by decide +kernel
theorem fl_X7_lays_7 : Cond.fieldLink RX7 7 "WhiteRiversModel" "d" "[I" ∈ wsX7_lays := by decide +kernel
theorem in_X7_lays_7 : ∀ w ∈ u_ws RX7 TX7 19, w ∈ wsX7_lays := by decide +kernel
set_option maxRecDepth 100000 in
set_option maxHeartbeats 2000000 in
theorem ct_X7_lays (l : Launch) (X : Cx) (hX : Inj X) (M : Mem) (hw0 : WOK (M 83)) (p i j : Int) (r : Int → Int) (h0 : 0 ≤ p) (h1 : p ≤ i) (h2 : i < j) (h3 : j ≤ M 83 0) (hx : j = M 83 0 ∨ 0 ≤ exD (M 83) i j) (hxa : p < i → 0 ≤ exD (M 83) p i) (hG : GpAt M (M 83) p i r) : CtI l X yX7_lays wsX7_lays 1 [vR X 82, vI p, vI i, vI j] M (fun x M' => LaI M M' (lenD (M 83)) (lexF (lenD (M 83)) (M 83 1) (M 83 0) i j) i j (rlF (lenD (M 83)) (M 83 1) (M 83 0) p i j r) j ∧ x = mx (fun _ => true) (rlF (lenD (M 83)) (M 83 1) (M 83 0) p i j r) i (j - 1)) := by
  refine CtI_of (cc := cX7_lays) (maxL := 10) hX (by decide +kernel) rfl (Nat.le_of_ble_eq_true rfl) ?_
  intro zp ze zs zm zargs zbelow zmeth zc zQ F hret
  show J zp l ze (rm 1) zs zm zargs zbelow zmeth zc 0 0 zQ zs.heap X 10 M 0 [(0, vR X 82), (1, vI p), (2, vI i), (3, vI j)] []
  have hnn := hw0.1
  have hww := hw0.2.1
  have hlen := hw0.2.2
  have hxb0 := exD_bd hw0 (show 0 ≤ i by omega) (show i ≤ j by omega) h3
  have hl8 : ∀ w, 0 ≤ w → w < M 83 0 → 0 ≤ lenD (M 83) w ∧ lenD (M 83) w ≤ 8 := fun w a b => by have := hlen w a b; unfold lenD; omega
  have hxf : exF (lenD (M 83)) (M 83 1) i j = exD (M 83) i j := rfl
  have hab : ∀ g, p ≤ g → g < i - 1 → 0 ≤ M 87 g ∧ M 87 g ≤ 2000 ∧ 1 ≤ M 88 g ∧ M 88 g ≤ 2000 := fun g a b => by rw [(hG g a b).1, (hG g a b).2.1]; exact gap_bd hw0 h0 a b (by omega) (Or.inr (hxa (by omega)))
  have CUT29 : ∀ (x : Int), (x = (lexF (lenD (M 83)) (M 83 1) (M 83 0) i j)) → (0 ≤ x ∧ x ≤ 41) → J zp l ze (rm 1) zs zm zargs zbelow zmeth zc 0 0 zQ zs.heap X 10 M 29 [(0, vR X 82), (1, vI p), (2, vI i), (3, vI j), (4, vI x)] [] := by
    intro x hxx hxb
    refine j_iload_n (q := 30) F dX7_lays_29 rfl rfl 3 rfl ?_
    refine j_iload_n (q := 31) F dX7_lays_30 rfl rfl 2 rfl ?_
    refine j_isub (q := 32) (z := j - i) F dX7_lays_31 rfl rfl ?_
    refine j_iconst (q := 33) F dX7_lays_32 rfl ?_
    refine j_isub (q := 34) (z := (j - i) - 1) F dX7_lays_33 rfl rfl ?_
    refine j_istore (q := 36) (lv' := [(0, vR X 82), (1, vI p), (2, vI i), (3, vI j), (4, vI x), (5, vI ((j - i) - 1))]) F dX7_lays_34 rfl (by decide) rfl rfl ?_
    refine j_iconst (q := 37) F dX7_lays_36 rfl ?_
    refine j_istore (q := 39) (lv' := [(0, vR X 82), (1, vI p), (2, vI i), (3, vI j), (4, vI x), (5, vI ((j - i) - 1)), (6, vI 0)]) F dX7_lays_37 rfl (by decide) rfl rfl ?_
    refine j_iconst (q := 40) F dX7_lays_39 rfl ?_
    refine j_istore (q := 42) (lv' := [(0, vR X 82), (1, vI p), (2, vI i), (3, vI j), (4, vI x), (5, vI ((j - i) - 1)), (6, vI 0), (7, vI 0)]) F dX7_lays_40 rfl (by decide) rfl rfl ?_
    refine j_iload_n (q := 43) F dX7_lays_42 rfl rfl 2 rfl ?_
    refine j_istore (q := 45) (lv' := [(0, vR X 82), (1, vI p), (2, vI i), (3, vI j), (4, vI x), (5, vI ((j - i) - 1)), (6, vI 0), (7, vI 0), (8, vI i)]) F dX7_lays_43 rfl (by decide) rfl rfl ?_
    refine j_sub (lv' := [(0, vR X 82), (1, vI p), (2, vI i), (3, vI j), (4, vI x), (5, vI ((j - i) - 1)), (6, vI 0), (7, vI 0), (8, vI i)]) [0, 1, 2, 3, 4, 5, 6, 7, 8] rfl ?_
    have LP45 : ∀ (nn : Nat) (col acc w : Int) (Mq : Mem), (i ≤ w) → (w ≤ j) → (col = colF (lenD (M 83)) x i j w) → (acc = mx (fun _ => true) (rlF (lenD (M 83)) (M 83 1) (M 83 0) p i j r) i (if w < j then w else j - 1)) → (0 ≤ acc ∧ acc ≤ 51) → (LaI M Mq (lenD (M 83)) x i j (rlF (lenD (M 83)) (M 83 1) (M 83 0) p i j r) w) → (j - w).toNat < nn → J zp l ze (rm 1) zs zm zargs zbelow zmeth zc 0 0 zQ zs.heap X 10 Mq 45 [(0, vR X 82), (1, vI p), (2, vI i), (3, vI j), (4, vI x), (5, vI ((j - i) - 1)), (6, vI col), (7, vI acc), (8, vI w)] [] := by
      intro nn
      induction nn with
      | zero => intro col acc w Mq g0 g1 hcol hacc haccb hI hm45; exact absurd hm45 (Nat.not_lt_zero _)
      | succ nn ih45 =>
        intro col acc w Mq g0 g1 hcol hacc haccb hI hm45
        refine j_iload (q := 47) F dX7_lays_45 rfl 8 rfl ?_
        refine j_iload_n (q := 48) F dX7_lays_47 rfl rfl 3 rfl ?_
        refine j_icmp_ge (q := 51) (tgt := 246) F dX7_lays_48 (by decide) rfl ⟨by omega, by omega⟩ ⟨by omega, by omega⟩ (fun h48_1 => ?_) (fun h48_1 => ?_)
        · skip
          refine j_iload (q := 248) F dX7_lays_246 rfl 7 rfl ?_
          refine hret _ _ _ _ dX7_lays_248 ?_
          · have hwj : w = j := by omega
            rw [hwj] at hI hacc
            rw [if_neg (by omega)] at hacc
            exact ⟨by rw [← hxx]; exact hI, hacc⟩
        · skip
          refine j_aload_n (q := 52) F dX7_lays_51 rfl rfl 0 rfl ?_
          refine j_getR (q := 55) (z := 86) (index := 20) F md82 rfl in_X7_lays_7 5 (by decide) rfl fl_X7_lays_20 dX7_lays_52 rfl ?_
          refine j_iload (q := 57) F dX7_lays_55 rfl 8 rfl ?_
          refine j_iload (q := 59) F dX7_lays_57 rfl 6 rfl ?_
          refine j_iast (q := 60) F ar86 (by omega) (by omega) (by decide) dX7_lays_59 rfl ?_
          refine j_iload (q := 62) F dX7_lays_60 rfl 6 rfl ?_
          refine j_aload_n (q := 63) F dX7_lays_62 rfl rfl 0 rfl ?_
          refine j_getR (q := 66) (z := 83) (index := 7) F md82 rfl in_X7_lays_7 0 (by decide) rfl fl_X7_lays_7 dX7_lays_63 rfl ?_
          refine j_iconst (q := 67) F dX7_lays_66 rfl ?_
          refine j_iload (q := 69) F dX7_lays_67 rfl 8 rfl ?_
          refine j_iadd (q := 70) (z := 4 + w) F dX7_lays_69 rfl rfl ?_
          refine j_iald (q := 71) F ar83 (by omega) (by omega) (by decide) dX7_lays_70 rfl ?_
          rw [show (mset Mq 86 w col) 83 (4 + w) = M 83 (4 + w) from by rw [mset_nef (by decide), hI.1 83 (by decide)]]
          refine j_iadd (q := 72) (z := col + (M 83 (4 + w))) F dX7_lays_71 rfl rfl ?_
          refine j_istore (q := 74) (lv' := [(0, vR X 82), (1, vI p), (2, vI i), (3, vI j), (4, vI x), (5, vI ((j - i) - 1)), (6, vI (col + (M 83 (4 + w)))), (7, vI acc), (8, vI w)]) F dX7_lays_72 rfl (by decide) rfl rfl ?_
          refine j_iload (q := 76) F dX7_lays_74 rfl 8 rfl ?_
          refine j_iconst (q := 77) F dX7_lays_76 rfl ?_
          refine j_iadd (q := 78) (z := w + 1) F dX7_lays_77 rfl rfl ?_
          refine j_iload_n (q := 79) F dX7_lays_78 rfl rfl 3 rfl ?_
          refine j_icmp_ge (q := 82) (tgt := 240) F dX7_lays_79 (by decide) rfl ⟨by omega, by omega⟩ ⟨by omega, by omega⟩ (fun h79_2 => ?_) (fun h79_2 => ?_)
          · skip
            refine j_iinc (q := 243) (lv' := [(0, vR X 82), (1, vI p), (2, vI i), (3, vI j), (4, vI x), (5, vI ((j - i) - 1)), (6, vI (col + (M 83 (4 + w)))), (7, vI acc), (8, vI (w + 1))]) F dX7_lays_240 rfl 8 rfl (by decide) rfl rfl ?_
            refine j_goto (q := 45) F dX7_lays_243 (by decide) ?_
            refine ih45 (col + (M 83 (4 + w))) acc (w + 1) (mset Mq 86 w col) (by omega) (by omega) ?_ (by rw [if_neg (by omega)]; rw [if_pos (by omega)] at hacc; rw [show j - 1 = w by omega]; exact hacc) (by omega) (by rw [hcol]; exact hI.last g0 (by omega)) (by omega)
            · rw [colF_s _ _ _ _ g0, ← hcol]; have z : lenD (M 83) w = M 83 (4 + w) := rfl; have z2 : wdF x i j w = 0 := if_neg (by omega)
              omega
          · skip
            have hj1 : w < j - 1 := by omega
            have hd0 : 0 ≤ x / (j - i - 1) := Int.ediv_nonneg hxb.1 (by omega)
            have hd1 : x / (j - i - 1) ≤ x := Int.ediv_le_self _ hxb.1
            have q1 := Int.emod_nonneg x (show j - i - 1 ≠ 0 by omega)
            have q2 := Int.emod_lt_of_pos x (show 0 < j - i - 1 by omega)
            have hwb := gap_bd hw0 (show 0 ≤ i by omega) g0 hj1 h3 hx
            refine j_aload_n (q := 83) F dX7_lays_82 rfl rfl 0 rfl ?_
            refine j_getR (q := 86) (z := 87) (index := 23) F md82 rfl in_X7_lays_7 6 (by decide) rfl fl_X7_lays_23 dX7_lays_83 rfl ?_
            refine j_iload (q := 88) F dX7_lays_86 rfl 8 rfl ?_
            refine j_iload (q := 90) F dX7_lays_88 rfl 6 rfl ?_
            refine j_iast (q := 91) F ar87 (by omega) (by omega) (by decide) dX7_lays_90 rfl ?_
            refine j_aload_n (q := 92) F dX7_lays_91 rfl rfl 0 rfl ?_
            refine j_getR (q := 95) (z := 88) (index := 26) F md82 rfl in_X7_lays_7 7 (by decide) rfl fl_X7_lays_26 dX7_lays_92 rfl ?_
            refine j_iload (q := 97) F dX7_lays_95 rfl 8 rfl ?_
            refine j_iconst (q := 98) F dX7_lays_97 rfl ?_
            refine j_iload (q := 100) F dX7_lays_98 rfl 4 rfl ?_
            refine j_iload (q := 102) F dX7_lays_100 rfl 5 rfl ?_
            refine j_idiv (q := 103) F dX7_lays_102 rfl ⟨by omega, by omega⟩ ⟨by omega, by omega⟩ ?_
            refine j_iadd (q := 104) (z := 1 + (x / ((j - i) - 1))) F dX7_lays_103 rfl rfl ?_
            refine j_iload (q := 106) F dX7_lays_104 rfl 8 rfl ?_
            refine j_iload_n (q := 107) F dX7_lays_106 rfl rfl 2 rfl ?_
            refine j_isub (q := 108) (z := w - i) F dX7_lays_107 rfl rfl ?_
            refine j_iload (q := 110) F dX7_lays_108 rfl 4 rfl ?_
            refine j_iload (q := 112) F dX7_lays_110 rfl 5 rfl ?_
            refine j_irem (q := 113) F dX7_lays_112 rfl ⟨by omega, by omega⟩ ⟨by omega, by omega⟩ ?_
            refine j_icmp_ge (q := 116) (tgt := 120) F dX7_lays_113 (by decide) rfl ⟨by omega, by omega⟩ ⟨by omega, by omega⟩ (fun h113_3 => ?_) (fun h113_3 => ?_)
            · skip
              refine j_iconst (q := 121) F dX7_lays_120 rfl ?_
              refine j_iadd (q := 122) (z := (1 + (x / ((j - i) - 1))) + 0) F dX7_lays_121 rfl rfl ?_
              refine j_iast (q := 123) F ar88 (by omega) (by omega) (by decide) dX7_lays_122 rfl ?_
              refine j_aload_n (q := 124) F dX7_lays_123 rfl rfl 0 rfl ?_
              refine j_getR (q := 127) (z := 89) (index := 29) F md82 rfl in_X7_lays_7 8 (by decide) rfl fl_X7_lays_29 dX7_lays_124 rfl ?_
              refine j_iload (q := 129) F dX7_lays_127 rfl 8 rfl ?_
              refine j_iconst (q := 130) F dX7_lays_129 rfl ?_
              refine j_iast (q := 131) F ar89 (by omega) (by omega) (by decide) dX7_lays_130 rfl ?_
              refine j_iload_n (q := 132) F dX7_lays_131 rfl rfl 1 rfl ?_
              refine j_istore (q := 134) (lv' := [(0, vR X 82), (1, vI p), (2, vI i), (3, vI j), (4, vI x), (5, vI ((j - i) - 1)), (6, vI (col + (M 83 (4 + w)))), (7, vI acc), (8, vI w), (9, vI p)]) F dX7_lays_132 rfl (by decide) rfl rfl ?_
              have LP134 : ∀ (nn : Nat) (g : Int) (Mi : Mem), (p ≤ g) → (g ≤ i - 1 ∨ g = p) → (LaH M Mi (lenD (M 83)) x i j (rlF (lenD (M 83)) (M 83 1) (M 83 0) p i j r) w) → (Mi 86 w = colF (lenD (M 83)) x i j w) → (Mi 87 w = lgc (lenD (M 83)) (M 83 1) (M 83 0) i j w) → (Mi 88 w = lgw (lenD (M 83)) (M 83 1) (M 83 0) i j w) → (Mi 89 w = 1 + mx (fun g => gmt (lenD (M 83)) (M 83 1) (M 83 0) p i j g w) r p g) → (i - g).toNat < nn → J zp l ze (rm 1) zs zm zargs zbelow zmeth zc 0 0 zQ zs.heap X 10 Mi 134 [(0, vR X 82), (1, vI p), (2, vI i), (3, vI j), (4, vI x), (5, vI ((j - i) - 1)), (6, vI (col + (M 83 (4 + w)))), (7, vI acc), (8, vI w), (9, vI g)] [] := by
                intro nn
                induction nn with
                | zero => intro g Mi g3 g4 hH v86 v87 v88 v89 hm134; exact absurd hm134 (Nat.not_lt_zero _)
                | succ nn ih134 =>
                  intro g Mi g3 g4 hH v86 v87 v88 v89 hm134
                  have hgg : g < i - 1 → Mi 87 g = M 87 g ∧ Mi 88 g = M 88 g ∧ Mi 89 g = M 89 g := fun z => (hH.2.2 g (by omega)).2
                  have hwv : Mi 87 w = lgc (lenD (M 83)) (M 83 1) (M 83 0) i j w ∧ Mi 88 w = lgw (lenD (M 83)) (M 83 1) (M 83 0) i j w := ⟨v87, v88⟩
                  have hmb : 0 ≤ mx (fun g => gmt (lenD (M 83)) (M 83 1) (M 83 0) p i j g w) r p g ∧ mx (fun g => gmt (lenD (M 83)) (M 83 1) (M 83 0) p i j g w) r p g ≤ 50 := mx_bd (by omega) (fun q a b _ => (hG q a (by omega)).2.2.2.2)
                  refine j_iload (q := 136) F dX7_lays_134 rfl 9 rfl ?_
                  refine j_iconst (q := 137) F dX7_lays_136 rfl ?_
                  refine j_iadd (q := 138) (z := g + 1) F dX7_lays_137 rfl rfl ?_
                  refine j_iload_n (q := 139) F dX7_lays_138 rfl rfl 2 rfl ?_
                  refine j_icmp_ge (q := 142) (tgt := 202) F dX7_lays_139 (by decide) rfl ⟨by omega, by omega⟩ ⟨by omega, by omega⟩ (fun h139_4 => ?_) (fun h139_4 => ?_)
                  · skip
                    have hfin : Mi 89 w = (rlF (lenD (M 83)) (M 83 1) (M 83 0) p i j r) w := by
                      rw [v89]
                      unfold rlF
                      rw [if_pos ⟨g0, hj1⟩]
                      congr 1
                      by_cases z : g = i - 1
                      · rw [z]
                      · rw [mx_0 _ _ (by omega), mx_0 _ _ (by omega)]
                    refine j_aload_n (q := 203) F dX7_lays_202 rfl rfl 0 rfl ?_
                    refine j_getR (q := 206) (z := 89) (index := 29) F md82 rfl in_X7_lays_7 8 (by decide) rfl fl_X7_lays_29 dX7_lays_203 rfl ?_
                    refine j_iload (q := 208) F dX7_lays_206 rfl 8 rfl ?_
                    refine j_iald (q := 209) F ar89 (by omega) (by omega) (by decide) dX7_lays_208 rfl ?_
                    refine j_iload (q := 211) F dX7_lays_209 rfl 7 rfl ?_
                    refine j_icmp_le (q := 214) (tgt := 224) F dX7_lays_211 (by decide) rfl ⟨by omega, by omega⟩ ⟨by omega, by omega⟩ (fun h211_5 => ?_) (fun h211_5 => ?_)
                    · skip
                      refine j_iload (q := 226) F dX7_lays_224 rfl 7 rfl ?_
                      refine j_istore (q := 228) (lv' := [(0, vR X 82), (1, vI p), (2, vI i), (3, vI j), (4, vI x), (5, vI ((j - i) - 1)), (6, vI (col + (M 83 (4 + w)))), (7, vI acc), (8, vI w), (9, vI g)]) F dX7_lays_226 rfl (by decide) rfl rfl ?_
                      refine j_iload (q := 230) F dX7_lays_228 rfl 6 rfl ?_
                      refine j_aload_n (q := 231) F dX7_lays_230 rfl rfl 0 rfl ?_
                      refine j_getR (q := 234) (z := 88) (index := 26) F md82 rfl in_X7_lays_7 7 (by decide) rfl fl_X7_lays_26 dX7_lays_231 rfl ?_
                      refine j_iload (q := 236) F dX7_lays_234 rfl 8 rfl ?_
                      refine j_iald (q := 237) F ar88 (by omega) (by omega) (by decide) dX7_lays_236 rfl ?_
                      refine j_iadd (q := 238) (z := (col + (M 83 (4 + w))) + (Mi 88 w)) F dX7_lays_237 rfl rfl ?_
                      refine j_istore (q := 240) (lv' := [(0, vR X 82), (1, vI p), (2, vI i), (3, vI j), (4, vI x), (5, vI ((j - i) - 1)), (6, vI ((col + (M 83 (4 + w))) + (Mi 88 w))), (7, vI acc), (8, vI w), (9, vI g)]) F dX7_lays_238 rfl (by decide) rfl rfl ?_
                      refine j_iinc (q := 243) (lv' := [(0, vR X 82), (1, vI p), (2, vI i), (3, vI j), (4, vI x), (5, vI ((j - i) - 1)), (6, vI ((col + (M 83 (4 + w))) + (Mi 88 w))), (7, vI acc), (8, vI (w + 1)), (9, vI g)]) F dX7_lays_240 rfl 8 rfl (by decide) rfl rfl ?_
                      refine j_goto (q := 45) F dX7_lays_243 (by decide) ?_
                      refine j_sub (lv' := [(0, vR X 82), (1, vI p), (2, vI i), (3, vI j), (4, vI x), (5, vI ((j - i) - 1)), (6, vI ((col + (M 83 (4 + w))) + (Mi 88 w))), (7, vI acc), (8, vI (w + 1))]) [0, 1, 2, 3, 4, 5, 6, 7, 8] rfl ?_
                      refine ih45 ((col + (M 83 (4 + w))) + (Mi 88 w)) acc (w + 1) Mi (by omega) (by omega) ?_ (by rw [if_pos (by omega), mx_s _ _ g0, if_pos rfl]; rw [if_pos (show w < j by omega)] at hacc; rw [← hacc, ← hfin]; split <;> omega) (by omega) (by exact hH.close g0 hj1 v86 (by rw [hxx]; exact v87) (by rw [hxx]; exact v88) hfin) (by omega)
                      · rw [colF_s _ _ _ _ g0, ← hcol]; have z : lenD (M 83) w = M 83 (4 + w) := rfl; have z2 : Mi 88 w = wdF x i j w := by rw [hxx]; exact v88
                        omega
                    · skip
                      refine j_aload_n (q := 215) F dX7_lays_214 rfl rfl 0 rfl ?_
                      refine j_getR (q := 218) (z := 89) (index := 29) F md82 rfl in_X7_lays_7 8 (by decide) rfl fl_X7_lays_29 dX7_lays_215 rfl ?_
                      refine j_iload (q := 220) F dX7_lays_218 rfl 8 rfl ?_
                      refine j_iald (q := 221) F ar89 (by omega) (by omega) (by decide) dX7_lays_220 rfl ?_
                      refine j_goto (q := 226) F dX7_lays_221 (by decide) ?_
                      refine j_istore (q := 228) (lv' := [(0, vR X 82), (1, vI p), (2, vI i), (3, vI j), (4, vI x), (5, vI ((j - i) - 1)), (6, vI (col + (M 83 (4 + w)))), (7, vI (Mi 89 w)), (8, vI w), (9, vI g)]) F dX7_lays_226 rfl (by decide) rfl rfl ?_
                      refine j_iload (q := 230) F dX7_lays_228 rfl 6 rfl ?_
                      refine j_aload_n (q := 231) F dX7_lays_230 rfl rfl 0 rfl ?_
                      refine j_getR (q := 234) (z := 88) (index := 26) F md82 rfl in_X7_lays_7 7 (by decide) rfl fl_X7_lays_26 dX7_lays_231 rfl ?_
                      refine j_iload (q := 236) F dX7_lays_234 rfl 8 rfl ?_
                      refine j_iald (q := 237) F ar88 (by omega) (by omega) (by decide) dX7_lays_236 rfl ?_
                      refine j_iadd (q := 238) (z := (col + (M 83 (4 + w))) + (Mi 88 w)) F dX7_lays_237 rfl rfl ?_
                      refine j_istore (q := 240) (lv' := [(0, vR X 82), (1, vI p), (2, vI i), (3, vI j), (4, vI x), (5, vI ((j - i) - 1)), (6, vI ((col + (M 83 (4 + w))) + (Mi 88 w))), (7, vI (Mi 89 w)), (8, vI w), (9, vI g)]) F dX7_lays_238 rfl (by decide) rfl rfl ?_
                      refine j_iinc (q := 243) (lv' := [(0, vR X 82), (1, vI p), (2, vI i), (3, vI j), (4, vI x), (5, vI ((j - i) - 1)), (6, vI ((col + (M 83 (4 + w))) + (Mi 88 w))), (7, vI (Mi 89 w)), (8, vI (w + 1)), (9, vI g)]) F dX7_lays_240 rfl 8 rfl (by decide) rfl rfl ?_
                      refine j_goto (q := 45) F dX7_lays_243 (by decide) ?_
                      refine j_sub (lv' := [(0, vR X 82), (1, vI p), (2, vI i), (3, vI j), (4, vI x), (5, vI ((j - i) - 1)), (6, vI ((col + (M 83 (4 + w))) + (Mi 88 w))), (7, vI (Mi 89 w)), (8, vI (w + 1))]) [0, 1, 2, 3, 4, 5, 6, 7, 8] rfl ?_
                      refine ih45 ((col + (M 83 (4 + w))) + (Mi 88 w)) (Mi 89 w) (w + 1) Mi (by omega) (by omega) ?_ (by rw [if_pos (by omega), mx_s _ _ g0, if_pos rfl]; rw [if_pos (show w < j by omega)] at hacc; rw [← hacc, ← hfin]; split <;> omega) (by omega) (by exact hH.close g0 hj1 v86 (by rw [hxx]; exact v87) (by rw [hxx]; exact v88) hfin) (by omega)
                      · rw [colF_s _ _ _ _ g0, ← hcol]; have z : lenD (M 83) w = M 83 (4 + w) := rfl; have z2 : Mi 88 w = wdF x i j w := by rw [hxx]; exact v88
                        omega
                  · skip
                    have hgg := hgg (by omega)
                    have hrg := (hG g g3 (by omega)).2.2.2
                    refine j_aload_n (q := 143) F dX7_lays_142 rfl rfl 0 rfl ?_
                    refine j_getR (q := 146) (z := 89) (index := 29) F md82 rfl in_X7_lays_7 8 (by decide) rfl fl_X7_lays_29 dX7_lays_143 rfl ?_
                    refine j_iload (q := 148) F dX7_lays_146 rfl 8 rfl ?_
                    refine j_aload_n (q := 149) F dX7_lays_148 rfl rfl 0 rfl ?_
                    refine j_iload (q := 151) F dX7_lays_149 rfl 8 rfl ?_
                    refine j_iload (q := 153) F dX7_lays_151 rfl 9 rfl ?_
                    refine j_callVZ (q := 156) F [vI w, vI g] (ct_X7_meets l X hX Mi w g (by omega) (by omega) (by rw [v87, v88]; exact hwb) (by rw [hgg.1, hgg.2.1]; exact hab g g3 (by omega))) gX7_lays_X7_meets rfl cd_X7_meets ⟨by first | exact Nat.le_of_ble_eq_true rfl | (simp only [rm]; omega) | (simp [rm, vI, vR, Value.category]; omega), by first | exact Nat.le_of_ble_eq_true rfl | (simp only [rm]; omega) | (simp [rm, vI, vR, Value.category]; omega), by first | exact Nat.le_of_ble_eq_true rfl | (simp only [rm]; omega) | (simp [rm, vI, vR, Value.category]; omega), by first | exact Nat.le_of_ble_eq_true rfl | (simp only [rm]; omega) | (simp [rm, vI, vR, Value.category]; omega)⟩ md82 rfl rfl rfl (Nat.le_of_ble_eq_true rfl) dX7_lays_153 rfl (fun hm => ?_) (fun hm => ?_)
                    · skip
                      have hm : gmt (lenD (M 83)) (M 83 1) (M 83 0) p i j g w = true := by
                        unfold gmt
                        rw [← (hG g g3 (by omega)).1, ← (hG g g3 (by omega)).2.1, ← hgg.1, ← hgg.2.1, ← hwv.1, ← hwv.2]
                        exact mtB_iff.mpr (mtP_comm.mp hm)
                      refine j_if_eq (q := 159) (tgt := 188) F dX7_lays_156 (by decide) rfl ⟨by decide, by decide⟩ (fun h => absurd h (by decide)) (fun _ => ?_)
                      refine j_aload_n (q := 160) F dX7_lays_159 rfl rfl 0 rfl ?_
                      refine j_getR (q := 163) (z := 89) (index := 29) F md82 rfl in_X7_lays_7 8 (by decide) rfl fl_X7_lays_29 dX7_lays_160 rfl ?_
                      refine j_iload (q := 165) F dX7_lays_163 rfl 9 rfl ?_
                      refine j_iald (q := 166) F ar89 (by omega) (by omega) (by decide) dX7_lays_165 rfl ?_
                      rw [show Mi 89 g = r g from by rw [hgg.2.2]; exact (hG g g3 (by omega)).2.2.1]
                      refine j_aload_n (q := 167) F dX7_lays_166 rfl rfl 0 rfl ?_
                      refine j_getR (q := 170) (z := 89) (index := 29) F md82 rfl in_X7_lays_7 8 (by decide) rfl fl_X7_lays_29 dX7_lays_167 rfl ?_
                      refine j_iload (q := 172) F dX7_lays_170 rfl 8 rfl ?_
                      refine j_iald (q := 173) F ar89 (by omega) (by omega) (by decide) dX7_lays_172 rfl ?_
                      refine j_icmp_lt (q := 176) (tgt := 188) F dX7_lays_173 (by decide) rfl ⟨by omega, by omega⟩ ⟨by omega, by omega⟩ (fun h173_7 => ?_) (fun h173_7 => ?_)
                      · skip
                        refine j_aload_n (q := 189) F dX7_lays_188 rfl rfl 0 rfl ?_
                        refine j_getR (q := 192) (z := 89) (index := 29) F md82 rfl in_X7_lays_7 8 (by decide) rfl fl_X7_lays_29 dX7_lays_189 rfl ?_
                        refine j_iload (q := 194) F dX7_lays_192 rfl 8 rfl ?_
                        refine j_iald (q := 195) F ar89 (by omega) (by omega) (by decide) dX7_lays_194 rfl ?_
                        refine j_iast (q := 196) F ar89 (by omega) (by omega) (by decide) dX7_lays_195 rfl ?_
                        refine j_iinc (q := 199) (lv' := [(0, vR X 82), (1, vI p), (2, vI i), (3, vI j), (4, vI x), (5, vI ((j - i) - 1)), (6, vI (col + (M 83 (4 + w)))), (7, vI acc), (8, vI w), (9, vI (g + 1))]) F dX7_lays_196 rfl 9 rfl (by decide) rfl rfl ?_
                        refine j_goto (q := 134) F dX7_lays_199 (by decide) ?_
                        exact ih134 (g + 1) (mset Mi 89 w (Mi 89 w)) (by omega) (by omega) (by exact hH.set g0 (by decide) _) (by rw [mset_nef (by decide)]; exact v86) (by rw [mset_nef (by decide)]; exact v87) (by rw [mset_nef (by decide)]; exact v88) (by rw [mset_at, mx_s _ _ g3]; first | (rw [if_pos hm]; split <;> omega) | (rw [if_neg hm]; exact v89)) (by omega)
                      · skip
                        refine j_aload_n (q := 177) F dX7_lays_176 rfl rfl 0 rfl ?_
                        refine j_getR (q := 180) (z := 89) (index := 29) F md82 rfl in_X7_lays_7 8 (by decide) rfl fl_X7_lays_29 dX7_lays_177 rfl ?_
                        refine j_iload (q := 182) F dX7_lays_180 rfl 9 rfl ?_
                        refine j_iald (q := 183) F ar89 (by omega) (by omega) (by decide) dX7_lays_182 rfl ?_
                        rw [show Mi 89 g = r g from by rw [hgg.2.2]; exact (hG g g3 (by omega)).2.2.1]
                        refine j_iconst (q := 184) F dX7_lays_183 rfl ?_
                        refine j_iadd (q := 185) (z := (r g) + 1) F dX7_lays_184 rfl rfl ?_
                        refine j_goto (q := 195) F dX7_lays_185 (by decide) ?_
                        refine j_iast (q := 196) F ar89 (by omega) (by omega) (by decide) dX7_lays_195 rfl ?_
                        refine j_iinc (q := 199) (lv' := [(0, vR X 82), (1, vI p), (2, vI i), (3, vI j), (4, vI x), (5, vI ((j - i) - 1)), (6, vI (col + (M 83 (4 + w)))), (7, vI acc), (8, vI w), (9, vI (g + 1))]) F dX7_lays_196 rfl 9 rfl (by decide) rfl rfl ?_
                        refine j_goto (q := 134) F dX7_lays_199 (by decide) ?_
                        exact ih134 (g + 1) (mset Mi 89 w ((r g) + 1)) (by omega) (by omega) (by exact hH.set g0 (by decide) _) (by rw [mset_nef (by decide)]; exact v86) (by rw [mset_nef (by decide)]; exact v87) (by rw [mset_nef (by decide)]; exact v88) (by rw [mset_at, mx_s _ _ g3]; first | (rw [if_pos hm]; split <;> omega) | (rw [if_neg hm]; exact v89)) (by omega)
                    · skip
                      have hm : ¬ gmt (lenD (M 83)) (M 83 1) (M 83 0) p i j g w = true := by
                        unfold gmt
                        rw [← (hG g g3 (by omega)).1, ← (hG g g3 (by omega)).2.1, ← hgg.1, ← hgg.2.1, ← hwv.1, ← hwv.2]
                        exact fun z => hm (mtP_comm.mp (mtB_iff.mp z))
                      refine j_if_eq (q := 159) (tgt := 188) F dX7_lays_156 (by decide) rfl ⟨by decide, by decide⟩ (fun _ => ?_) (fun h => absurd h (by decide))
                      refine j_aload_n (q := 189) F dX7_lays_188 rfl rfl 0 rfl ?_
                      refine j_getR (q := 192) (z := 89) (index := 29) F md82 rfl in_X7_lays_7 8 (by decide) rfl fl_X7_lays_29 dX7_lays_189 rfl ?_
                      refine j_iload (q := 194) F dX7_lays_192 rfl 8 rfl ?_
                      refine j_iald (q := 195) F ar89 (by omega) (by omega) (by decide) dX7_lays_194 rfl ?_
                      refine j_iast (q := 196) F ar89 (by omega) (by omega) (by decide) dX7_lays_195 rfl ?_
                      refine j_iinc (q := 199) (lv' := [(0, vR X 82), (1, vI p), (2, vI i), (3, vI j), (4, vI x), (5, vI ((j - i) - 1)), (6, vI (col + (M 83 (4 + w)))), (7, vI acc), (8, vI w), (9, vI (g + 1))]) F dX7_lays_196 rfl 9 rfl (by decide) rfl rfl ?_
                      refine j_goto (q := 134) F dX7_lays_199 (by decide) ?_
                      exact ih134 (g + 1) (mset Mi 89 w (Mi 89 w)) (by omega) (by omega) (by exact hH.set g0 (by decide) _) (by rw [mset_nef (by decide)]; exact v86) (by rw [mset_nef (by decide)]; exact v87) (by rw [mset_nef (by decide)]; exact v88) (by rw [mset_at, mx_s _ _ g3]; first | (rw [if_pos hm]; split <;> omega) | (rw [if_neg hm]; exact v89)) (by omega)
              exact LP134 _ p (mset (mset (mset (mset Mq 86 w col) 87 w (col + (M 83 (4 + w)))) 88 w ((1 + (x / ((j - i) - 1))) + 0)) 89 w 1) (by omega) (by omega) (by exact (((hI.hole.set g0 (by decide) _).set g0 (by decide) _).set g0 (by decide) _).set g0 (by decide) _) (by rw [mset_nef (by decide), mset_nef (by decide), mset_nef (by decide), mset_at]; exact hcol) (by rw [mset_nef (by decide), mset_nef (by decide), mset_at, hcol, hxx]; rfl) (by rw [mset_nef (by decide), mset_at]; unfold lgw; rw [← hxx]; unfold wdF gwF; rw [if_pos hj1]; first | rw [if_pos (by omega)] | rw [if_neg (by omega)]) (by rw [mset_at, mx_0 _ _ (Int.le_refl _)]; rfl) (by exact Nat.lt_succ_self _)
            · skip
              refine j_iconst (q := 117) F dX7_lays_116 rfl ?_
              refine j_goto (q := 121) F dX7_lays_117 (by decide) ?_
              refine j_iadd (q := 122) (z := (1 + (x / ((j - i) - 1))) + 1) F dX7_lays_121 rfl rfl ?_
              refine j_iast (q := 123) F ar88 (by omega) (by omega) (by decide) dX7_lays_122 rfl ?_
              refine j_aload_n (q := 124) F dX7_lays_123 rfl rfl 0 rfl ?_
              refine j_getR (q := 127) (z := 89) (index := 29) F md82 rfl in_X7_lays_7 8 (by decide) rfl fl_X7_lays_29 dX7_lays_124 rfl ?_
              refine j_iload (q := 129) F dX7_lays_127 rfl 8 rfl ?_
              refine j_iconst (q := 130) F dX7_lays_129 rfl ?_
              refine j_iast (q := 131) F ar89 (by omega) (by omega) (by decide) dX7_lays_130 rfl ?_
              refine j_iload_n (q := 132) F dX7_lays_131 rfl rfl 1 rfl ?_
              refine j_istore (q := 134) (lv' := [(0, vR X 82), (1, vI p), (2, vI i), (3, vI j), (4, vI x), (5, vI ((j - i) - 1)), (6, vI (col + (M 83 (4 + w)))), (7, vI acc), (8, vI w), (9, vI p)]) F dX7_lays_132 rfl (by decide) rfl rfl ?_
              have LP134 : ∀ (nn : Nat) (g : Int) (Mi : Mem), (p ≤ g) → (g ≤ i - 1 ∨ g = p) → (LaH M Mi (lenD (M 83)) x i j (rlF (lenD (M 83)) (M 83 1) (M 83 0) p i j r) w) → (Mi 86 w = colF (lenD (M 83)) x i j w) → (Mi 87 w = lgc (lenD (M 83)) (M 83 1) (M 83 0) i j w) → (Mi 88 w = lgw (lenD (M 83)) (M 83 1) (M 83 0) i j w) → (Mi 89 w = 1 + mx (fun g => gmt (lenD (M 83)) (M 83 1) (M 83 0) p i j g w) r p g) → (i - g).toNat < nn → J zp l ze (rm 1) zs zm zargs zbelow zmeth zc 0 0 zQ zs.heap X 10 Mi 134 [(0, vR X 82), (1, vI p), (2, vI i), (3, vI j), (4, vI x), (5, vI ((j - i) - 1)), (6, vI (col + (M 83 (4 + w)))), (7, vI acc), (8, vI w), (9, vI g)] [] := by
                intro nn
                induction nn with
                | zero => intro g Mi g3 g4 hH v86 v87 v88 v89 hm134; exact absurd hm134 (Nat.not_lt_zero _)
                | succ nn ih134 =>
                  intro g Mi g3 g4 hH v86 v87 v88 v89 hm134
                  have hgg : g < i - 1 → Mi 87 g = M 87 g ∧ Mi 88 g = M 88 g ∧ Mi 89 g = M 89 g := fun z => (hH.2.2 g (by omega)).2
                  have hwv : Mi 87 w = lgc (lenD (M 83)) (M 83 1) (M 83 0) i j w ∧ Mi 88 w = lgw (lenD (M 83)) (M 83 1) (M 83 0) i j w := ⟨v87, v88⟩
                  have hmb : 0 ≤ mx (fun g => gmt (lenD (M 83)) (M 83 1) (M 83 0) p i j g w) r p g ∧ mx (fun g => gmt (lenD (M 83)) (M 83 1) (M 83 0) p i j g w) r p g ≤ 50 := mx_bd (by omega) (fun q a b _ => (hG q a (by omega)).2.2.2.2)
                  refine j_iload (q := 136) F dX7_lays_134 rfl 9 rfl ?_
                  refine j_iconst (q := 137) F dX7_lays_136 rfl ?_
                  refine j_iadd (q := 138) (z := g + 1) F dX7_lays_137 rfl rfl ?_
                  refine j_iload_n (q := 139) F dX7_lays_138 rfl rfl 2 rfl ?_
                  refine j_icmp_ge (q := 142) (tgt := 202) F dX7_lays_139 (by decide) rfl ⟨by omega, by omega⟩ ⟨by omega, by omega⟩ (fun h139_8 => ?_) (fun h139_8 => ?_)
                  · skip
                    have hfin : Mi 89 w = (rlF (lenD (M 83)) (M 83 1) (M 83 0) p i j r) w := by
                      rw [v89]
                      unfold rlF
                      rw [if_pos ⟨g0, hj1⟩]
                      congr 1
                      by_cases z : g = i - 1
                      · rw [z]
                      · rw [mx_0 _ _ (by omega), mx_0 _ _ (by omega)]
                    refine j_aload_n (q := 203) F dX7_lays_202 rfl rfl 0 rfl ?_
                    refine j_getR (q := 206) (z := 89) (index := 29) F md82 rfl in_X7_lays_7 8 (by decide) rfl fl_X7_lays_29 dX7_lays_203 rfl ?_
                    refine j_iload (q := 208) F dX7_lays_206 rfl 8 rfl ?_
                    refine j_iald (q := 209) F ar89 (by omega) (by omega) (by decide) dX7_lays_208 rfl ?_
                    refine j_iload (q := 211) F dX7_lays_209 rfl 7 rfl ?_
                    refine j_icmp_le (q := 214) (tgt := 224) F dX7_lays_211 (by decide) rfl ⟨by omega, by omega⟩ ⟨by omega, by omega⟩ (fun h211_9 => ?_) (fun h211_9 => ?_)
                    · skip
                      refine j_iload (q := 226) F dX7_lays_224 rfl 7 rfl ?_
                      refine j_istore (q := 228) (lv' := [(0, vR X 82), (1, vI p), (2, vI i), (3, vI j), (4, vI x), (5, vI ((j - i) - 1)), (6, vI (col + (M 83 (4 + w)))), (7, vI acc), (8, vI w), (9, vI g)]) F dX7_lays_226 rfl (by decide) rfl rfl ?_
                      refine j_iload (q := 230) F dX7_lays_228 rfl 6 rfl ?_
                      refine j_aload_n (q := 231) F dX7_lays_230 rfl rfl 0 rfl ?_
                      refine j_getR (q := 234) (z := 88) (index := 26) F md82 rfl in_X7_lays_7 7 (by decide) rfl fl_X7_lays_26 dX7_lays_231 rfl ?_
                      refine j_iload (q := 236) F dX7_lays_234 rfl 8 rfl ?_
                      refine j_iald (q := 237) F ar88 (by omega) (by omega) (by decide) dX7_lays_236 rfl ?_
                      refine j_iadd (q := 238) (z := (col + (M 83 (4 + w))) + (Mi 88 w)) F dX7_lays_237 rfl rfl ?_
                      refine j_istore (q := 240) (lv' := [(0, vR X 82), (1, vI p), (2, vI i), (3, vI j), (4, vI x), (5, vI ((j - i) - 1)), (6, vI ((col + (M 83 (4 + w))) + (Mi 88 w))), (7, vI acc), (8, vI w), (9, vI g)]) F dX7_lays_238 rfl (by decide) rfl rfl ?_
                      refine j_iinc (q := 243) (lv' := [(0, vR X 82), (1, vI p), (2, vI i), (3, vI j), (4, vI x), (5, vI ((j - i) - 1)), (6, vI ((col + (M 83 (4 + w))) + (Mi 88 w))), (7, vI acc), (8, vI (w + 1)), (9, vI g)]) F dX7_lays_240 rfl 8 rfl (by decide) rfl rfl ?_
                      refine j_goto (q := 45) F dX7_lays_243 (by decide) ?_
                      refine j_sub (lv' := [(0, vR X 82), (1, vI p), (2, vI i), (3, vI j), (4, vI x), (5, vI ((j - i) - 1)), (6, vI ((col + (M 83 (4 + w))) + (Mi 88 w))), (7, vI acc), (8, vI (w + 1))]) [0, 1, 2, 3, 4, 5, 6, 7, 8] rfl ?_
                      refine ih45 ((col + (M 83 (4 + w))) + (Mi 88 w)) acc (w + 1) Mi (by omega) (by omega) ?_ (by rw [if_pos (by omega), mx_s _ _ g0, if_pos rfl]; rw [if_pos (show w < j by omega)] at hacc; rw [← hacc, ← hfin]; split <;> omega) (by omega) (by exact hH.close g0 hj1 v86 (by rw [hxx]; exact v87) (by rw [hxx]; exact v88) hfin) (by omega)
                      · rw [colF_s _ _ _ _ g0, ← hcol]; have z : lenD (M 83) w = M 83 (4 + w) := rfl; have z2 : Mi 88 w = wdF x i j w := by rw [hxx]; exact v88
                        omega
                    · skip
                      refine j_aload_n (q := 215) F dX7_lays_214 rfl rfl 0 rfl ?_
                      refine j_getR (q := 218) (z := 89) (index := 29) F md82 rfl in_X7_lays_7 8 (by decide) rfl fl_X7_lays_29 dX7_lays_215 rfl ?_
                      refine j_iload (q := 220) F dX7_lays_218 rfl 8 rfl ?_
                      refine j_iald (q := 221) F ar89 (by omega) (by omega) (by decide) dX7_lays_220 rfl ?_
                      refine j_goto (q := 226) F dX7_lays_221 (by decide) ?_
                      refine j_istore (q := 228) (lv' := [(0, vR X 82), (1, vI p), (2, vI i), (3, vI j), (4, vI x), (5, vI ((j - i) - 1)), (6, vI (col + (M 83 (4 + w)))), (7, vI (Mi 89 w)), (8, vI w), (9, vI g)]) F dX7_lays_226 rfl (by decide) rfl rfl ?_
                      refine j_iload (q := 230) F dX7_lays_228 rfl 6 rfl ?_
                      refine j_aload_n (q := 231) F dX7_lays_230 rfl rfl 0 rfl ?_
                      refine j_getR (q := 234) (z := 88) (index := 26) F md82 rfl in_X7_lays_7 7 (by decide) rfl fl_X7_lays_26 dX7_lays_231 rfl ?_
                      refine j_iload (q := 236) F dX7_lays_234 rfl 8 rfl ?_
                      refine j_iald (q := 237) F ar88 (by omega) (by omega) (by decide) dX7_lays_236 rfl ?_
                      refine j_iadd (q := 238) (z := (col + (M 83 (4 + w))) + (Mi 88 w)) F dX7_lays_237 rfl rfl ?_
                      refine j_istore (q := 240) (lv' := [(0, vR X 82), (1, vI p), (2, vI i), (3, vI j), (4, vI x), (5, vI ((j - i) - 1)), (6, vI ((col + (M 83 (4 + w))) + (Mi 88 w))), (7, vI (Mi 89 w)), (8, vI w), (9, vI g)]) F dX7_lays_238 rfl (by decide) rfl rfl ?_
                      refine j_iinc (q := 243) (lv' := [(0, vR X 82), (1, vI p), (2, vI i), (3, vI j), (4, vI x), (5, vI ((j - i) - 1)), (6, vI ((col + (M 83 (4 + w))) + (Mi 88 w))), (7, vI (Mi 89 w)), (8, vI (w + 1)), (9, vI g)]) F dX7_lays_240 rfl 8 rfl (by decide) rfl rfl ?_
                      refine j_goto (q := 45) F dX7_lays_243 (by decide) ?_
                      refine j_sub (lv' := [(0, vR X 82), (1, vI p), (2, vI i), (3, vI j), (4, vI x), (5, vI ((j - i) - 1)), (6, vI ((col + (M 83 (4 + w))) + (Mi 88 w))), (7, vI (Mi 89 w)), (8, vI (w + 1))]) [0, 1, 2, 3, 4, 5, 6, 7, 8] rfl ?_
                      refine ih45 ((col + (M 83 (4 + w))) + (Mi 88 w)) (Mi 89 w) (w + 1) Mi (by omega) (by omega) ?_ (by rw [if_pos (by omega), mx_s _ _ g0, if_pos rfl]; rw [if_pos (show w < j by omega)] at hacc; rw [← hacc, ← hfin]; split <;> omega) (by omega) (by exact hH.close g0 hj1 v86 (by rw [hxx]; exact v87) (by rw [hxx]; exact v88) hfin) (by omega)
                      · rw [colF_s _ _ _ _ g0, ← hcol]; have z : lenD (M 83) w = M 83 (4 + w) := rfl; have z2 : Mi 88 w = wdF x i j w := by rw [hxx]; exact v88
                        omega
                  · skip
                    have hgg := hgg (by omega)
                    have hrg := (hG g g3 (by omega)).2.2.2
                    refine j_aload_n (q := 143) F dX7_lays_142 rfl rfl 0 rfl ?_
                    refine j_getR (q := 146) (z := 89) (index := 29) F md82 rfl in_X7_lays_7 8 (by decide) rfl fl_X7_lays_29 dX7_lays_143 rfl ?_
                    refine j_iload (q := 148) F dX7_lays_146 rfl 8 rfl ?_
                    refine j_aload_n (q := 149) F dX7_lays_148 rfl rfl 0 rfl ?_
                    refine j_iload (q := 151) F dX7_lays_149 rfl 8 rfl ?_
                    refine j_iload (q := 153) F dX7_lays_151 rfl 9 rfl ?_
                    refine j_callVZ (q := 156) F [vI w, vI g] (ct_X7_meets l X hX Mi w g (by omega) (by omega) (by rw [v87, v88]; exact hwb) (by rw [hgg.1, hgg.2.1]; exact hab g g3 (by omega))) gX7_lays_X7_meets rfl cd_X7_meets ⟨by first | exact Nat.le_of_ble_eq_true rfl | (simp only [rm]; omega) | (simp [rm, vI, vR, Value.category]; omega), by first | exact Nat.le_of_ble_eq_true rfl | (simp only [rm]; omega) | (simp [rm, vI, vR, Value.category]; omega), by first | exact Nat.le_of_ble_eq_true rfl | (simp only [rm]; omega) | (simp [rm, vI, vR, Value.category]; omega), by first | exact Nat.le_of_ble_eq_true rfl | (simp only [rm]; omega) | (simp [rm, vI, vR, Value.category]; omega)⟩ md82 rfl rfl rfl (Nat.le_of_ble_eq_true rfl) dX7_lays_153 rfl (fun hm => ?_) (fun hm => ?_)
                    · skip
                      have hm : gmt (lenD (M 83)) (M 83 1) (M 83 0) p i j g w = true := by
                        unfold gmt
                        rw [← (hG g g3 (by omega)).1, ← (hG g g3 (by omega)).2.1, ← hgg.1, ← hgg.2.1, ← hwv.1, ← hwv.2]
                        exact mtB_iff.mpr (mtP_comm.mp hm)
                      refine j_if_eq (q := 159) (tgt := 188) F dX7_lays_156 (by decide) rfl ⟨by decide, by decide⟩ (fun h => absurd h (by decide)) (fun _ => ?_)
                      refine j_aload_n (q := 160) F dX7_lays_159 rfl rfl 0 rfl ?_
                      refine j_getR (q := 163) (z := 89) (index := 29) F md82 rfl in_X7_lays_7 8 (by decide) rfl fl_X7_lays_29 dX7_lays_160 rfl ?_
                      refine j_iload (q := 165) F dX7_lays_163 rfl 9 rfl ?_
                      refine j_iald (q := 166) F ar89 (by omega) (by omega) (by decide) dX7_lays_165 rfl ?_
                      rw [show Mi 89 g = r g from by rw [hgg.2.2]; exact (hG g g3 (by omega)).2.2.1]
                      refine j_aload_n (q := 167) F dX7_lays_166 rfl rfl 0 rfl ?_
                      refine j_getR (q := 170) (z := 89) (index := 29) F md82 rfl in_X7_lays_7 8 (by decide) rfl fl_X7_lays_29 dX7_lays_167 rfl ?_
                      refine j_iload (q := 172) F dX7_lays_170 rfl 8 rfl ?_
                      refine j_iald (q := 173) F ar89 (by omega) (by omega) (by decide) dX7_lays_172 rfl ?_
                      refine j_icmp_lt (q := 176) (tgt := 188) F dX7_lays_173 (by decide) rfl ⟨by omega, by omega⟩ ⟨by omega, by omega⟩ (fun h173_11 => ?_) (fun h173_11 => ?_)
                      · skip
                        refine j_aload_n (q := 189) F dX7_lays_188 rfl rfl 0 rfl ?_
                        refine j_getR (q := 192) (z := 89) (index := 29) F md82 rfl in_X7_lays_7 8 (by decide) rfl fl_X7_lays_29 dX7_lays_189 rfl ?_
                        refine j_iload (q := 194) F dX7_lays_192 rfl 8 rfl ?_
                        refine j_iald (q := 195) F ar89 (by omega) (by omega) (by decide) dX7_lays_194 rfl ?_
                        refine j_iast (q := 196) F ar89 (by omega) (by omega) (by decide) dX7_lays_195 rfl ?_
                        refine j_iinc (q := 199) (lv' := [(0, vR X 82), (1, vI p), (2, vI i), (3, vI j), (4, vI x), (5, vI ((j - i) - 1)), (6, vI (col + (M 83 (4 + w)))), (7, vI acc), (8, vI w), (9, vI (g + 1))]) F dX7_lays_196 rfl 9 rfl (by decide) rfl rfl ?_
                        refine j_goto (q := 134) F dX7_lays_199 (by decide) ?_
                        exact ih134 (g + 1) (mset Mi 89 w (Mi 89 w)) (by omega) (by omega) (by exact hH.set g0 (by decide) _) (by rw [mset_nef (by decide)]; exact v86) (by rw [mset_nef (by decide)]; exact v87) (by rw [mset_nef (by decide)]; exact v88) (by rw [mset_at, mx_s _ _ g3]; first | (rw [if_pos hm]; split <;> omega) | (rw [if_neg hm]; exact v89)) (by omega)
                      · skip
                        refine j_aload_n (q := 177) F dX7_lays_176 rfl rfl 0 rfl ?_
                        refine j_getR (q := 180) (z := 89) (index := 29) F md82 rfl in_X7_lays_7 8 (by decide) rfl fl_X7_lays_29 dX7_lays_177 rfl ?_
                        refine j_iload (q := 182) F dX7_lays_180 rfl 9 rfl ?_
                        refine j_iald (q := 183) F ar89 (by omega) (by omega) (by decide) dX7_lays_182 rfl ?_
                        rw [show Mi 89 g = r g from by rw [hgg.2.2]; exact (hG g g3 (by omega)).2.2.1]
                        refine j_iconst (q := 184) F dX7_lays_183 rfl ?_
                        refine j_iadd (q := 185) (z := (r g) + 1) F dX7_lays_184 rfl rfl ?_
                        refine j_goto (q := 195) F dX7_lays_185 (by decide) ?_
                        refine j_iast (q := 196) F ar89 (by omega) (by omega) (by decide) dX7_lays_195 rfl ?_
                        refine j_iinc (q := 199) (lv' := [(0, vR X 82), (1, vI p), (2, vI i), (3, vI j), (4, vI x), (5, vI ((j - i) - 1)), (6, vI (col + (M 83 (4 + w)))), (7, vI acc), (8, vI w), (9, vI (g + 1))]) F dX7_lays_196 rfl 9 rfl (by decide) rfl rfl ?_
                        refine j_goto (q := 134) F dX7_lays_199 (by decide) ?_
                        exact ih134 (g + 1) (mset Mi 89 w ((r g) + 1)) (by omega) (by omega) (by exact hH.set g0 (by decide) _) (by rw [mset_nef (by decide)]; exact v86) (by rw [mset_nef (by decide)]; exact v87) (by rw [mset_nef (by decide)]; exact v88) (by rw [mset_at, mx_s _ _ g3]; first | (rw [if_pos hm]; split <;> omega) | (rw [if_neg hm]; exact v89)) (by omega)
                    · skip
                      have hm : ¬ gmt (lenD (M 83)) (M 83 1) (M 83 0) p i j g w = true := by
                        unfold gmt
                        rw [← (hG g g3 (by omega)).1, ← (hG g g3 (by omega)).2.1, ← hgg.1, ← hgg.2.1, ← hwv.1, ← hwv.2]
                        exact fun z => hm (mtP_comm.mp (mtB_iff.mp z))
                      refine j_if_eq (q := 159) (tgt := 188) F dX7_lays_156 (by decide) rfl ⟨by decide, by decide⟩ (fun _ => ?_) (fun h => absurd h (by decide))
                      refine j_aload_n (q := 189) F dX7_lays_188 rfl rfl 0 rfl ?_
                      refine j_getR (q := 192) (z := 89) (index := 29) F md82 rfl in_X7_lays_7 8 (by decide) rfl fl_X7_lays_29 dX7_lays_189 rfl ?_
                      refine j_iload (q := 194) F dX7_lays_192 rfl 8 rfl ?_
                      refine j_iald (q := 195) F ar89 (by omega) (by omega) (by decide) dX7_lays_194 rfl ?_
                      refine j_iast (q := 196) F ar89 (by omega) (by omega) (by decide) dX7_lays_195 rfl ?_
                      refine j_iinc (q := 199) (lv' := [(0, vR X 82), (1, vI p), (2, vI i), (3, vI j), (4, vI x), (5, vI ((j - i) - 1)), (6, vI (col + (M 83 (4 + w)))), (7, vI acc), (8, vI w), (9, vI (g + 1))]) F dX7_lays_196 rfl 9 rfl (by decide) rfl rfl ?_
                      refine j_goto (q := 134) F dX7_lays_199 (by decide) ?_
                      exact ih134 (g + 1) (mset Mi 89 w (Mi 89 w)) (by omega) (by omega) (by exact hH.set g0 (by decide) _) (by rw [mset_nef (by decide)]; exact v86) (by rw [mset_nef (by decide)]; exact v87) (by rw [mset_nef (by decide)]; exact v88) (by rw [mset_at, mx_s _ _ g3]; first | (rw [if_pos hm]; split <;> omega) | (rw [if_neg hm]; exact v89)) (by omega)
              exact LP134 _ p (mset (mset (mset (mset Mq 86 w col) 87 w (col + (M 83 (4 + w)))) 88 w ((1 + (x / ((j - i) - 1))) + 1)) 89 w 1) (by omega) (by omega) (by exact (((hI.hole.set g0 (by decide) _).set g0 (by decide) _).set g0 (by decide) _).set g0 (by decide) _) (by rw [mset_nef (by decide), mset_nef (by decide), mset_nef (by decide), mset_at]; exact hcol) (by rw [mset_nef (by decide), mset_nef (by decide), mset_at, hcol, hxx]; rfl) (by rw [mset_nef (by decide), mset_at]; unfold lgw; rw [← hxx]; unfold wdF gwF; rw [if_pos hj1]; first | rw [if_pos (by omega)] | rw [if_neg (by omega)]) (by rw [mset_at, mx_0 _ _ (Int.le_refl _)]; rfl) (by exact Nat.lt_succ_self _)
    exact LP45 _ 0 0 i M (by omega) (by omega) (by exact (colF_0 _ _ _ _).symm) (by rw [if_pos (by omega)]; exact (mx_0 _ _ (Int.le_refl _)).symm) (by omega) (by exact LaI.start _ _ _ _ _ _) (by exact Nat.lt_succ_self _)
  refine j_iload_n (q := 1) F dX7_lays_0 rfl rfl 3 rfl ?_
  refine j_aload_n (q := 2) F dX7_lays_1 rfl rfl 0 rfl ?_
  refine j_getR (q := 5) (z := 83) (index := 7) F md82 rfl in_X7_lays_7 0 (by decide) rfl fl_X7_lays_7 dX7_lays_2 rfl ?_
  refine j_iconst (q := 6) F dX7_lays_5 rfl ?_
  refine j_iald (q := 7) F ar83 (by omega) (by omega) (by decide) dX7_lays_6 rfl ?_
  refine j_icmp_ne (q := 10) (tgt := 14) F dX7_lays_7 (by decide) rfl ⟨by omega, by omega⟩ ⟨by omega, by omega⟩ (fun h7_12 => ?_) (fun h7_12 => ?_)
  · skip
    refine j_aload_n (q := 15) F dX7_lays_14 rfl rfl 0 rfl ?_
    refine j_getR (q := 18) (z := 83) (index := 7) F md82 rfl in_X7_lays_7 0 (by decide) rfl fl_X7_lays_7 dX7_lays_15 rfl ?_
    refine j_iconst (q := 19) F dX7_lays_18 rfl ?_
    refine j_iald (q := 20) F ar83 (by omega) (by omega) (by decide) dX7_lays_19 rfl ?_
    refine j_aload_n (q := 21) F dX7_lays_20 rfl rfl 0 rfl ?_
    refine j_iload_n (q := 22) F dX7_lays_21 rfl rfl 2 rfl ?_
    refine j_iload_n (q := 23) F dX7_lays_22 rfl rfl 3 rfl ?_
    refine j_callVE (q := 26) F [vI i, vI j] (ct_X7_needs l X hX M hw0 i j (by omega) (by omega) (by omega)) gX7_lays_X7_needs rfl cd_X7_needs ⟨by first | exact Nat.le_of_ble_eq_true rfl | (simp only [rm]; omega) | (simp [rm, vI, vR, Value.category]; omega), by first | exact Nat.le_of_ble_eq_true rfl | (simp only [rm]; omega) | (simp [rm, vI, vR, Value.category]; omega), by first | exact Nat.le_of_ble_eq_true rfl | (simp only [rm]; omega) | (simp [rm, vI, vR, Value.category]; omega), by first | exact Nat.le_of_ble_eq_true rfl | (simp only [rm]; omega) | (simp [rm, vI, vR, Value.category]; omega)⟩ md82 rfl rfl rfl (Nat.le_of_ble_eq_true rfl) dX7_lays_23 rfl ?_
    refine j_isub (q := 27) (z := (M 83 1) - (M 83 1 - exD (M 83) i j)) F dX7_lays_26 rfl rfl ?_
    refine j_istore (q := 29) (lv' := [(0, vR X 82), (1, vI p), (2, vI i), (3, vI j), (4, vI ((M 83 1) - (M 83 1 - exD (M 83) i j)))]) F dX7_lays_27 rfl (by decide) rfl rfl ?_
    exact CUT29 ((M 83 1) - (M 83 1 - exD (M 83) i j)) (by unfold lexF; rw [if_neg (by omega)]; show _ = exD (M 83) i j; omega) (by omega)
  · skip
    refine j_iconst (q := 11) F dX7_lays_10 rfl ?_
    refine j_goto (q := 27) F dX7_lays_11 (by decide) ?_
    refine j_istore (q := 29) (lv' := [(0, vR X 82), (1, vI p), (2, vI i), (3, vI j), (4, vI 0)]) F dX7_lays_27 rfl (by decide) rfl rfl ?_
    exact CUT29 0 (by unfold lexF; rw [if_pos (by omega)]) (by omega)
