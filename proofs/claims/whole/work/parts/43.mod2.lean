theorem fl_X7_records_13 : Cond.fieldLink RX7 13 "WhiteRiversModel" "was" "[I" ∈ wsX7_records := by decide +kernel
theorem fl_X7_records_54 : Cond.fieldLink RX7 54 "WhiteRiversModel" "states" "I" ∈ wsX7_records := by decide +kernel
theorem fl_X7_records_7 : Cond.fieldLink RX7 7 "WhiteRiversModel" "d" "[I" ∈ wsX7_records := by decide +kernel
theorem in_X7_records_7 : ∀ w ∈ u_ws RX7 TX7 19, w ∈ wsX7_records := by decide +kernel
set_option maxRecDepth 100000 in
set_option maxHeartbeats 400000 in
theorem ct_X7_records (l : Launch) (X : Cx) (hX : Inj X) (M : Mem) (hst : 0 ≤ M 82 2 ∧ M 82 2 ≤ 5) : CtV l X yX7_records wsX7_records 0 [vR X 82] M (fun M' => RecX M M') := by
  refine CtV_of (cc := cX7_records) (maxL := 2) hX (by decide +kernel) rfl (Nat.le_of_ble_eq_true rfl) ?_
  intro zp ze zs zm zargs zbelow zmeth zc zQ F hret
  show J zp l ze (rm 0) zs zm zargs zbelow zmeth zc 0 0 zQ zs.heap X 2 M 0 [(0, vR X 82)] []
  refine j_aload_n (q := 1) F dX7_records_0 rfl rfl 0 rfl ?_
  refine j_getI (q := 4) (i := 2) (index := 54) F md82 rfl in_X7_records_7 2 (by decide) rfl rfl fl_X7_records_54 dX7_records_1 rfl ?_
  refine j_iconst (q := 5) F dX7_records_4 rfl ?_
  refine j_icmp_ne (q := 8) (tgt := 48) F dX7_records_5 (by decide) rfl ⟨by omega, by omega⟩ ⟨by decide, by decide⟩ (fun h5_1 => ?_) (fun h5_1 => ?_)
  · skip
    refine j_iconst (q := 49) F dX7_records_48 rfl ?_
    refine j_istore_n (q := 50) (lv' := [(0, vR X 82), (1, vI 0)]) F dX7_records_49 rfl rfl (by decide) rfl rfl ?_
    have LP50 : ∀ (nn : Nat) (k : Int) (Mw : Mem) (s : Int) (E : Mem), (0 ≤ k) → (k ≤ 77) → (0 ≤ s ∧ s ≤ 4) → (Mw 82 2 = s) → ((s = M 82 2 ∧ s < 5 ∧ E 84 = M 84) ∨ (s = 4 ∧ M 82 2 = 5 ∧ ∀ j, 0 ≤ j → j < 308 → E 84 j = M 84 (j + 77))) → (∀ q, q ≠ 82 → q ≠ 84 → Mw q = M q) → (∀ j, j ≠ 2 → Mw 82 j = M 82 j) → (∀ j, 0 ≤ j → j < k → Mw 84 (77 * s + j) = M 83 j) → (∀ j, j < 77 * s → Mw 84 j = E 84 j) → (77 - k).toNat < nn → J zp l ze (rm 0) zs zm zargs zbelow zmeth zc 0 0 zQ zs.heap X 2 Mw 50 [(0, vR X 82), (1, vI k)] [] := by
      intro nn
      induction nn with
      | zero => intro k Mw s E g0 g1 hs4 hs hE hf hf2 hhi hlo hm50; exact absurd hm50 (Nat.not_lt_zero _)
      | succ nn ih50 =>
        intro k Mw s E g0 g1 hs4 hs hE hf hf2 hhi hlo hm50
        refine j_iload_n (q := 51) F dX7_records_50 rfl rfl 1 rfl ?_
        refine j_bipush (q := 53) F dX7_records_51 rfl (by decide) ?_
        refine j_icmp_ge (q := 56) (tgt := 82) F dX7_records_53 (by decide) rfl ⟨by omega, by omega⟩ ⟨by decide, by decide⟩ (fun h53_2 => ?_) (fun h53_2 => ?_)
        · skip
          refine j_aload_n (q := 83) F dX7_records_82 rfl rfl 0 rfl ?_
          refine j_dup (q := 84) F dX7_records_83 rfl rfl ?_
          refine j_getI (q := 87) (i := 2) (index := 54) F md82 rfl in_X7_records_7 2 (by decide) rfl rfl fl_X7_records_54 dX7_records_84 rfl ?_
          refine j_iconst (q := 88) F dX7_records_87 rfl ?_
          refine j_iadd (q := 89) (z := (Mw 82 2) + 1) F dX7_records_88 rfl rfl ?_
          refine j_putI (q := 92) (i := 2) (index := 54) F md82 rfl in_X7_records_7 2 (by decide) tyX7_ok nmX7 rfl rfl rfl rfl fl_X7_records_54 dX7_records_89 rfl ?_
          refine hret _ _ _ dX7_records_92 ?_
          · refine ⟨⟨fun z => ?_, fun z => ?_⟩, fun q a b => by rw [mset_nef a]; exact hf q a b, fun j a => by rw [mset_ne2 a]; exact hf2 j a⟩
            · rcases hE with ⟨e1, e2, e3⟩ | ⟨-, z2, -⟩
              · refine ⟨by rw [mset_at]; omega, fun i a b j c d => ?_, fun j c d => ?_⟩
                · show M 84 (77 * i + j) = mset Mw 82 2 (Mw 82 2 + 1) 84 (77 * i + j)
                  rw [mset_nef (by decide), hlo _ (by omega), e3]
                · show M 83 j = mset Mw 82 2 (Mw 82 2 + 1) 84 (77 * M 82 2 + j)
                  rw [mset_nef (by decide), ← e1]
                  exact (hhi j c (by omega)).symm
              · omega
            · rcases hE with ⟨e1, e2, e3⟩ | ⟨e1, e2, e3⟩
              · omega
              · refine ⟨by rw [mset_at]; omega, fun i a b j c d => ?_, fun j c d => ?_⟩
                · show M 84 (77 * (i + 1) + j) = mset Mw 82 2 (Mw 82 2 + 1) 84 (77 * i + j)
                  rw [mset_nef (by decide), hlo _ (by omega), e3 _ (by omega) (by omega), show 77 * (i + 1) + j = 77 * i + j + 77 by omega]
                · show M 83 j = mset Mw 82 2 (Mw 82 2 + 1) 84 (77 * 4 + j)
                  rw [mset_nef (by decide), ← e1]
                  exact (hhi j c (by omega)).symm
        · skip
          refine j_aload_n (q := 57) F dX7_records_56 rfl rfl 0 rfl ?_
          refine j_getR (q := 60) (z := 84) (index := 13) F md82 rfl in_X7_records_7 1 (by decide) rfl fl_X7_records_13 dX7_records_57 rfl ?_
          refine j_bipush (q := 62) F dX7_records_60 rfl (by decide) ?_
          refine j_aload_n (q := 63) F dX7_records_62 rfl rfl 0 rfl ?_
          refine j_getI (q := 66) (i := 2) (index := 54) F md82 rfl in_X7_records_7 2 (by decide) rfl rfl fl_X7_records_54 dX7_records_63 rfl ?_
          refine j_imul (q := 67) (z := 77 * (Mw 82 2)) F dX7_records_66 rfl rfl ?_
          refine j_iload_n (q := 68) F dX7_records_67 rfl rfl 1 rfl ?_
          refine j_iadd (q := 69) (z := (77 * (Mw 82 2)) + k) F dX7_records_68 rfl rfl ?_
          refine j_aload_n (q := 70) F dX7_records_69 rfl rfl 0 rfl ?_
          refine j_getR (q := 73) (z := 83) (index := 7) F md82 rfl in_X7_records_7 0 (by decide) rfl fl_X7_records_7 dX7_records_70 rfl ?_
          refine j_iload_n (q := 74) F dX7_records_73 rfl rfl 1 rfl ?_
          refine j_iald (q := 75) F ar83 (by omega) (by omega) (by decide) dX7_records_74 rfl ?_
          refine j_iast (q := 76) F ar84 (by omega) (by omega) (by decide) dX7_records_75 rfl ?_
          refine j_iinc (q := 79) (lv' := [(0, vR X 82), (1, vI (k + 1))]) F dX7_records_76 rfl 1 rfl (by decide) rfl rfl ?_
          refine j_goto (q := 50) F dX7_records_79 (by decide) ?_
          refine ih50 (k + 1) (mset Mw 84 ((77 * (Mw 82 2)) + k) (Mw 83 k)) s E (by omega) (by omega) (by omega) (by rw [mset_nef (by decide)]; exact hs) (by omega) (by exact fun q a b => by rw [mset_nef b]; exact hf q a b) (by exact fun j a => by rw [mset_nef (by decide)]; exact hf2 j a) ?_ (by intro j q0; rw [mset_if, if_neg (by omega)]; exact hlo j q0) (by omega)
          · intro j q0 q1; rw [mset_if]
            by_cases hj : j = k
            · rw [if_pos (by omega), hj, hf 83 (by decide) (by decide)]
            · rw [if_neg (by omega)]; exact hhi j q0 (by omega)
    exact LP50 _ 0 M (M 82 2) M (by omega) (by omega) (by omega) (by rfl) (by exact Or.inl ⟨rfl, by omega, rfl⟩) (by exact fun _ _ _ => rfl) (by exact fun _ _ => rfl) (by intro j q0 q1; omega) (by exact fun _ _ => rfl) (by exact Nat.lt_succ_self _)
  · skip
    refine j_iconst (q := 9) F dX7_records_8 rfl ?_
    refine j_istore_n (q := 10) (lv' := [(0, vR X 82), (1, vI 0)]) F dX7_records_9 rfl rfl (by decide) rfl rfl ?_
    have LP10 : ∀ (nn : Nat) (k : Int) (Mq : Mem), (0 ≤ k) → (k ≤ 308) → (∀ q, q ≠ 84 → Mq q = M q) → (∀ j, 0 ≤ j → j < k → Mq 84 j = M 84 (j + 77)) → (∀ j, k ≤ j → Mq 84 j = M 84 j) → (308 - k).toNat < nn → J zp l ze (rm 0) zs zm zargs zbelow zmeth zc 0 0 zQ zs.heap X 2 Mq 10 [(0, vR X 82), (1, vI k)] [] := by
      intro nn
      induction nn with
      | zero => intro k Mq g0 g1 hq ha hb hm10; exact absurd hm10 (Nat.not_lt_zero _)
      | succ nn ih10 =>
        intro k Mq g0 g1 hq ha hb hm10
        refine j_iload_n (q := 11) F dX7_records_10 rfl rfl 1 rfl ?_
        refine j_sipush (q := 14) F dX7_records_11 rfl (by decide) ?_
        refine j_icmp_ge (q := 17) (tgt := 38) F dX7_records_14 (by decide) rfl ⟨by omega, by omega⟩ ⟨by decide, by decide⟩ (fun h14_3 => ?_) (fun h14_3 => ?_)
        · skip
          refine j_aload_n (q := 39) F dX7_records_38 rfl rfl 0 rfl ?_
          refine j_dup (q := 40) F dX7_records_39 rfl rfl ?_
          refine j_getI (q := 43) (i := 2) (index := 54) F md82 rfl in_X7_records_7 2 (by decide) rfl rfl fl_X7_records_54 dX7_records_40 rfl ?_
          refine j_iconst (q := 44) F dX7_records_43 rfl ?_
          refine j_isub (q := 45) (z := (Mq 82 2) - 1) F dX7_records_44 rfl rfl ?_
          refine j_putI (q := 48) (i := 2) (index := 54) F md82 rfl in_X7_records_7 2 (by decide) tyX7_ok nmX7 rfl rfl rfl rfl fl_X7_records_54 dX7_records_45 rfl ?_
          refine j_iconst (q := 49) F dX7_records_48 rfl ?_
          refine j_istore_n (q := 50) (lv' := [(0, vR X 82), (1, vI 0)]) F dX7_records_49 rfl rfl (by decide) rfl rfl ?_
          have LP50 : ∀ (nn : Nat) (k : Int) (Mw : Mem) (s : Int) (E : Mem), (0 ≤ k) → (k ≤ 77) → (0 ≤ s ∧ s ≤ 4) → (Mw 82 2 = s) → ((s = M 82 2 ∧ s < 5 ∧ E 84 = M 84) ∨ (s = 4 ∧ M 82 2 = 5 ∧ ∀ j, 0 ≤ j → j < 308 → E 84 j = M 84 (j + 77))) → (∀ q, q ≠ 82 → q ≠ 84 → Mw q = M q) → (∀ j, j ≠ 2 → Mw 82 j = M 82 j) → (∀ j, 0 ≤ j → j < k → Mw 84 (77 * s + j) = M 83 j) → (∀ j, j < 77 * s → Mw 84 j = E 84 j) → (77 - k).toNat < nn → J zp l ze (rm 0) zs zm zargs zbelow zmeth zc 0 0 zQ zs.heap X 2 Mw 50 [(0, vR X 82), (1, vI k)] [] := by
            intro nn
            induction nn with
            | zero => intro k Mw s E g0 g1 hs4 hs hE hf hf2 hhi hlo hm50; exact absurd hm50 (Nat.not_lt_zero _)
            | succ nn ih50 =>
              intro k Mw s E g0 g1 hs4 hs hE hf hf2 hhi hlo hm50
              refine j_iload_n (q := 51) F dX7_records_50 rfl rfl 1 rfl ?_
              refine j_bipush (q := 53) F dX7_records_51 rfl (by decide) ?_
              refine j_icmp_ge (q := 56) (tgt := 82) F dX7_records_53 (by decide) rfl ⟨by omega, by omega⟩ ⟨by decide, by decide⟩ (fun h53_4 => ?_) (fun h53_4 => ?_)
              · skip
                refine j_aload_n (q := 83) F dX7_records_82 rfl rfl 0 rfl ?_
                refine j_dup (q := 84) F dX7_records_83 rfl rfl ?_
                refine j_getI (q := 87) (i := 2) (index := 54) F md82 rfl in_X7_records_7 2 (by decide) rfl rfl fl_X7_records_54 dX7_records_84 rfl ?_
                refine j_iconst (q := 88) F dX7_records_87 rfl ?_
                refine j_iadd (q := 89) (z := (Mw 82 2) + 1) F dX7_records_88 rfl rfl ?_
                refine j_putI (q := 92) (i := 2) (index := 54) F md82 rfl in_X7_records_7 2 (by decide) tyX7_ok nmX7 rfl rfl rfl rfl fl_X7_records_54 dX7_records_89 rfl ?_
                refine hret _ _ _ dX7_records_92 ?_
                · refine ⟨⟨fun z => ?_, fun z => ?_⟩, fun q a b => by rw [mset_nef a]; exact hf q a b, fun j a => by rw [mset_ne2 a]; exact hf2 j a⟩
                  · rcases hE with ⟨e1, e2, e3⟩ | ⟨-, z2, -⟩
                    · refine ⟨by rw [mset_at]; omega, fun i a b j c d => ?_, fun j c d => ?_⟩
                      · show M 84 (77 * i + j) = mset Mw 82 2 (Mw 82 2 + 1) 84 (77 * i + j)
                        rw [mset_nef (by decide), hlo _ (by omega), e3]
                      · show M 83 j = mset Mw 82 2 (Mw 82 2 + 1) 84 (77 * M 82 2 + j)
                        rw [mset_nef (by decide), ← e1]
                        exact (hhi j c (by omega)).symm
                    · omega
                  · rcases hE with ⟨e1, e2, e3⟩ | ⟨e1, e2, e3⟩
                    · omega
                    · refine ⟨by rw [mset_at]; omega, fun i a b j c d => ?_, fun j c d => ?_⟩
                      · show M 84 (77 * (i + 1) + j) = mset Mw 82 2 (Mw 82 2 + 1) 84 (77 * i + j)
                        rw [mset_nef (by decide), hlo _ (by omega), e3 _ (by omega) (by omega), show 77 * (i + 1) + j = 77 * i + j + 77 by omega]
                      · show M 83 j = mset Mw 82 2 (Mw 82 2 + 1) 84 (77 * 4 + j)
                        rw [mset_nef (by decide), ← e1]
                        exact (hhi j c (by omega)).symm
              · skip
                refine j_aload_n (q := 57) F dX7_records_56 rfl rfl 0 rfl ?_
                refine j_getR (q := 60) (z := 84) (index := 13) F md82 rfl in_X7_records_7 1 (by decide) rfl fl_X7_records_13 dX7_records_57 rfl ?_
                refine j_bipush (q := 62) F dX7_records_60 rfl (by decide) ?_
                refine j_aload_n (q := 63) F dX7_records_62 rfl rfl 0 rfl ?_
                refine j_getI (q := 66) (i := 2) (index := 54) F md82 rfl in_X7_records_7 2 (by decide) rfl rfl fl_X7_records_54 dX7_records_63 rfl ?_
                refine j_imul (q := 67) (z := 77 * (Mw 82 2)) F dX7_records_66 rfl rfl ?_
                refine j_iload_n (q := 68) F dX7_records_67 rfl rfl 1 rfl ?_
                refine j_iadd (q := 69) (z := (77 * (Mw 82 2)) + k) F dX7_records_68 rfl rfl ?_
                refine j_aload_n (q := 70) F dX7_records_69 rfl rfl 0 rfl ?_
                refine j_getR (q := 73) (z := 83) (index := 7) F md82 rfl in_X7_records_7 0 (by decide) rfl fl_X7_records_7 dX7_records_70 rfl ?_
                refine j_iload_n (q := 74) F dX7_records_73 rfl rfl 1 rfl ?_
                refine j_iald (q := 75) F ar83 (by omega) (by omega) (by decide) dX7_records_74 rfl ?_
                refine j_iast (q := 76) F ar84 (by omega) (by omega) (by decide) dX7_records_75 rfl ?_
                refine j_iinc (q := 79) (lv' := [(0, vR X 82), (1, vI (k + 1))]) F dX7_records_76 rfl 1 rfl (by decide) rfl rfl ?_
                refine j_goto (q := 50) F dX7_records_79 (by decide) ?_
                refine ih50 (k + 1) (mset Mw 84 ((77 * (Mw 82 2)) + k) (Mw 83 k)) s E (by omega) (by omega) (by omega) (by rw [mset_nef (by decide)]; exact hs) (by omega) (by exact fun q a b => by rw [mset_nef b]; exact hf q a b) (by exact fun j a => by rw [mset_nef (by decide)]; exact hf2 j a) ?_ (by intro j q0; rw [mset_if, if_neg (by omega)]; exact hlo j q0) (by omega)
                · intro j q0 q1; rw [mset_if]
                  by_cases hj : j = k
                  · rw [if_pos (by omega), hj, hf 83 (by decide) (by decide)]
                  · rw [if_neg (by omega)]; exact hhi j q0 (by omega)
          exact LP50 _ 0 (mset Mq 82 2 ((Mq 82 2) - 1)) 4 (mset Mq 82 2 ((Mq 82 2) - 1)) (by omega) (by omega) (by omega) (by rw [mset_at, hq 82 (by decide)]; omega) (by exact Or.inr ⟨rfl, by omega, fun j a b => by rw [mset_nef (by decide)]; exact ha j a (by omega)⟩) (by exact fun q a b => by rw [mset_nef a]; exact hq q b) (by exact fun j a => by rw [mset_ne2 a, hq 82 (by decide)]) (by intro j q0 q1; omega) (by exact fun _ _ => rfl) (by exact Nat.lt_succ_self _)
        · skip
          refine j_aload_n (q := 18) F dX7_records_17 rfl rfl 0 rfl ?_
          refine j_getR (q := 21) (z := 84) (index := 13) F md82 rfl in_X7_records_7 1 (by decide) rfl fl_X7_records_13 dX7_records_18 rfl ?_
          refine j_iload_n (q := 22) F dX7_records_21 rfl rfl 1 rfl ?_
          refine j_aload_n (q := 23) F dX7_records_22 rfl rfl 0 rfl ?_
          refine j_getR (q := 26) (z := 84) (index := 13) F md82 rfl in_X7_records_7 1 (by decide) rfl fl_X7_records_13 dX7_records_23 rfl ?_
          refine j_iload_n (q := 27) F dX7_records_26 rfl rfl 1 rfl ?_
          refine j_bipush (q := 29) F dX7_records_27 rfl (by decide) ?_
          refine j_iadd (q := 30) (z := k + 77) F dX7_records_29 rfl rfl ?_
          refine j_iald (q := 31) F ar84 (by omega) (by omega) (by decide) dX7_records_30 rfl ?_
          refine j_iast (q := 32) F ar84 (by omega) (by omega) (by decide) dX7_records_31 rfl ?_
          refine j_iinc (q := 35) (lv' := [(0, vR X 82), (1, vI (k + 1))]) F dX7_records_32 rfl 1 rfl (by decide) rfl rfl ?_
          refine j_goto (q := 10) F dX7_records_35 (by decide) ?_
          refine ih10 (k + 1) (mset Mq 84 k (Mq 84 (k + 77))) (by omega) (by omega) (by exact fun q a => by rw [mset_nef a]; exact hq q a) ?_ (by intro j q0; rw [mset_if, if_neg (by omega)]; exact hb j (by omega)) (by omega)
          · intro j q0 q1; rw [mset_if]
            by_cases hj : j = k
            · rw [if_pos hj, hj]; exact hb _ (by omega)
            · rw [if_neg hj]; exact ha j q0 (by omega)
    exact LP10 _ 0 M (by omega) (by omega) (by exact fun _ _ => rfl) (by intro j q0 q1; omega) (by exact fun _ _ => rfl) (by exact Nat.lt_succ_self _)
theorem cd_X7_mostFrom : yX7_mostFrom.cls = RX7 ∧ yX7_mostFrom.cls ≠ "java/lang/invoke/MethodHandle" ∧ yX7_mostFrom.cls ≠ "java/lang/invoke/VarHandle" ∧ (parseMethodDescriptor yX7_mostFrom.desc).map (fun d => d.parameters.length) = some 1 := by decide +kernel
theorem fl_X7_fills_7 : Cond.fieldLink RX7 7 "WhiteRiversModel" "d" "[I" ∈ wsX7_fills := by decide +kernel
theorem in_X7_fills_7 : ∀ w ∈ u_ws RX7 TX7 19, w ∈ wsX7_fills := by decide +kernel
set_option maxRecDepth 100000 in
set_option maxHeartbeats 1000000 in
theorem ct_X7_fills (l : Launch) (X : Cx) (hX : Inj X) (M : Mem) (hw : WOK (M 83)) : CtV l X yX7_fills wsX7_fills 3 [vR X 82] M (fun M' => (∀ q, q ≠ 83 → M' q = M q) ∧ FillP (M 83) (M' 83)) := by
  refine CtV_of (cc := cX7_fills) (maxL := 2) hX (by decide +kernel) rfl (Nat.le_of_ble_eq_true rfl) ?_
  intro zp ze zs zm zargs zbelow zmeth zc zQ F hret
  show J zp l ze (rm 3) zs zm zargs zbelow zmeth zc 0 0 zQ zs.heap X 2 M 0 [(0, vR X 82)] []
  have hnn := hw.1
  have hww := hw.2.1
  have hlen := hw.2.2
  refine j_iconst (q := 1) F dX7_fills_0 rfl ?_
  refine j_istore_n (q := 2) (lv' := [(0, vR X 82), (1, vI 0)]) F dX7_fills_1 rfl rfl (by decide) rfl rfl ?_
  refine j_aload_n (q := 3) F dX7_fills_2 rfl rfl 0 rfl ?_
  refine j_getR (q := 6) (z := 83) (index := 7) F md82 rfl in_X7_fills_7 0 (by decide) rfl fl_X7_fills_7 dX7_fills_3 rfl ?_
  refine j_iconst (q := 7) F dX7_fills_6 rfl ?_
  refine j_iconst (q := 8) F dX7_fills_7 rfl ?_
  refine j_iast (q := 9) F ar83 (by omega) (by omega) (by decide) dX7_fills_8 rfl ?_
  have LP9 : ∀ (nn : Nat) (f : Int) (Mq : Mem), (0 ≤ f) → (f ≤ M 83 0) → (∀ q, q ≠ 83 → Mq q = M q) → (FlI (M 83) (Mq 83) f) → (M 83 0 - f).toNat < nn → J zp l ze (rm 3) zs zm zargs zbelow zmeth zc 0 0 zQ zs.heap X 2 Mq 9 [(0, vR X 82), (1, vI f)] [] := by
    intro nn
    induction nn with
    | zero => intro f Mq g0 g1 hq hF hm9; exact absurd hm9 (Nat.not_lt_zero _)
    | succ nn ih9 =>
      intro f Mq g0 g1 hq hF hm9
      refine j_iload_n (q := 10) F dX7_fills_9 rfl rfl 1 rfl ?_
      refine j_aload_n (q := 11) F dX7_fills_10 rfl rfl 0 rfl ?_
      refine j_getR (q := 14) (z := 83) (index := 7) F md82 rfl in_X7_fills_7 0 (by decide) rfl fl_X7_fills_7 dX7_fills_11 rfl ?_
      refine j_iconst (q := 15) F dX7_fills_14 rfl ?_
      refine j_iald (q := 16) F ar83 (by omega) (by omega) (by decide) dX7_fills_15 rfl ?_
      rw [show Mq 83 0 = M 83 0 from by exact hF.1]
      refine j_icmp_ge (q := 19) (tgt := 70) F dX7_fills_16 (by decide) rfl ⟨by omega, by omega⟩ ⟨by omega, by omega⟩ (fun h16_1 => ?_) (fun h16_1 => ?_)
      · skip
        exact hret _ _ _ dX7_fills_70 (by exact ⟨hq, hF.done hw (by omega)⟩)
      · skip
        have hF3 : 0 ≤ Mq 83 3 ∧ Mq 83 3 ≤ f := ⟨hF.2.2.2.2.1, hF.2.2.2.2.2.1⟩
        refine j_aload_n (q := 20) F dX7_fills_19 rfl rfl 0 rfl ?_
        refine j_getR (q := 23) (z := 83) (index := 7) F md82 rfl in_X7_fills_7 0 (by decide) rfl fl_X7_fills_7 dX7_fills_20 rfl ?_
        refine j_bipush (q := 25) F dX7_fills_23 rfl (by decide) ?_
        refine j_aload_n (q := 26) F dX7_fills_25 rfl rfl 0 rfl ?_
        refine j_getR (q := 29) (z := 83) (index := 7) F md82 rfl in_X7_fills_7 0 (by decide) rfl fl_X7_fills_7 dX7_fills_26 rfl ?_
        refine j_iconst (q := 30) F dX7_fills_29 rfl ?_
        refine j_iald (q := 31) F ar83 (by omega) (by omega) (by decide) dX7_fills_30 rfl ?_
        refine j_iadd (q := 32) (z := 28 + (Mq 83 3)) F dX7_fills_31 rfl rfl ?_
        refine j_iload_n (q := 33) F dX7_fills_32 rfl rfl 1 rfl ?_
        refine j_iast (q := 34) F ar83 (by omega) (by omega) (by decide) dX7_fills_33 rfl ?_
        refine j_aload_n (q := 35) F dX7_fills_34 rfl rfl 0 rfl ?_
        refine j_getR (q := 38) (z := 83) (index := 7) F md82 rfl in_X7_fills_7 0 (by decide) rfl fl_X7_fills_7 dX7_fills_35 rfl ?_
        refine j_bipush (q := 40) F dX7_fills_38 rfl (by decide) ?_
        refine j_aload_n (q := 41) F dX7_fills_40 rfl rfl 0 rfl ?_
        refine j_getR (q := 44) (z := 83) (index := 7) F md82 rfl in_X7_fills_7 0 (by decide) rfl fl_X7_fills_7 dX7_fills_41 rfl ?_
        refine j_iconst (q := 45) F dX7_fills_44 rfl ?_
        refine j_iald (q := 46) F ar83 (by omega) (by omega) (by decide) dX7_fills_45 rfl ?_
        rw [show (mset Mq 83 (28 + (Mq 83 3)) f) 83 3 = Mq 83 3 from by rw [mset_ne2 (by omega)]]
        refine j_iadd (q := 47) (z := 53 + (Mq 83 3)) F dX7_fills_46 rfl rfl ?_
        refine j_iconst (q := 48) F dX7_fills_47 rfl ?_
        refine j_iast (q := 49) F ar83 (by omega) (by omega) (by decide) dX7_fills_48 rfl ?_
        refine j_aload_n (q := 50) F dX7_fills_49 rfl rfl 0 rfl ?_
        refine j_getR (q := 53) (z := 83) (index := 7) F md82 rfl in_X7_fills_7 0 (by decide) rfl fl_X7_fills_7 dX7_fills_50 rfl ?_
        refine j_iconst (q := 54) F dX7_fills_53 rfl ?_
        refine j_dup2 (q := 55) F dX7_fills_54 rfl rfl rfl ?_
        refine j_iald (q := 56) F ar83 (by omega) (by omega) (by decide) dX7_fills_55 rfl ?_
        rw [show (mset (mset Mq 83 (28 + (Mq 83 3)) f) 83 (53 + (Mq 83 3)) 0) 83 3 = Mq 83 3 from by rw [mset_ne2 (by omega), mset_ne2 (by omega)]]
        refine j_iconst (q := 57) F dX7_fills_56 rfl ?_
        refine j_iadd (q := 58) (z := (Mq 83 3) + 1) F dX7_fills_57 rfl rfl ?_
        refine j_iast (q := 59) F ar83 (by omega) (by omega) (by decide) dX7_fills_58 rfl ?_
        refine j_iload_n (q := 60) F dX7_fills_59 rfl rfl 1 rfl ?_
        refine j_aload_n (q := 61) F dX7_fills_60 rfl rfl 0 rfl ?_
        refine j_iload_n (q := 62) F dX7_fills_61 rfl rfl 1 rfl ?_
        refine j_callVP (q := 65) F [vI f] (ct_X7_mostFrom l X hX (mset (mset (mset Mq 83 (28 + (Mq 83 3)) f) 83 (53 + (Mq 83 3)) 0) 83 3 ((Mq 83 3) + 1)) (by rw [mset_d, mset_d, mset_d]; exact (hF.wok2 hw (by omega))) f (by omega) (by rw [mset_d, mset_d, mset_d, dset_ne (by decide), dset_ne (by omega), dset_ne (by omega), hF.1]; omega)) gX7_fills_X7_mostFrom rfl cd_X7_mostFrom ⟨by first | exact Nat.le_of_ble_eq_true rfl | (simp only [rm]; omega) | (simp [rm, vI, vR, Value.category]; omega), by first | exact Nat.le_of_ble_eq_true rfl | (simp only [rm]; omega) | (simp [rm, vI, vR, Value.category]; omega), by first | exact Nat.le_of_ble_eq_true rfl | (simp only [rm]; omega) | (simp [rm, vI, vR, Value.category]; omega), by first | exact Nat.le_of_ble_eq_true rfl | (simp only [rm]; omega) | (simp [rm, vI, vR, Value.category]; omega)⟩ md82 rfl rfl rfl (Nat.le_of_ble_eq_true rfl) dX7_fills_62 rfl (fun x hx => ?_)
        have hst := hF.step hw (by omega) (x := x) (by rw [mset_d, mset_d, mset_d] at hx; exact hx)
        refine j_iadd (q := 66) (z := f + x) F dX7_fills_65 rfl rfl ?_
        refine j_istore_n (q := 67) (lv' := [(0, vR X 82), (1, vI (f + x))]) F dX7_fills_66 rfl rfl (by decide) rfl rfl ?_
        refine j_goto (q := 9) F dX7_fills_67 (by decide) ?_
        exact ih9 (f + x) (mset (mset (mset Mq 83 (28 + (Mq 83 3)) f) 83 (53 + (Mq 83 3)) 0) 83 3 ((Mq 83 3) + 1)) (by omega) (by exact hst.1.2.2.2.2.2.2.1) (by exact fun q a => by rw [mset_nef a, mset_nef a, mset_nef a]; exact hq q a) (by rw [mset_d, mset_d, mset_d]; exact hst.1) (by omega)
  exact LP9 _ 0 (mset M 83 3 0) (by omega) (by omega) (by exact fun q a => mset_nef a) (by rw [mset_d]; exact FlI.start hw) (by exact Nat.lt_succ_self _)
