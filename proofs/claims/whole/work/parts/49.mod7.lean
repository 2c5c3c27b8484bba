theorem fl_X7_undo_13 : Cond.fieldLink RX7 13 "WhiteRiversModel" "was" "[I" ∈ wsX7_undo := by decide +kernel
theorem fl_X7_undo_54 : Cond.fieldLink RX7 54 "WhiteRiversModel" "states" "I" ∈ wsX7_undo := by decide +kernel
theorem fl_X7_undo_7 : Cond.fieldLink RX7 7 "WhiteRiversModel" "d" "[I" ∈ wsX7_undo := by decide +kernel
theorem in_X7_undo_7 : ∀ w ∈ u_ws RX7 TX7 19, w ∈ wsX7_undo := by decide +kernel
set_option maxRecDepth 100000 in
set_option maxHeartbeats 400000 in
theorem ct_X7_undo (l : Launch) (X : Cx) (hX : Inj X) (M : Mem) (hst : 0 ≤ M 82 2 ∧ M 82 2 ≤ 5) : CtI l X yX7_undo wsX7_undo 0 [vR X 82] M (fun r M' => MPO M (Oundo M) r M') := by
  refine CtI_of (cc := cX7_undo) (maxL := 2) hX (by decide +kernel) rfl (Nat.le_of_ble_eq_true rfl) ?_
  intro zp ze zs zm zargs zbelow zmeth zc zQ F hret
  show J zp l ze (rm 0) zs zm zargs zbelow zmeth zc 0 0 zQ zs.heap X 2 M 0 [(0, vR X 82)] []
  refine j_aload_n (q := 1) F dX7_undo_0 rfl rfl 0 rfl ?_
  refine j_getI (q := 4) (i := 2) (index := 54) F md82 rfl in_X7_undo_7 2 (by decide) rfl rfl fl_X7_undo_54 dX7_undo_1 rfl ?_
  refine j_if_ne (q := 7) (tgt := 10) F dX7_undo_4 (by decide) rfl ⟨by omega, by omega⟩ (fun h4_1 => ?_) (fun h4_1 => ?_)
  · skip
    refine j_aload_n (q := 11) F dX7_undo_10 rfl rfl 0 rfl ?_
    refine j_dup (q := 12) F dX7_undo_11 rfl rfl ?_
    refine j_getI (q := 15) (i := 2) (index := 54) F md82 rfl in_X7_undo_7 2 (by decide) rfl rfl fl_X7_undo_54 dX7_undo_12 rfl ?_
    refine j_iconst (q := 16) F dX7_undo_15 rfl ?_
    refine j_isub (q := 17) (z := (M 82 2) - 1) F dX7_undo_16 rfl rfl ?_
    refine j_putI (q := 20) (i := 2) (index := 54) F md82 rfl in_X7_undo_7 2 (by decide) tyX7_ok nmX7 rfl rfl rfl rfl fl_X7_undo_54 dX7_undo_17 rfl ?_
    refine j_iconst (q := 21) F dX7_undo_20 rfl ?_
    refine j_istore_n (q := 22) (lv' := [(0, vR X 82), (1, vI 0)]) F dX7_undo_21 rfl rfl (by decide) rfl rfl ?_
    have LP22 : ∀ (nn : Nat) (k : Int) (Mq : Mem), (0 ≤ k) → (k ≤ 77) → (∀ q, q ≠ 82 → q ≠ 83 → Mq q = M q) → (Mq 82 2 = M 82 2 - 1) → (∀ j, j ≠ 2 → Mq 82 j = M 82 j) → (∀ j, 0 ≤ j → j < k → Mq 83 j = hs (M 84) (M 82 2 - 1) j) → (77 - k).toNat < nn → J zp l ze (rm 0) zs zm zargs zbelow zmeth zc 0 0 zQ zs.heap X 2 Mq 22 [(0, vR X 82), (1, vI k)] [] := by
      intro nn
      induction nn with
      | zero => intro k Mq g0 g1 hq h2 h3 ha hm22; exact absurd hm22 (Nat.not_lt_zero _)
      | succ nn ih22 =>
        intro k Mq g0 g1 hq h2 h3 ha hm22
        refine j_iload_n (q := 23) F dX7_undo_22 rfl rfl 1 rfl ?_
        refine j_bipush (q := 25) F dX7_undo_23 rfl (by decide) ?_
        refine j_icmp_ge (q := 28) (tgt := 54) F dX7_undo_25 (by decide) rfl ⟨by omega, by omega⟩ ⟨by decide, by decide⟩ (fun h25_2 => ?_) (fun h25_2 => ?_)
        · skip
          refine j_aload_n (q := 55) F dX7_undo_54 rfl rfl 0 rfl ?_
          refine j_getI (q := 58) (i := 2) (index := 54) F md82 rfl in_X7_undo_7 2 (by decide) rfl rfl fl_X7_undo_54 dX7_undo_55 rfl ?_
          refine hret _ _ _ _ dX7_undo_58 ?_
          · refine mpo_of (fun q a b c => hq q a b) (Or.inr ⟨by omega, ⟨h2, hq 84 (by decide) (by decide), fun j q0 q1 => ?_⟩, ⟨hq 85 (by decide) (by decide), h3 4 (by decide)⟩, h2⟩)
            exact (ha j q0 (by omega)).symm
        · skip
          refine j_aload_n (q := 29) F dX7_undo_28 rfl rfl 0 rfl ?_
          refine j_getR (q := 32) (z := 83) (index := 7) F md82 rfl in_X7_undo_7 0 (by decide) rfl fl_X7_undo_7 dX7_undo_29 rfl ?_
          refine j_iload_n (q := 33) F dX7_undo_32 rfl rfl 1 rfl ?_
          refine j_aload_n (q := 34) F dX7_undo_33 rfl rfl 0 rfl ?_
          refine j_getR (q := 37) (z := 84) (index := 13) F md82 rfl in_X7_undo_7 1 (by decide) rfl fl_X7_undo_13 dX7_undo_34 rfl ?_
          refine j_bipush (q := 39) F dX7_undo_37 rfl (by decide) ?_
          refine j_aload_n (q := 40) F dX7_undo_39 rfl rfl 0 rfl ?_
          refine j_getI (q := 43) (i := 2) (index := 54) F md82 rfl in_X7_undo_7 2 (by decide) rfl rfl fl_X7_undo_54 dX7_undo_40 rfl ?_
          rw [show Mq 82 2 = M 82 2 - 1 from by exact h2]
          refine j_imul (q := 44) (z := 77 * (M 82 2 - 1)) F dX7_undo_43 rfl rfl ?_
          refine j_iload_n (q := 45) F dX7_undo_44 rfl rfl 1 rfl ?_
          refine j_iadd (q := 46) (z := (77 * (M 82 2 - 1)) + k) F dX7_undo_45 rfl rfl ?_
          refine j_iald (q := 47) F ar84 (by omega) (by omega) (by decide) dX7_undo_46 rfl ?_
          refine j_iast (q := 48) F ar83 (by omega) (by omega) (by decide) dX7_undo_47 rfl ?_
          refine j_iinc (q := 51) (lv' := [(0, vR X 82), (1, vI (k + 1))]) F dX7_undo_48 rfl 1 rfl (by decide) rfl rfl ?_
          refine j_goto (q := 22) F dX7_undo_51 (by decide) ?_
          refine ih22 (k + 1) (mset Mq 83 k (Mq 84 ((77 * (M 82 2 - 1)) + k))) (by omega) (by omega) (by exact fun q a b => by rw [mset_nef b]; exact hq q a b) (by rw [mset_nef (by decide)]; exact h2) (by exact fun j a => by rw [mset_nef (by decide)]; exact h3 j a) ?_ (by omega)
          · intro j q0 q1
            by_cases hj : j = k
            · rw [hj, mset_at, hq 84 (by decide) (by decide)]; rfl
            · rw [mset_ne2 hj]; exact ha j q0 (by omega)
    exact LP22 _ 0 (mset M 82 2 ((M 82 2) - 1)) (by omega) (by omega) (by exact fun q a b => mset_nef a) (by rw [mset_at]) (by exact fun j a => mset_ne2 a) (by intro j q0 q1; omega) (by exact Nat.lt_succ_self _)
  · skip
    refine j_bipush (q := 9) F dX7_undo_7 rfl (by decide) ?_
    exact hret _ _ _ _ dX7_undo_9 (by exact mpo_of (fun _ _ _ _ => rfl) (Or.inl ⟨by omega, rfl, SM.rf M⟩))
theorem fl_X7_type_118 : Cond.fieldLink RX7 118 "WhiteRiversModel" "typed" "I" ∈ wsX7_type := by decide +kernel
theorem fl_X7_type_16 : Cond.fieldLink RX7 16 "WhiteRiversModel" "text" "[C" ∈ wsX7_type := by decide +kernel
theorem in_X7_type_7 : ∀ w ∈ u_ws RX7 TX7 19, w ∈ wsX7_type := by decide +kernel
set_option maxRecDepth 100000 in
set_option maxHeartbeats 400000 in
theorem ct_X7_type (l : Launch) (X : Cx) (hX : Inj X) (M : Mem) (hty : 0 ≤ M 82 4 ∧ M 82 4 ≤ 100) (htx : ∀ j, 0 ≤ j → j < 100 → 0 ≤ M 85 j ∧ M 85 j ≤ 126) (v : Int) (hv0 : inR v) : CtI l X yX7_type wsX7_type 1 [vR X 82, vI v] M (fun r M' => MPO M (Otype M v) r M') := by
  refine CtI_of (cc := cX7_type) (maxL := 2) hX (by decide +kernel) rfl (Nat.le_of_ble_eq_true rfl) ?_
  intro zp ze zs zm zargs zbelow zmeth zc zQ F hret
  show J zp l ze (rm 1) zs zm zargs zbelow zmeth zc 0 0 zQ zs.heap X 2 M 0 [(0, vR X 82), (1, vI v)] []
  obtain ⟨hv1, hv2⟩ := hv0
  refine j_iload_n (q := 1) F dX7_type_0 rfl rfl 1 rfl ?_
  refine j_bipush (q := 3) F dX7_type_1 rfl (by decide) ?_
  refine j_bipush (q := 5) F dX7_type_3 rfl (by decide) ?_
  refine j_callSZ (q := 8) F [vI v, vI 32, vI 126] (ct_X7_in l X hX M v 32 126 ⟨by omega, by omega⟩ ⟨by omega, by omega⟩ ⟨by omega, by omega⟩) gX7_type_X7_in rfl cd_X7_in ⟨by first | exact Nat.le_of_ble_eq_true rfl | (simp only [rm]; omega) | (simp [rm, vI, vR, Value.category]; omega), by first | exact Nat.le_of_ble_eq_true rfl | (simp only [rm]; omega) | (simp [rm, vI, vR, Value.category]; omega), by first | exact Nat.le_of_ble_eq_true rfl | (simp only [rm]; omega) | (simp [rm, vI, vR, Value.category]; omega), by first | exact Nat.le_of_ble_eq_true rfl | (simp only [rm]; omega) | (simp [rm, vI, vR, Value.category]; omega)⟩ rfl rfl (Nat.le_of_ble_eq_true rfl) dX7_type_5 rfl (fun hwi => ?_) (fun hwi => ?_)
  · skip
    refine j_if_ne (q := 11) (tgt := 13) F dX7_type_8 (by decide) rfl ⟨by decide, by decide⟩ (fun _ => ?_) (fun h => absurd h (by decide))
    refine j_aload_n (q := 14) F dX7_type_13 rfl rfl 0 rfl ?_
    refine j_getI (q := 17) (i := 4) (index := 118) F md82 rfl in_X7_type_7 4 (by decide) rfl rfl fl_X7_type_118 dX7_type_14 rfl ?_
    refine j_bipush (q := 19) F dX7_type_17 rfl (by decide) ?_
    refine j_icmp_ne (q := 22) (tgt := 25) F dX7_type_19 (by decide) rfl ⟨by omega, by omega⟩ ⟨by decide, by decide⟩ (fun h19_2 => ?_) (fun h19_2 => ?_)
    · skip
      refine j_aload_n (q := 26) F dX7_type_25 rfl rfl 0 rfl ?_
      refine j_getR (q := 29) (z := 85) (index := 16) F md82 rfl in_X7_type_7 3 (by decide) rfl fl_X7_type_16 dX7_type_26 rfl ?_
      refine j_aload_n (q := 30) F dX7_type_29 rfl rfl 0 rfl ?_
      refine j_getI (q := 33) (i := 4) (index := 118) F md82 rfl in_X7_type_7 4 (by decide) rfl rfl fl_X7_type_118 dX7_type_30 rfl ?_
      refine j_iload_n (q := 34) F dX7_type_33 rfl rfl 1 rfl ?_
      refine j_i2c (q := 35) F dX7_type_34 rfl ⟨by omega, by omega⟩ ?_
      refine j_cast (q := 36) F ar85 (by omega) (by omega) (by decide) ⟨by omega, by omega⟩ dX7_type_35 rfl ?_
      refine j_aload_n (q := 37) F dX7_type_36 rfl rfl 0 rfl ?_
      refine j_dup (q := 38) F dX7_type_37 rfl rfl ?_
      refine j_getI (q := 41) (i := 4) (index := 118) F md82 rfl in_X7_type_7 4 (by decide) rfl rfl fl_X7_type_118 dX7_type_38 rfl ?_
      rw [show (mset M 85 (M 82 4) v) 82 4 = M 82 4 from by rw [mset_nef (by decide)]]
      refine j_iconst (q := 42) F dX7_type_41 rfl ?_
      refine j_iadd (q := 43) (z := (M 82 4) + 1) F dX7_type_42 rfl rfl ?_
      refine j_putI (q := 46) (i := 4) (index := 118) F md82 rfl in_X7_type_7 4 (by decide) tyX7_ok nmX7 rfl rfl rfl rfl fl_X7_type_118 dX7_type_43 rfl ?_
      refine j_aload_n (q := 47) F dX7_type_46 rfl rfl 0 rfl ?_
      refine j_getI (q := 50) (i := 4) (index := 118) F md82 rfl in_X7_type_7 4 (by decide) rfl rfl fl_X7_type_118 dX7_type_47 rfl ?_
      rw [show (mset (mset M 85 (M 82 4) v) 82 4 ((M 82 4) + 1)) 82 4 = M 82 4 + 1 from by rw [mset_at]]
      refine hret _ _ _ _ dX7_type_50 ?_
      · refine ⟨fun q hq => by rw [mset_nef (by omega), mset_nef (by omega)], ⟨by rw [mset_nef (by decide), mset_nef (by decide)], by rw [mset_nef (by decide), mset_nef (by decide)], by rw [mset_nef (by decide), mset_nef (by decide)], by rw [mset_nef (by decide), mset_nef (by decide)]⟩, Or.inr (Or.inr ⟨hwi, by omega, ⟨by rw [mset_nef (by decide), mset_nef (by decide)], by rw [mset_nef (by decide), mset_nef (by decide)], by rw [mset_ne2 (by decide), mset_nef (by decide)]⟩, fun j a b => ?_, by rw [mset_at], by omega⟩)⟩
        rw [mset_nef (by decide), mset_if]
    · skip
      refine j_bipush (q := 24) F dX7_type_22 rfl (by decide) ?_
      exact hret _ _ _ _ dX7_type_24 (by exact mpo_of (fun _ _ _ _ => rfl) (Or.inr (Or.inl ⟨hwi, by omega, rfl, SM.rf M⟩)))
  · skip
    refine j_if_ne (q := 11) (tgt := 13) F dX7_type_8 (by decide) rfl ⟨by decide, by decide⟩ (fun h => absurd h (by decide)) (fun _ => ?_)
    refine j_iconst (q := 12) F dX7_type_11 rfl ?_
    exact hret _ _ _ _ dX7_type_12 (by exact mpo_of (fun _ _ _ _ => rfl) (Or.inl ⟨by omega, rfl, SM.rf M⟩))
theorem fl_X7_clearText_118 : Cond.fieldLink RX7 118 "WhiteRiversModel" "typed" "I" ∈ wsX7_clearText := by decide +kernel
theorem in_X7_clearText_7 : ∀ w ∈ u_ws RX7 TX7 19, w ∈ wsX7_clearText := by decide +kernel
set_option maxRecDepth 100000 in
set_option maxHeartbeats 400000 in
theorem ct_X7_clearText (l : Launch) (X : Cx) (hX : Inj X) (M : Mem) (hty : 0 ≤ M 82 4 ∧ M 82 4 ≤ 100) (htx : ∀ j, 0 ≤ j → j < 100 → 0 ≤ M 85 j ∧ M 85 j ≤ 126) : CtI l X yX7_clearText wsX7_clearText 0 [vR X 82] M (fun r M' => MPO M (Oclear M) r M') := by
  refine CtI_of (cc := cX7_clearText) (maxL := 2) hX (by decide +kernel) rfl (Nat.le_of_ble_eq_true rfl) ?_
  intro zp ze zs zm zargs zbelow zmeth zc zQ F hret
  show J zp l ze (rm 0) zs zm zargs zbelow zmeth zc 0 0 zQ zs.heap X 2 M 0 [(0, vR X 82)] []
  refine j_aload_n (q := 1) F dX7_clearText_0 rfl rfl 0 rfl ?_
  refine j_getI (q := 4) (i := 4) (index := 118) F md82 rfl in_X7_clearText_7 4 (by decide) rfl rfl fl_X7_clearText_118 dX7_clearText_1 rfl ?_
  refine j_istore_n (q := 5) (lv' := [(0, vR X 82), (1, vI (M 82 4))]) F dX7_clearText_4 rfl rfl (by decide) rfl rfl ?_
  refine j_aload_n (q := 6) F dX7_clearText_5 rfl rfl 0 rfl ?_
  refine j_iconst (q := 7) F dX7_clearText_6 rfl ?_
  refine j_putI (q := 10) (i := 4) (index := 118) F md82 rfl in_X7_clearText_7 4 (by decide) tyX7_ok nmX7 rfl rfl rfl rfl fl_X7_clearText_118 dX7_clearText_7 rfl ?_
  refine j_iload_n (q := 11) F dX7_clearText_10 rfl rfl 1 rfl ?_
  exact hret _ _ _ _ dX7_clearText_11 (by exact ⟨fun q hq => by rw [mset_nef (by omega)], ⟨by rw [mset_nef (by decide)], by rw [mset_nef (by decide)], by rw [mset_nef (by decide)], by rw [mset_nef (by decide)]⟩, ⟨by rw [mset_nef (by decide)], by rw [mset_nef (by decide)], by rw [mset_ne2 (by decide)]⟩, by rw [mset_nef (by decide)], mset_at, rfl⟩)
