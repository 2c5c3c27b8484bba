set_option maxRecDepth 100000 in
set_option maxHeartbeats 400000 in
theorem ct_X7_isLength (l : Launch) (X : Cx) (hX : Inj X) (M : Mem) (n : Int) (hn : inR n) : CtI l X yX7_isLength wsX7_isLength 1 [vI n] M (fun x M' => M' = M ∧ (x = 1 ∧ (1 ≤ n ∧ n ≤ 24) ∨ x = 0 ∧ (n < 1 ∨ 24 < n))) := by
  refine CtI_ofZ (cc := cX7_isLength) (maxL := 1) hX (by decide +kernel) rfl (Nat.le_of_ble_eq_true rfl) ?_
  intro zp ze zs zm zargs zbelow zmeth zc zQ F hret
  show J zp l ze (rm 1) zs zm zargs zbelow zmeth zc 0 0 zQ zs.heap X 1 M 0 [(0, vI n)] []
  obtain ⟨hn1, hn2⟩ := hn
  refine j_iload_n (q := 1) F dX7_isLength_0 rfl rfl 0 rfl ?_
  refine j_iconst (q := 2) F dX7_isLength_1 rfl ?_
  refine j_bipush (q := 4) F dX7_isLength_2 rfl (by decide) ?_
  refine j_callSP (q := 7) F [vI n, vI 1, vI 24] (ct_X7_in l X hX M n 1 24 ⟨by omega, by omega⟩ ⟨by omega, by omega⟩ ⟨by omega, by omega⟩) gX7_isLength_X7_in rfl cd_X7_in ⟨by first | exact Nat.le_of_ble_eq_true rfl | (simp only [rm]; omega) | (simp [rm, vI, vR, Value.category]; omega), by first | exact Nat.le_of_ble_eq_true rfl | (simp only [rm]; omega) | (simp [rm, vI, vR, Value.category]; omega), by first | exact Nat.le_of_ble_eq_true rfl | (simp only [rm]; omega) | (simp [rm, vI, vR, Value.category]; omega), by first | exact Nat.le_of_ble_eq_true rfl | (simp only [rm]; omega) | (simp [rm, vI, vR, Value.category]; omega)⟩ rfl rfl (Nat.le_of_ble_eq_true rfl) dX7_isLength_4 rfl (fun x hx => ?_)
  exact hret _ _ _ _ dX7_isLength_7 (by omega) (by refine ⟨rfl, ?_⟩; omega)
theorem fl_X7_takes_133 : Cond.fieldLink RX7 133 "WhiteRiversModel" "bestLines" "I" ∈ wsX7_takes := by decide +kernel
theorem fl_X7_takes_136 : Cond.fieldLink RX7 136 "WhiteRiversModel" "bestChanged" "I" ∈ wsX7_takes := by decide +kernel
theorem fl_X7_takes_139 : Cond.fieldLink RX7 139 "WhiteRiversModel" "bestBad" "I" ∈ wsX7_takes := by decide +kernel
theorem fl_X7_takes_142 : Cond.fieldLink RX7 142 "WhiteRiversModel" "bestRiver" "I" ∈ wsX7_takes := by decide +kernel
theorem fl_X7_takes_32 : Cond.fieldLink RX7 32 "WhiteRiversModel" "at" "[I" ∈ wsX7_takes := by decide +kernel
theorem fl_X7_takes_38 : Cond.fieldLink RX7 38 "WhiteRiversModel" "changed" "[I" ∈ wsX7_takes := by decide +kernel
theorem fl_X7_takes_41 : Cond.fieldLink RX7 41 "WhiteRiversModel" "bad" "[I" ∈ wsX7_takes := by decide +kernel
theorem fl_X7_takes_44 : Cond.fieldLink RX7 44 "WhiteRiversModel" "longest" "[I" ∈ wsX7_takes := by decide +kernel
theorem fl_X7_takes_47 : Cond.fieldLink RX7 47 "WhiteRiversModel" "best" "[I" ∈ wsX7_takes := by decide +kernel
theorem in_X7_takes_7 : ∀ w ∈ u_ws RX7 TX7 19, w ∈ wsX7_takes := by decide +kernel
set_option maxRecDepth 100000 in
set_option maxHeartbeats 400000 in
theorem ct_X7_takes (l : Launch) (X : Cx) (hX : Inj X) (M : Mem) (n : Int) (h0 : 0 ≤ n) (h1 : n ≤ 24) : CtV l X yX7_takes wsX7_takes 0 [vR X 82, vI n] M (fun M' => (∀ q, q ≠ 82 → q ≠ 95 → M' q = M q) ∧ (∀ j, j < 15 → M' 82 j = M 82 j) ∧ M' 82 15 = n ∧ M' 82 16 = M 92 n ∧ M' 82 17 = M 93 n ∧ M' 82 18 = M 94 n ∧ ∀ k, 0 ≤ k → k ≤ n → M' 95 k = M 90 k) := by
  refine CtV_of (cc := cX7_takes) (maxL := 3) hX (by decide +kernel) rfl (Nat.le_of_ble_eq_true rfl) ?_
  intro zp ze zs zm zargs zbelow zmeth zc zQ F hret
  show J zp l ze (rm 0) zs zm zargs zbelow zmeth zc 0 0 zQ zs.heap X 3 M 0 [(0, vR X 82), (1, vI n)] []
  refine j_aload_n (q := 1) F dX7_takes_0 rfl rfl 0 rfl ?_
  refine j_iload_n (q := 2) F dX7_takes_1 rfl rfl 1 rfl ?_
  refine j_putI (q := 5) (i := 15) (index := 133) F md82 rfl in_X7_takes_7 15 (by decide) tyX7_ok nmX7 rfl rfl rfl rfl fl_X7_takes_133 dX7_takes_2 rfl ?_
  refine j_aload_n (q := 6) F dX7_takes_5 rfl rfl 0 rfl ?_
  refine j_aload_n (q := 7) F dX7_takes_6 rfl rfl 0 rfl ?_
  refine j_getR (q := 10) (z := 92) (index := 38) F md82 rfl in_X7_takes_7 11 (by decide) rfl fl_X7_takes_38 dX7_takes_7 rfl ?_
  refine j_iload_n (q := 11) F dX7_takes_10 rfl rfl 1 rfl ?_
  refine j_iald (q := 12) F ar92 (by omega) (by omega) (by decide) dX7_takes_11 rfl ?_
  rw [show (mset M 82 15 n) 92 n = M 92 n from by simp [mset]]
  refine j_putI (q := 15) (i := 16) (index := 136) F md82 rfl in_X7_takes_7 16 (by decide) tyX7_ok nmX7 rfl rfl rfl rfl fl_X7_takes_136 dX7_takes_12 rfl ?_
  refine j_aload_n (q := 16) F dX7_takes_15 rfl rfl 0 rfl ?_
  refine j_aload_n (q := 17) F dX7_takes_16 rfl rfl 0 rfl ?_
  refine j_getR (q := 20) (z := 93) (index := 41) F md82 rfl in_X7_takes_7 12 (by decide) rfl fl_X7_takes_41 dX7_takes_17 rfl ?_
  refine j_iload_n (q := 21) F dX7_takes_20 rfl rfl 1 rfl ?_
  refine j_iald (q := 22) F ar93 (by omega) (by omega) (by decide) dX7_takes_21 rfl ?_
  rw [show (mset (mset M 82 15 n) 82 16 (M 92 n)) 93 n = M 93 n from by simp [mset]]
  refine j_putI (q := 25) (i := 17) (index := 139) F md82 rfl in_X7_takes_7 17 (by decide) tyX7_ok nmX7 rfl rfl rfl rfl fl_X7_takes_139 dX7_takes_22 rfl ?_
  refine j_aload_n (q := 26) F dX7_takes_25 rfl rfl 0 rfl ?_
  refine j_aload_n (q := 27) F dX7_takes_26 rfl rfl 0 rfl ?_
  refine j_getR (q := 30) (z := 94) (index := 44) F md82 rfl in_X7_takes_7 13 (by decide) rfl fl_X7_takes_44 dX7_takes_27 rfl ?_
  refine j_iload_n (q := 31) F dX7_takes_30 rfl rfl 1 rfl ?_
  refine j_iald (q := 32) F ar94 (by omega) (by omega) (by decide) dX7_takes_31 rfl ?_
  rw [show (mset (mset (mset M 82 15 n) 82 16 (M 92 n)) 82 17 (M 93 n)) 94 n = M 94 n from by simp [mset]]
  refine j_putI (q := 35) (i := 18) (index := 142) F md82 rfl in_X7_takes_7 18 (by decide) tyX7_ok nmX7 rfl rfl rfl rfl fl_X7_takes_142 dX7_takes_32 rfl ?_
  refine j_iconst (q := 36) F dX7_takes_35 rfl ?_
  refine j_istore_n (q := 37) (lv' := [(0, vR X 82), (1, vI n), (2, vI 0)]) F dX7_takes_36 rfl rfl (by decide) rfl rfl ?_
  have LP37 : ∀ (nn : Nat) (k : Int) (Mq : Mem), (0 ≤ k) → (k ≤ n + 1) → (∀ q, q ≠ 82 → q ≠ 95 → Mq q = M q) → (∀ j, j < 15 → Mq 82 j = M 82 j) → (Mq 82 15 = n) → (Mq 82 16 = M 92 n) → (Mq 82 17 = M 93 n) → (Mq 82 18 = M 94 n) → (∀ i, 0 ≤ i → i < k → Mq 95 i = M 90 i) → (n + 1 - k).toNat < nn → J zp l ze (rm 0) zs zm zargs zbelow zmeth zc 0 0 zQ zs.heap X 3 Mq 37 [(0, vR X 82), (1, vI n), (2, vI k)] [] := by
    intro nn
    induction nn with
    | zero => intro k Mq g0 g1 hq hm a1 a2 a3 a4 a5 hm37; exact absurd hm37 (Nat.not_lt_zero _)
    | succ nn ih37 =>
      intro k Mq g0 g1 hq hm a1 a2 a3 a4 a5 hm37
      refine j_iload_n (q := 38) F dX7_takes_37 rfl rfl 2 rfl ?_
      refine j_iload_n (q := 39) F dX7_takes_38 rfl rfl 1 rfl ?_
      refine j_icmp_gt (q := 42) (tgt := 60) F dX7_takes_39 (by decide) rfl ⟨by omega, by omega⟩ ⟨by omega, by omega⟩ (fun h39_1 => ?_) (fun h39_1 => ?_)
      · skip
        exact hret _ _ _ dX7_takes_60 (by exact ⟨hq, hm, a1, a2, a3, a4, fun i q0 q1 => a5 i q0 (by omega)⟩)
      · skip
        refine j_aload_n (q := 43) F dX7_takes_42 rfl rfl 0 rfl ?_
        refine j_getR (q := 46) (z := 95) (index := 47) F md82 rfl in_X7_takes_7 14 (by decide) rfl fl_X7_takes_47 dX7_takes_43 rfl ?_
        refine j_iload_n (q := 47) F dX7_takes_46 rfl rfl 2 rfl ?_
        refine j_aload_n (q := 48) F dX7_takes_47 rfl rfl 0 rfl ?_
        refine j_getR (q := 51) (z := 90) (index := 32) F md82 rfl in_X7_takes_7 9 (by decide) rfl fl_X7_takes_32 dX7_takes_48 rfl ?_
        refine j_iload_n (q := 52) F dX7_takes_51 rfl rfl 2 rfl ?_
        refine j_iald (q := 53) F ar90 (by omega) (by omega) (by decide) dX7_takes_52 rfl ?_
        refine j_iast (q := 54) F ar95 (by omega) (by omega) (by decide) dX7_takes_53 rfl ?_
        refine j_iinc (q := 57) (lv' := [(0, vR X 82), (1, vI n), (2, vI (k + 1))]) F dX7_takes_54 rfl 2 rfl (by decide) rfl rfl ?_
        refine j_goto (q := 37) F dX7_takes_57 (by decide) ?_
        refine ih37 (k + 1) (mset Mq 95 k (Mq 90 k)) (by omega) (by omega) (by exact fun q a b => by rw [mset_nef b]; exact hq q a b) (by exact fun j a => by rw [mset_nef (by decide)]; exact hm j a) (by rw [mset_nef (by decide)]; exact a1) (by rw [mset_nef (by decide)]; exact a2) (by rw [mset_nef (by decide)]; exact a3) (by rw [mset_nef (by decide)]; exact a4) ?_ (by omega)
        · intro i q0 q1; rw [mset_if]
          by_cases hi : i = k
          · rw [if_pos hi, hi, hq 90 (by decide) (by decide)]
          · rw [if_neg hi]; exact a5 i q0 (by omega)
  exact LP37 _ 0 (mset (mset (mset (mset M 82 15 n) 82 16 (M 92 n)) 82 17 (M 93 n)) 82 18 (M 94 n)) (by omega) (by omega) (by exact fun q a b => by rw [mset_nef a, mset_nef a, mset_nef a, mset_nef a]) (by exact fun j a => by rw [mset_ne2 (by omega), mset_ne2 (by omega), mset_ne2 (by omega), mset_ne2 (by omega)]) (by rw [mset_ne2 (by decide), mset_ne2 (by decide), mset_ne2 (by decide), mset_at]) (by rw [mset_ne2 (by decide), mset_ne2 (by decide), mset_at]) (by rw [mset_ne2 (by decide), mset_at]) (by rw [mset_at]) (by intro i q0 q1; omega) (by exact Nat.lt_succ_self _)
