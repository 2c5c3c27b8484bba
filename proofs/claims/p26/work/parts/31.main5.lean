theorem fl_X6_leastRiver_10 : Cond.fieldLink RX6 10 "WhiteRivers" "page" "LWhiteRivers$Page;" ∈ wsX6_leastRiver := by decide +kernel
theorem fl_X6_leastRiver_33 : Cond.fieldLink RX6 33 "WhiteRivers" "search" "LWhiteRivers$Search;" ∈ wsX6_leastRiver := by decide +kernel
theorem in_X6_leastRiver_6 : ∀ w ∈ u_ws RX6 TX6 5, w ∈ wsX6_leastRiver := by decide +kernel
set_option maxRecDepth 100000 in
set_option maxHeartbeats 400000 in
theorem ct_X6_leastRiver (l : Launch) (X : Cx) (hX : Inj X) (M : Mem) (hC : CRel M M) : CtI l X yX6_leastRiver wsX6_leastRiver 32 [vR X 0] M (fun r M' => CPO M (Oleast M) r M') := by
  refine CtI_of (cc := cX6_leastRiver) (maxL := 2) hX (by decide +kernel) rfl (Nat.le_of_ble_eq_true rfl) ?_
  intro zp ze zs zm zargs zbelow zmeth zc zQ F hret
  show J zp l ze (rm 32) zs zm zargs zbelow zmeth zc 0 0 zQ zs.heap X 2 M 0 [(0, vR X 0)] []
  refine j_iconst (q := 1) F dX6_leastRiver_0 rfl ?_
  refine j_istore_n (q := 2) (lv' := [(0, vR X 0), (1, vI 1)]) F dX6_leastRiver_1 rfl rfl (by decide) rfl rfl ?_
  have LP2 : ∀ (nn : Nat) (D : Int) (Mq : Mem), (1 ≤ D) → (D ≤ 25) → (∀ q, q < 54 ∨ 78 < q → Mq q = M q) → (SRel Mq (M 83)) → (SBd Mq 62) → (∀ E, 1 ≤ E → E < D → (SOL (M 83) E).1 = 1000000000) → (25 - D).toNat < nn → J zp l ze (rm 32) zs zm zargs zbelow zmeth zc 0 0 zQ zs.heap X 2 Mq 2 [(0, vR X 0), (1, vI D)] [] := by
    intro nn
    induction nn with
    | zero => intro D Mq g0 g1 hfr hS hB hnf hm2; exact absurd hm2 (Nat.not_lt_zero _)
    | succ nn ih2 =>
      intro D Mq g0 g1 hfr hS hB hnf hm2
      refine j_iload_n (q := 3) F dX6_leastRiver_2 rfl rfl 1 rfl ?_
      refine j_bipush (q := 5) F dX6_leastRiver_3 rfl (by decide) ?_
      refine j_icmp_gt (q := 8) (tgt := 38) F dX6_leastRiver_5 (by decide) rfl ⟨by omega, by omega⟩ ⟨by decide, by decide⟩ (fun h5_1 => ?_) (fun h5_1 => ?_)
      · skip
        refine j_bipush (q := 40) F dX6_leastRiver_38 rfl (by decide) ?_
        refine hret _ _ _ _ dX6_leastRiver_40 ?_
        · refine ⟨fun q hq => hfr q (by omega), fun r' N hO => ?_⟩
          obtain ⟨qs, hO⟩ := hO
          refine ⟨?_, crel_search hfr hS hB hC qs⟩
          rcases hO with ⟨q1, q2, q3, q4⟩ | ⟨q1, q2⟩
          · have := hnf r' q1 (by omega); omega
          · omega
      · skip
        refine j_aload_n (q := 9) F dX6_leastRiver_8 rfl rfl 0 rfl ?_
        refine j_getR (q := 12) (z := 54) (index := 33) F wr0 rfl in_X6_leastRiver_6 3 (by decide) rfl fl_X6_leastRiver_33 dX6_leastRiver_9 rfl ?_
        refine j_aload_n (q := 13) F dX6_leastRiver_12 rfl rfl 0 rfl ?_
        refine j_getR (q := 16) (z := 1) (index := 10) F wr0 rfl in_X6_leastRiver_6 0 (by decide) rfl fl_X6_leastRiver_10 dX6_leastRiver_13 rfl ?_
        refine j_iload_n (q := 17) F dX6_leastRiver_16 rfl rfl 1 rfl ?_
        refine j_callVV (q := 20) F [vR X 1, vI D] (ct_X3_solve l X hX Mq (M 83) (hC.1.congr (hfr _ (by decide)) (hfr _ (by decide)) (hfr _ (by decide)) (hfr _ (by decide))) hC.2.1 D (by omega) hS hB) gX6_leastRiver_X3_solve rfl cd_X3_solve ⟨by first | exact Nat.le_of_ble_eq_true rfl | (simp only [rm]; omega) | (simp [rm, vI, vR, Value.category]; omega), by first | exact Nat.le_of_ble_eq_true rfl | (simp only [rm]; omega) | (simp [rm, vI, vR, Value.category]; omega), by first | exact Nat.le_of_ble_eq_true rfl | (simp only [rm]; omega) | (simp [rm, vI, vR, Value.category]; omega), by first | exact Nat.le_of_ble_eq_true rfl | (simp only [rm]; omega) | (simp [rm, vI, vR, Value.category]; omega)⟩ se54 rfl rfl rfl (Nat.le_of_ble_eq_true rfl) dX6_leastRiver_17 rfl (fun Ms hs => ?_)
        have hbs := sol_bd hC.2.1 D
        have e2 : Ms 54 2 = (SOL (M 83) D).1 := hs.2.2.1.1
        refine j_aload_n (q := 21) F dX6_leastRiver_20 rfl rfl 0 rfl ?_
        refine j_getR (q := 24) (z := 54) (index := 33) F wr0 rfl in_X6_leastRiver_6 3 (by decide) rfl fl_X6_leastRiver_33 dX6_leastRiver_21 rfl ?_
        refine j_callVZ (q := 27) F [] (ct_X3_hasFound l X hX Ms ⟨by omega, by omega⟩) gX6_leastRiver_X3_hasFound rfl cd_X3_hasFound ⟨by first | exact Nat.le_of_ble_eq_true rfl | (simp only [rm]; omega) | (simp [rm, vI, vR, Value.category]; omega), by first | exact Nat.le_of_ble_eq_true rfl | (simp only [rm]; omega) | (simp [rm, vI, vR, Value.category]; omega), by first | exact Nat.le_of_ble_eq_true rfl | (simp only [rm]; omega) | (simp [rm, vI, vR, Value.category]; omega), by first | exact Nat.le_of_ble_eq_true rfl | (simp only [rm]; omega) | (simp [rm, vI, vR, Value.category]; omega)⟩ se54 rfl rfl rfl (Nat.le_of_ble_eq_true rfl) dX6_leastRiver_24 rfl (fun hf => ?_) (fun hf => ?_)
        · skip
          refine j_if_eq (q := 30) (tgt := 32) F dX6_leastRiver_27 (by decide) rfl ⟨by decide, by decide⟩ (fun h => absurd h (by decide)) (fun _ => ?_)
          refine j_iload_n (q := 31) F dX6_leastRiver_30 rfl rfl 1 rfl ?_
          refine hret _ _ _ _ dX6_leastRiver_31 ?_
          · refine ⟨fun q hq => by rw [hs.1 q (by omega)]; exact hfr q (by omega), fun r' N hO => ?_⟩
            obtain ⟨qs, hO⟩ := hO
            refine ⟨?_, crel_search (fun q g => by rw [hs.1 q g]; exact hfr q g) (hs.srel (by omega)) hs.2.2.2 hC qs⟩
            rcases hO with ⟨q1, q2, q3, q4⟩ | ⟨q1, q2⟩
            · by_cases z1 : r' < D
              · have := hnf r' q1 z1; omega
              · by_cases z2 : D < r'
                · have := q4 D g0 z2; omega
                · omega
            · have := q2 D g0 (by omega); omega
        · skip
          refine j_if_eq (q := 30) (tgt := 32) F dX6_leastRiver_27 (by decide) rfl ⟨by decide, by decide⟩ (fun _ => ?_) (fun h => absurd h (by decide))
          refine j_iinc (q := 35) (lv' := [(0, vR X 0), (1, vI (D + 1))]) F dX6_leastRiver_32 rfl 1 rfl (by decide) rfl rfl ?_
          refine j_goto (q := 2) F dX6_leastRiver_35 (by decide) ?_
          refine ih2 (D + 1) Ms (by omega) (by omega) (by exact fun q g => by rw [hs.1 q g]; exact hfr q g) (by exact hs.srel (by omega)) (by exact hs.2.2.2) ?_ (by omega)
          · intro E q0 q1; by_cases hE : E = D
            · rw [hE]; omega
            · exact hnf E q0 (by omega)
  exact LP2 _ 1 M (by omega) (by omega) (by exact fun _ _ => rfl) (by exact hC.2.2.2.2.1) (by exact hC.2.2.2.2.2.2) (by intro E q0 q1; omega) (by exact Nat.lt_succ_self _)
theorem fl_X3_divide_54 : Cond.fieldLink RX3 54 "WhiteRivers$Search" "best" "LWhiteRivers$Row;" ∈ wsX3_divide := by decide +kernel
theorem fl_X3_divide_9 : Cond.fieldLink RX3 9 "WhiteRivers$Search" "bestLines" "I" ∈ wsX3_divide := by decide +kernel
theorem in_X3_divide_3 : ∀ w ∈ u_ws RX3 TX3 10, w ∈ wsX3_divide := by decide +kernel
set_option maxRecDepth 100000 in
set_option maxHeartbeats 400000 in
theorem ct_X3_divide (l : Launch) (X : Cx) (hX : Inj X) (M : Mem) (Q : Int → Int) (m : Int) (h0 : M 54 0 = m) (hb : ∀ k, 0 ≤ k → k < m → M 78 k = Q (k + 1) - Q k) (hm : 0 ≤ m ∧ m ≤ 24) (hQ0 : Q 0 = 0) (hQm : Q m = M 1 2) (hn : M 1 2 ≤ 24) (hmono : ∀ x y, 0 ≤ x → x ≤ y → y ≤ m → Q x + (y - x) ≤ Q y) : CtV l X yX3_divide wsX3_divide 2 [vR X 54, vR X 1] M (fun M' => DivP M M' Q m) := by
  refine CtV_of (cc := cX3_divide) (maxL := 4) hX (by decide +kernel) rfl (Nat.le_of_ble_eq_true rfl) ?_
  intro zp ze zs zm zargs zbelow zmeth zc zQ F hret
  show J zp l ze (rm 2) zs zm zargs zbelow zmeth zc 0 0 zQ zs.heap X 4 M 0 [(0, vR X 54), (1, vR X 1)] []
  refine j_aload_n (q := 1) F dX3_divide_0 rfl rfl 1 rfl ?_
  refine j_callVM (q := 4) F [] (ct_X1_joinAll l X hX M 1 (pg1)) gX3_divide_X1_joinAll rfl cd_X1_joinAll ⟨by first | exact Nat.le_of_ble_eq_true rfl | (simp only [rm]; omega) | (simp [rm, vI, vR, Value.category]; omega), by first | exact Nat.le_of_ble_eq_true rfl | (simp only [rm]; omega) | (simp [rm, vI, vR, Value.category]; omega), by first | exact Nat.le_of_ble_eq_true rfl | (simp only [rm]; omega) | (simp [rm, vI, vR, Value.category]; omega), by first | exact Nat.le_of_ble_eq_true rfl | (simp only [rm]; omega) | (simp [rm, vI, vR, Value.category]; omega)⟩ (pg1).1 rfl rfl rfl (Nat.le_of_ble_eq_true rfl) dX3_divide_1 rfl ?_
  refine j_iconst (q := 5) F dX3_divide_4 rfl ?_
  refine j_istore_n (q := 6) (lv' := [(0, vR X 54), (1, vR X 1), (2, vI 0)]) F dX3_divide_5 rfl rfl (by decide) rfl rfl ?_
  refine j_iconst (q := 7) F dX3_divide_6 rfl ?_
  refine j_istore_n (q := 8) (lv' := [(0, vR X 54), (1, vR X 1), (2, vI 0), (3, vI 0)]) F dX3_divide_7 rfl rfl (by decide) rfl rfl ?_
  have LP8 : ∀ (nn : Nat) (f k : Int) (Mq : Mem), (0 ≤ k) → (k ≤ m) → (f = Q k) → (∀ q, q ≠ 5 → Mq q = M q) → (∀ j, 0 ≤ j → j < k → Mq 5 (Q j) = 1) → (∀ w, 0 ≤ w → w < 24 → (∀ j, 0 ≤ j → j < k → Q j ≠ w) → Mq 5 w = 0) → (m - k).toNat < nn → J zp l ze (rm 2) zs zm zargs zbelow zmeth zc 0 0 zQ zs.heap X 4 Mq 8 [(0, vR X 54), (1, vR X 1), (2, vI f), (3, vI k)] [] := by
    intro nn
    induction nn with
    | zero => intro f k Mq g0 g1 hfq hfr ho1 hz0 hm8; exact absurd hm8 (Nat.not_lt_zero _)
    | succ nn ih8 =>
      intro f k Mq g0 g1 hfq hfr ho1 hz0 hm8
      refine j_iload_n (q := 9) F dX3_divide_8 rfl rfl 3 rfl ?_
      refine j_aload_n (q := 10) F dX3_divide_9 rfl rfl 0 rfl ?_
      refine j_getI (q := 13) (i := 0) (index := 9) F se54 rfl in_X3_divide_3 0 (by decide) rfl rfl fl_X3_divide_9 dX3_divide_10 rfl ?_
      rw [show Mq 54 0 = m from by rw [hfr 54 (by decide)]; exact h0]
      refine j_icmp_ge (q := 16) (tgt := 38) F dX3_divide_13 (by decide) rfl ⟨by omega, by omega⟩ ⟨by omega, by omega⟩ (fun h13_2 => ?_) (fun h13_2 => ?_)
      · skip
        refine hret _ _ _ dX3_divide_38 ?_
        · have hkm : k = m := by omega
          subst hkm
          exact ⟨hfr, ho1, hz0⟩
      · skip
        have hk1 := hmono k m g0 (by omega) (by omega)
        have hk0 := hmono 0 k (by omega) g0 (by omega)
        have e12 : Mq 1 2 = M 1 2 := by rw [hfr 1 (by decide)]
        refine j_aload_n (q := 17) F dX3_divide_16 rfl rfl 1 rfl ?_
        refine j_iload_n (q := 18) F dX3_divide_17 rfl rfl 2 rfl ?_
        refine j_callVM (q := 21) F [vI f] (ct_X1_begin_in l X hX Mq 1 (pg1) (by omega) f (by omega) (by omega)) gX3_divide_X1_begin rfl cd_X1_begin ⟨by first | exact Nat.le_of_ble_eq_true rfl | (simp only [rm]; omega) | (simp [rm, vI, vR, Value.category]; omega), by first | exact Nat.le_of_ble_eq_true rfl | (simp only [rm]; omega) | (simp [rm, vI, vR, Value.category]; omega), by first | exact Nat.le_of_ble_eq_true rfl | (simp only [rm]; omega) | (simp [rm, vI, vR, Value.category]; omega), by first | exact Nat.le_of_ble_eq_true rfl | (simp only [rm]; omega) | (simp [rm, vI, vR, Value.category]; omega)⟩ (pg1).1 rfl rfl rfl (Nat.le_of_ble_eq_true rfl) dX3_divide_18 rfl ?_
        refine j_iload_n (q := 22) F dX3_divide_21 rfl rfl 2 rfl ?_
        refine j_aload_n (q := 23) F dX3_divide_22 rfl rfl 0 rfl ?_
        refine j_getR (q := 26) (z := 77) (index := 54) F se54 rfl in_X3_divide_3 9 (by decide) rfl fl_X3_divide_54 dX3_divide_23 rfl ?_
        refine j_iload_n (q := 27) F dX3_divide_26 rfl rfl 3 rfl ?_
        refine j_callVE (q := 30) F [vI k] (ct_X2_get_in l X hX (mset Mq 5 f 1) 77 24 78 (rw77) (by decide) rfl k (by omega) (by omega)) gX3_divide_X2_get rfl cd_X2_get ⟨by first | exact Nat.le_of_ble_eq_true rfl | (simp only [rm]; omega) | (simp [rm, vI, vR, Value.category]; omega), by first | exact Nat.le_of_ble_eq_true rfl | (simp only [rm]; omega) | (simp [rm, vI, vR, Value.category]; omega), by first | exact Nat.le_of_ble_eq_true rfl | (simp only [rm]; omega) | (simp [rm, vI, vR, Value.category]; omega), by first | exact Nat.le_of_ble_eq_true rfl | (simp only [rm]; omega) | (simp [rm, vI, vR, Value.category]; omega)⟩ (rw77).1 rfl rfl rfl (Nat.le_of_ble_eq_true rfl) dX3_divide_27 rfl ?_
        rw [show (mset Mq 5 f 1) 78 k = Q (k + 1) - Q k from by rw [mset_nef (by decide), hfr 78 (by decide)]; exact hb k g0 (by omega)]
        refine j_iadd (q := 31) (z := f + (Q (k + 1) - Q k)) F dX3_divide_30 rfl rfl ?_
        refine j_istore_n (q := 32) (lv' := [(0, vR X 54), (1, vR X 1), (2, vI (f + (Q (k + 1) - Q k))), (3, vI k)]) F dX3_divide_31 rfl rfl (by decide) rfl rfl ?_
        refine j_iinc (q := 35) (lv' := [(0, vR X 54), (1, vR X 1), (2, vI (f + (Q (k + 1) - Q k))), (3, vI (k + 1))]) F dX3_divide_32 rfl 3 rfl (by decide) rfl rfl ?_
        refine j_goto (q := 8) F dX3_divide_35 (by decide) ?_
        refine ih8 (f + (Q (k + 1) - Q k)) (k + 1) (mset Mq 5 f 1) (by omega) (by omega) (by omega) (by exact fun q hq => by rw [mset_nef hq]; exact hfr q hq) ?_ ?_ (by omega)
        · intro j q0 q1; rw [mset_if]
          by_cases hj : j = k
          · rw [hj, hfq, if_pos rfl]
          · have := hmono j k q0 (by omega) (by omega)
            rw [if_neg (by omega)]; exact ho1 j q0 (by omega)
        · intro w q0 q1 q2; have q3 := q2 k g0 (by omega)
          rw [mset_if, if_neg (by omega)]
          exact hz0 w q0 q1 (fun j z0 z1 => q2 j z0 (by omega))
  exact LP8 _ 0 0 (mclr M 5 24) (by omega) (by omega) (by exact hQ0.symm) (by exact fun q hq => mclr_ne hq) (by intro j q0 q1; omega) (by exact fun w q0 q1 _ => mclr_in q0 (by omega)) (by exact Nat.lt_succ_self _)
theorem cd_X3_divide : yX3_divide.cls = RX3 ∧ yX3_divide.cls ≠ "java/lang/invoke/MethodHandle" ∧ yX3_divide.cls ≠ "java/lang/invoke/VarHandle" ∧ (parseMethodDescriptor yX3_divide.desc).map (fun d => d.parameters.length) = some 1 := by decide +kernel
theorem fl_X6_dam_10 : Cond.fieldLink RX6 10 "WhiteRivers" "page" "LWhiteRivers$Page;" ∈ wsX6_dam := by decide +kernel
theorem fl_X6_dam_33 : Cond.fieldLink RX6 33 "WhiteRivers" "search" "LWhiteRivers$Search;" ∈ wsX6_dam := by decide +kernel
theorem in_X6_dam_6 : ∀ w ∈ u_ws RX6 TX6 5, w ∈ wsX6_dam := by decide +kernel
set_option maxRecDepth 100000 in
set_option maxHeartbeats 400000 in
theorem ct_X6_dam (l : Launch) (X : Cx) (hX : Inj X) (M : Mem) (hC : CRel M M) (D : Int) (hD0 : inR D) : CtI l X yX6_dam wsX6_dam 32 [vR X 0, vI D] M (fun r M' => CPO M (Odam M D) r M') := by
  refine CtI_of (cc := cX6_dam) (maxL := 3) hX (by decide +kernel) rfl (Nat.le_of_ble_eq_true rfl) ?_
  intro zp ze zs zm zargs zbelow zmeth zc zQ F hret
  show J zp l ze (rm 32) zs zm zargs zbelow zmeth zc 0 0 zQ zs.heap X 3 M 0 [(0, vR X 0), (1, vI D)] []
  obtain ⟨hD1, hD2⟩ := hD0
  refine j_iload_n (q := 1) F dX6_dam_0 rfl rfl 1 rfl ?_
  refine j_iconst (q := 2) F dX6_dam_1 rfl ?_
  refine j_bipush (q := 4) F dX6_dam_2 rfl (by decide) ?_
  refine j_callSZ (q := 7) F [vI D, vI 1, vI 24] (ct_X6_isWithin l X hX M D 1 24 ⟨by omega, by omega⟩ ⟨by omega, by omega⟩ ⟨by omega, by omega⟩) gX6_dam_X6_isWithin rfl cd_X6_isWithin ⟨by first | exact Nat.le_of_ble_eq_true rfl | (simp only [rm]; omega) | (simp [rm, vI, vR, Value.category]; omega), by first | exact Nat.le_of_ble_eq_true rfl | (simp only [rm]; omega) | (simp [rm, vI, vR, Value.category]; omega), by first | exact Nat.le_of_ble_eq_true rfl | (simp only [rm]; omega) | (simp [rm, vI, vR, Value.category]; omega), by first | exact Nat.le_of_ble_eq_true rfl | (simp only [rm]; omega) | (simp [rm, vI, vR, Value.category]; omega)⟩ rfl rfl (Nat.le_of_ble_eq_true rfl) dX6_dam_4 rfl (fun h1 => ?_) (fun h1 => ?_)
  · skip
    refine j_if_ne (q := 10) (tgt := 12) F dX6_dam_7 (by decide) rfl ⟨by decide, by decide⟩ (fun _ => ?_) (fun h => absurd h (by decide))
    refine j_aload_n (q := 13) F dX6_dam_12 rfl rfl 0 rfl ?_
    refine j_getR (q := 16) (z := 54) (index := 33) F wr0 rfl in_X6_dam_6 3 (by decide) rfl fl_X6_dam_33 dX6_dam_13 rfl ?_
    refine j_aload_n (q := 17) F dX6_dam_16 rfl rfl 0 rfl ?_
    refine j_getR (q := 20) (z := 1) (index := 10) F wr0 rfl in_X6_dam_6 0 (by decide) rfl fl_X6_dam_10 dX6_dam_17 rfl ?_
    refine j_iload_n (q := 21) F dX6_dam_20 rfl rfl 1 rfl ?_
    refine j_callVV (q := 24) F [vR X 1, vI D] (ct_X3_solve l X hX M (M 83) hC.1 hC.2.1 D (by omega) hC.2.2.2.2.1 hC.2.2.2.2.2.2) gX6_dam_X3_solve rfl cd_X3_solve ⟨by first | exact Nat.le_of_ble_eq_true rfl | (simp only [rm]; omega) | (simp [rm, vI, vR, Value.category]; omega), by first | exact Nat.le_of_ble_eq_true rfl | (simp only [rm]; omega) | (simp [rm, vI, vR, Value.category]; omega), by first | exact Nat.le_of_ble_eq_true rfl | (simp only [rm]; omega) | (simp [rm, vI, vR, Value.category]; omega), by first | exact Nat.le_of_ble_eq_true rfl | (simp only [rm]; omega) | (simp [rm, vI, vR, Value.category]; omega)⟩ se54 rfl rfl rfl (Nat.le_of_ble_eq_true rfl) dX6_dam_21 rfl (fun Ms hs => ?_)
    have hbs := sol_bd hC.2.1 D
    have hbl := sol_len hC.2.1 D
    have e2 : Ms 54 2 = (SOL (M 83) D).1 := hs.2.2.1.1
    have e0 : Ms 54 0 = (SOL (M 83) D).2.1 := hs.2.2.1.2.1
    have e1 : Ms 54 1 = (SOL (M 83) D).2.2.1 := hs.2.2.1.2.2.1
    refine j_aload_n (q := 25) F dX6_dam_24 rfl rfl 0 rfl ?_
    refine j_getR (q := 28) (z := 54) (index := 33) F wr0 rfl in_X6_dam_6 3 (by decide) rfl fl_X6_dam_33 dX6_dam_25 rfl ?_
    refine j_callVZ (q := 31) F [] (ct_X3_hasFound l X hX Ms ⟨by omega, by omega⟩) gX6_dam_X3_hasFound rfl cd_X3_hasFound ⟨by first | exact Nat.le_of_ble_eq_true rfl | (simp only [rm]; omega) | (simp [rm, vI, vR, Value.category]; omega), by first | exact Nat.le_of_ble_eq_true rfl | (simp only [rm]; omega) | (simp [rm, vI, vR, Value.category]; omega), by first | exact Nat.le_of_ble_eq_true rfl | (simp only [rm]; omega) | (simp [rm, vI, vR, Value.category]; omega), by first | exact Nat.le_of_ble_eq_true rfl | (simp only [rm]; omega) | (simp [rm, vI, vR, Value.category]; omega)⟩ se54 rfl rfl rfl (Nat.le_of_ble_eq_true rfl) dX6_dam_28 rfl (fun hf => ?_) (fun hf => ?_)
    · skip
      refine j_if_ne (q := 34) (tgt := 37) F dX6_dam_31 (by decide) rfl ⟨by decide, by decide⟩ (fun _ => ?_) (fun h => absurd h (by decide))
      refine j_aload_n (q := 38) F dX6_dam_37 rfl rfl 0 rfl ?_
      refine j_getR (q := 41) (z := 54) (index := 33) F wr0 rfl in_X6_dam_6 3 (by decide) rfl fl_X6_dam_33 dX6_dam_38 rfl ?_
      refine j_callVE (q := 44) F [] (ct_X3_bestChanged l X hX Ms (by omega)) gX6_dam_X3_bestChanged rfl cd_X3_bestChanged ⟨by first | exact Nat.le_of_ble_eq_true rfl | (simp only [rm]; omega) | (simp [rm, vI, vR, Value.category]; omega), by first | exact Nat.le_of_ble_eq_true rfl | (simp only [rm]; omega) | (simp [rm, vI, vR, Value.category]; omega), by first | exact Nat.le_of_ble_eq_true rfl | (simp only [rm]; omega) | (simp [rm, vI, vR, Value.category]; omega), by first | exact Nat.le_of_ble_eq_true rfl | (simp only [rm]; omega) | (simp [rm, vI, vR, Value.category]; omega)⟩ se54 rfl rfl rfl (Nat.le_of_ble_eq_true rfl) dX6_dam_41 rfl ?_
      refine j_istore_n (q := 45) (lv' := [(0, vR X 0), (1, vI D), (2, vI (Ms 54 2 / 100000))]) F dX6_dam_44 rfl rfl (by decide) rfl rfl ?_
      have hCs : CRel Ms Ms := by
        have hz : SM M Ms := ⟨hs.1 83 (by omega), hs.1 84 (by omega), hs.1 85 (by omega), by rw [hs.1 82 (by omega)], by rw [hs.1 82 (by omega)]⟩
        exact hs.crel hC rfl h1 hz
      refine j_aload_n (q := 46) F dX6_dam_45 rfl rfl 0 rfl ?_
      refine j_callVV (q := 49) F [] (ct_X6_beginChange l X hX Ms hCs) gX6_dam_X6_beginChange rfl cd_X6_beginChange ⟨by first | exact Nat.le_of_ble_eq_true rfl | (simp only [rm]; omega) | (simp [rm, vI, vR, Value.category]; omega), by first | exact Nat.le_of_ble_eq_true rfl | (simp only [rm]; omega) | (simp [rm, vI, vR, Value.category]; omega), by first | exact Nat.le_of_ble_eq_true rfl | (simp only [rm]; omega) | (simp [rm, vI, vR, Value.category]; omega), by first | exact Nat.le_of_ble_eq_true rfl | (simp only [rm]; omega) | (simp [rm, vI, vR, Value.category]; omega)⟩ wr0 rfl rfl rfl (Nat.le_of_ble_eq_true rfl) dX6_dam_46 rfl (fun Mb hb => ?_)
      have hRb := hb.rel hCs
      have bn : Mb 1 2 = Ms 83 0 := hRb.2.2.1
      have e83 : Ms 83 = M 83 := hs.1 83 (by omega)
      have hDs : DOK (Ms 83) := hCs.2.1
      have hn := hDs.1
      have hpath : PathOK (Ms 83) (SOL (M 83) D).2.2.2 (SOL (M 83) D).2.1 (Ms 83 0) (SOL (M 83) D).1 := by
        rw [e83]
        rcases sol_ok hC.2.1 D with ⟨z, -⟩ | z
        · omega
        · exact z
      refine j_aload_n (q := 50) F dX6_dam_49 rfl rfl 0 rfl ?_
      refine j_getR (q := 53) (z := 54) (index := 33) F wr0 rfl in_X6_dam_6 3 (by decide) rfl fl_X6_dam_33 dX6_dam_50 rfl ?_
      refine j_aload_n (q := 54) F dX6_dam_53 rfl rfl 0 rfl ?_
      refine j_getR (q := 57) (z := 1) (index := 10) F wr0 rfl in_X6_dam_6 0 (by decide) rfl fl_X6_dam_10 dX6_dam_54 rfl ?_
      refine j_callVV (q := 60) F [vR X 1] (ct_X3_divide l X hX Mb (SOL (M 83) D).2.2.2 (SOL (M 83) D).2.1 (by rw [hb.2.1 0 (by decide)]; exact e0) (fun k q0 q1 => by rw [hb.1 78 (by omega) (by decide)]; exact hs.2.2.1.2.2.2 k q0 q1) hbl hpath.2.1 (by rw [bn]; exact hpath.2.2.1) (by omega) (fun x y a b c => hpath.mono a b c)) gX6_dam_X3_divide rfl cd_X3_divide ⟨by first | exact Nat.le_of_ble_eq_true rfl | (simp only [rm]; omega) | (simp [rm, vI, vR, Value.category]; omega), by first | exact Nat.le_of_ble_eq_true rfl | (simp only [rm]; omega) | (simp [rm, vI, vR, Value.category]; omega), by first | exact Nat.le_of_ble_eq_true rfl | (simp only [rm]; omega) | (simp [rm, vI, vR, Value.category]; omega), by first | exact Nat.le_of_ble_eq_true rfl | (simp only [rm]; omega) | (simp [rm, vI, vR, Value.category]; omega)⟩ se54 rfl rfl rfl (Nat.le_of_ble_eq_true rfl) dX6_dam_57 rfl (fun Mv hv => ?_)
      refine j_iload_n (q := 61) F dX6_dam_60 rfl rfl 2 rfl ?_
      refine hret _ _ _ _ dX6_dam_61 ?_
      · refine ⟨fun q hq => by rw [hv.1 q (by omega), hb.fr q hq]; exact hs.1 q (by omega), fun r' N hO => ?_⟩
        rcases hO with ⟨q1, q2, q3⟩ | ⟨q1, q2, q3, q4⟩ | ⟨q1, q2, q3, q4, q5, q6⟩
        · exact absurd h1 q1
        · exfalso; omega
        · have e82 : Ms 82 = M 82 := hs.1 82 (by omega)
          have e84 : Ms 84 = M 84 := hs.1 84 (by omega)
          have e85 : Ms 85 = M 85 := hs.1 85 (by omega)
          have hk := dam_ok hRb hDs hpath hv (e := N 83) (by rw [e83]; exact q5)
          refine ⟨by rw [q6, ← e2], hCs.change hb (fun q g0 g1 => hv.1 q (by omega)) ?_ (by rw [e85]; exact q4.1) (by rw [e82]; exact q4.2) hk.1 hk.2⟩
          unfold RecP
          rw [e82, e83, e84]
          exact q3
    · skip
      refine j_if_ne (q := 34) (tgt := 37) F dX6_dam_31 (by decide) rfl ⟨by decide, by decide⟩ (fun h => absurd h (by decide)) (fun _ => ?_)
      refine j_bipush (q := 36) F dX6_dam_34 rfl (by decide) ?_
      refine hret _ _ _ _ dX6_dam_36 ?_
      · refine ⟨fun q hq => hs.1 q (by omega), fun r' N hO => ?_⟩
        rcases hO with ⟨q1, q2, q3⟩ | ⟨q1, q2, q3, q4⟩ | ⟨q1, q2, q3, q4, q5, q6⟩
        · exact absurd h1 q1
        · exact ⟨by omega, hs.crel hC rfl h1 q4⟩
        · exfalso; omega
  · skip
    refine j_if_ne (q := 10) (tgt := 12) F dX6_dam_7 (by decide) rfl ⟨by decide, by decide⟩ (fun h => absurd h (by decide)) (fun _ => ?_)
    refine j_iconst (q := 11) F dX6_dam_10 rfl ?_
    refine hret _ _ _ _ dX6_dam_11 ?_
    · refine ⟨fun _ _ => rfl, fun r' N hO => ?_⟩
      rcases hO with ⟨q1, q2, q3⟩ | ⟨q1, q2, q3, q4⟩ | ⟨q1, q2, q3, q4, q5, q6⟩
      · exact ⟨by omega, hC.same (fun _ _ => rfl) q3⟩
      · exfalso; have z1 := q1.1; have z2 := q1.2; omega
      · exfalso; have z1 := q1.1; have z2 := q1.2; omega