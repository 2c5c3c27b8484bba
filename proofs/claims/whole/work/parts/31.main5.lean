theorem fl_X6_leastRiver_10 : Cond.fieldLink RX6 10 "WhiteRivers" "page" "LWhiteRivers$Page;" ∈ wsX6_leastRiver := by decide +kernel
theorem fl_X6_leastRiver_33 : Cond.fieldLink RX6 33 "WhiteRivers" "search" "LWhiteRivers$Search;" ∈ wsX6_leastRiver := by decide +kernel
theorem in_X6_leastRiver_6 : ∀ w ∈ u_ws RX6 TX6 5, w ∈ wsX6_leastRiver := by decide +kernel
set_option maxRecDepth 100000 in
set_option maxHeartbeats 400000 in
theorem ct_X6_leastRiver (l : Launch) (X : Cx) (hX : Inj X) (M : Mem) (hC : CRel M M) : CtI l X yX6_leastRiver wsX6_leastRiver 32 [vR X 0] M (fun r M' => CPO M (Oleast M) r M') := by
  refine CtI_of (cc := cX6_leastRiver) (maxL := 2) hX (by decide +kernel) rfl (Nat.le_of_ble_eq_true rfl) ?_
  intro zp ze zs zm zargs zbelow zmeth zc zQ F hret
  show J zp l ze (rm 32) zs zm zargs zbelow zmeth zc 0 0 zQ zs.heap X 2 M 0 [(0, vR X 0)] []
  refine j_iconst (q := 1) F dX6_leastRiver_0 rfl ?_
  refine j_istore_n (q := 2) (lv' := [(0, vR X 0), (1, vI 1)]) F dX6_leastRiver_1 rfl rfl (by decide) rfl rfl ?_
  have LP2 : ∀ (nn : Nat) (D : Int) (Mq : Mem), (1 ≤ D) → (D ≤ 25) → (∀ q, q < 54 ∨ 78 < q → Mq q = M q) → (SRel Mq (M 83)) → (SBd Mq 62) → (∀ E, 1 ≤ E → E < D → (SOL (M 83) E).1 = 1000000000) → (25 - D).toNat < nn → J zp l ze (rm 32) zs zm zargs zbelow zmeth zc 0 0 zQ zs.heap X 2 Mq 2 [(0, vR X 0), (1, vI D)] [] := by
    intro nn
    induction nn with
    | zero => intro D Mq g0 g1 hfr hS hB hnf hm2; exact absurd hm2 (Nat.not_lt_zero _)
    | succ nn ih2 =>
      intro D Mq g0 g1 hfr hS hB hnf hm2
      refine j_iload_n (q := 3) F dX6_leastRiver_2 rfl rfl 1 rfl ?_
      refine j_bipush (q := 5) F dX6_leastRiver_3 rfl (by decide) ?_
      refine j_icmp_gt (q := 8) (tgt := 38) F dX6_leastRiver_5 (by decide) rfl ⟨by omega, by omega⟩ ⟨by decide, by decide⟩ (fun h5_1 => ?_) (fun h5_1 => ?_)
      · skip
        refine j_bipush (q := 40) F dX6_leastRiver_38 rfl (by decide) ?_
        refine hret _ _ _ _ dX6_leastRiver_40 ?_
        · refine ⟨fun q hq => hfr q (by omega), fun r' N hO => ?_⟩
          obtain ⟨qs, hO⟩ := hO
          refine ⟨?_, crel_search hfr hS hB hC qs⟩
          rcases hO with ⟨q1, q2, q3, q4⟩ | ⟨q1, q2⟩
          · have := hnf r' q1 (by omega); omega
          · omega
      · skip
        refine j_aload_n (q := 9) F dX6_leastRiver_8 rfl rfl 0 rfl ?_
        refine j_getR (q := 12) (z := 54) (index := 33) F wr0 rfl in_X6_leastRiver_6 3 (by decide) rfl fl_X6_leastRiver_33 dX6_leastRiver_9 rfl ?_
        refine j_aload_n (q := 13) F dX6_leastRiver_12 rfl rfl 0 rfl ?_
        refine j_getR (q := 16) (z := 1) (index := 10) F wr0 rfl in_X6_leastRiver_6 0 (by decide) rfl fl_X6_leastRiver_10 dX6_leastRiver_13 rfl ?_
        refine j_iload_n (q := 17) F dX6_leastRiver_16 rfl rfl 1 rfl ?_
        refine j_callVV (q := 20) F [vR X 1, vI D] (ct_X3_solve l X hX Mq (M 83) (hC.1.congr (hfr _ (by decide)) (hfr _ (by decide)) (hfr _ (by decide)) (hfr _ (by decide))) hC.2.1 D (by omega) hS hB) gX6_leastRiver_X3_solve rfl cd_X3_solve ⟨by first | exact Nat.le_of_ble_eq_true rfl | (simp only [rm]; omega) | (simp [rm, vI, vR, Value.category]; omega), by first | exact Nat.le_of_ble_eq_true rfl | (simp only [rm]; omega) | (simp [rm, vI, vR, Value.category]; omega), by first | exact Nat.le_of_ble_eq_true rfl | (simp only [rm]; omega) | (simp [rm, vI, vR, Value.category]; omega), by first | exact Nat.le_of_ble_eq_true rfl | (simp only [rm]; omega) | (simp [rm, vI, vR, Value.category]; omega)⟩ se54 rfl rfl rfl (Nat.le_of_ble_eq_true rfl) dX6_leastRiver_17 rfl (fun Ms hs => ?_)
        have hbs := sol_bd hC.2.1 D
        have e2 : Ms 54 2 = (SOL (M 83) D).1 := hs.2.2.1.1
        refine j_aload_n (q := 21) F dX6_leastRiver_20 rfl rfl 0 rfl ?_
        refine j_getR (q := 24) (z := 54) (index := 33) F wr0 rfl in_X6_leastRiver_6 3 (by decide) rfl fl_X6_leastRiver_33 dX6_leastRiver_21 rfl ?_
        refine j_callVZ (q := 27) F [] (ct_X3_hasFound l X hX Ms ⟨by omega, by omega⟩) gX6_leastRiver_X3_hasFound rfl cd_X3_hasFound ⟨by first | exact Nat.le_of_ble_eq_true rfl | (simp only [rm]; omega) | (simp [rm, vI, vR, Value.category]; omega), by first | exact Nat.le_of_ble_eq_true rfl | (simp only [rm]; omega) | (simp [rm, vI, vR, Value.category]; omega), by first | exact Nat.le_of_ble_eq_true rfl | (simp only [rm]; omega) | (simp [rm, vI, vR, Value.category]; omega), by first | exact Nat.le_of_ble_eq_true rfl | (simp only [rm]; omega) | (simp [rm, vI, vR, Value.category]; omega)⟩ se54 rfl rfl rfl (Nat.le_of_ble_eq_true rfl) dX6_leastRiver_24 rfl (fun hf => ?_) (fun hf => ?_)
        · skip
          refine j_if_eq (q := 30) (tgt := 32) F dX6_leastRiver_27 (by decide) rfl ⟨by decide, by decide⟩ (fun h => absurd h (by decide)) (fun _ => ?_)
          refine j_iload_n (q := 31) F dX6_leastRiver_30 rfl rfl 1 rfl ?_
          refine hret _ _ _ _ dX6_leastRiver_31 ?_
          · refine ⟨fun q hq => by rw [hs.1 q (by omega)]; exact hfr q (by omega), fun r' N hO => ?_⟩
            obtain ⟨qs, hO⟩ := hO
            refine ⟨?_, crel_search (fun q g => by rw [hs.1 q g]; exact hfr q g) (hs.srel (by omega)) hs.2.2.2 hC qs⟩
            rcases hO with ⟨q1, q2, q3, q4⟩ | ⟨q1, q2⟩
            · by_cases z1 : r' < D
              · have := hnf r' q1 z1; omega
              · by_cases z2 : D < r'
                · have := q4 D g0 z2; omega
                · omega
            · have := q2 D g0 (by omega); omega
        · skip
          refine j_if_eq (q := 30) (tgt := 32) F dX6_leastRiver_27 (by decide) rfl ⟨by decide, by decide⟩ (fun _ => ?_) (fun h => absurd h (by decide))
          refine j_iinc (q := 35) (lv' := [(0, vR X 0), (1, vI (D + 1))]) F dX6_leastRiver_32 rfl 1 rfl (by decide) rfl rfl ?_
          refine j_goto (q := 2) F dX6_leastRiver_35 (by decide) ?_
          refine ih2 (D + 1) Ms (by omega) (by omega) (by exact fun q g => by rw [hs.1 q g]; exact hfr q g) (by exact hs.srel (by omega)) (by exact hs.2.2.2) ?_ (by omega)
          · intro E q0 q1; by_cases hE : E = D
            · rw [hE]; omega
            · exact hnf E q0 (by omega)
  exact LP2 _ 1 M (by omega) (by omega) (by exact fun _ _ => rfl) (by exact hC.2.2.2.2.1) (by exact hC.2.2.2.2.2.2) (by intro E q0 q1; omega) (by exact Nat.lt_succ_self _)
theorem fl_X3_divide_54 : Cond.fieldLink RX3 54 "WhiteRivers$Search" "best" "LWhiteRivers$Row;" ∈ wsX3_divide := by decide +kernel
theorem fl_X3_divide_9 : Cond.fieldLink RX3 9 "WhiteRivers$Search" "bestLines" "I" ∈ wsX3_divide := by decide +kernel
theorem in_X3_divide_3 : ∀ w ∈ u_ws RX3 TX3 10, w ∈ wsX3_divide := by decide +kernel
set_option maxRecDepth 100000 in
set_option maxHeartbeats 400000 in
theorem ct_X3_divide (l : Launch) (X : Cx) (hX : Inj X) (M : Mem) (Q : Int → Int) (m : Int) (h0 : M 54 0 = m) (hb : ∀ k, 0 ≤ k → k < m → M 78 k = Q (k + 1) - Q k) (hm : 0 ≤ m ∧ m ≤ 24) (hQ0 : Q 0 = 0) (hQm : Q m = M 1 2) (hn : M 1 2 ≤ 24) (hmono : ∀ x y, 0 ≤ x → x ≤ y → y ≤ m → Q x + (y - x) ≤ Q y) : CtV l X yX3_divide wsX3_divide 2 [vR X 54, vR X 1] M (fun M' => DivP M M' Q m) := by
  refine CtV_of (cc := cX3_divide) (maxL := 4) hX (by decide +kernel) rfl (Nat.le_of_ble_eq_true rfl) ?_
  intro zp ze zs zm zargs zbelow zmeth zc zQ F hret
  show J zp l ze (rm 2) zs zm zargs zbelow zmeth zc 0 0 zQ zs.heap X 4 M 0 [(0, vR X 54), (1, vR X 1)] []
  refine j_aload_n (q := 1) F dX3_divide_0 rfl rfl 1 rfl ?_
  refine j_callVM (q := 4) F [] (ct_X1_joinAll l X hX M 1 (pg1)) gX3_divide_X1_joinAll rfl cd_X1_joinAll ⟨by first | exact Nat.le_of_ble_eq_true rfl | (simp only [rm]; omega) | (simp [rm, vI, vR, Value.category]; omega), by first | exact Nat.le_of_ble_eq_true rfl | (simp only [rm]; omega) | (simp [rm, vI, vR, Value.category]; omega), by first | exact Nat.le_of_ble_eq_true rfl | (simp only [rm]; omega) | (simp [rm, vI, vR, Value.category]; omega), by first | exact Nat.le_of_ble_eq_true rfl | (simp only [rm]; omega) | (simp [rm, vI, vR, Value.category]; omega)⟩ (pg1).1 rfl rfl rfl (Nat.le_of_ble_eq_true rfl) dX3_divide_1 rfl ?_
  refine j_iconst (q := 5) F dX3_divide_4 rfl ?_
  refine j_istore_n (q := 6) (lv' := [(0, vR X 54), (1, vR X 1), (2, vI 0)]) F dX3_divide_5 rfl rfl (by decide) rfl rfl ?_
  refine j_iconst (q := 7) F dX3_divide_6 rfl ?_
  refine j_istore_n (q := 8) (lv' := [(0, vR X 54), (1, vR X 1), (2, vI 0), (3, vI 0)]) F dX3_divide_7 rfl rfl (by decide) rfl rfl ?_
  have LP8 : ∀ (nn : Nat) (f k : Int) (Mq : Mem), (0 ≤ k) → (k ≤ m) → (f = Q k) → (∀ q, q ≠ 5 → Mq q = M q) → (∀ j, 0 ≤ j → j < k → Mq 5 (Q j) = 1) → (∀ w, 0 ≤ w → w < 24 → (∀ j, 0 ≤ j → j < k → Q j ≠ w) → Mq 5 w = 0) → (m - k).toNat < nn → J zp l ze (rm 2) zs zm zargs zbelow zmeth zc 0 0 zQ zs.heap X 4 Mq 8 [(0, vR X 54), (1, vR X 1), (2, vI f), (3, vI k)] [] := by
    intro nn
    induction nn with
    | zero => intro f k Mq g0 g1 hfq hfr ho1 hz0 hm8; exact absurd hm8 (Nat.not_lt_zero _)
    | succ nn ih8 =>
      intro f k Mq g0 g1 hfq hfr ho1 hz0 hm8
      refine j_iload_n (q := 9) F dX3_divide_8 rfl rfl 3 rfl ?_
      refine j_aload_n (q := 10) F dX3_divide_9 rfl rfl 0 rfl ?_
      refine j_getI (q := 13) (i := 0) (index := 9) F se54 rfl in_X3_divide_3 0 (by decide) rfl rfl fl_X3_divide_9 dX3_divide_10 rfl ?_
      rw [show Mq 54 0 = m from by rw [hfr 54 (by decide)]; exact h0]
      refine j_icmp_ge (q := 16) (tgt := 38) F dX3_divide_13 (by decide) rfl ⟨by omega, by omega⟩ ⟨by omega, by omega⟩ (fun h13_2 => ?_) (fun h13_2 => ?_)
      · skip
        refine hret _ _ _ dX3_divide_38 ?_
        · have hkm : k = m := by omega
          subst hkm
          exact ⟨hfr, ho1, hz0⟩
      · skip
        have hk1 := hmono k m g0 (by omega) (by omega)
        have hk0 := hmono 0 k (by omega) g0 (by omega)
        have e12 : Mq 1 2 = M 1 2 := by rw [hfr 1 (by decide)]
        refine j_aload_n (q := 17) F dX3_divide_16 rfl rfl 1 rfl ?_
        refine j_iload_n (q := 18) F dX3_divide_17 rfl rfl 2 rfl ?_
        refine j_callVM (q := 21) F [vI f] (ct_X1_begin_in l X hX Mq 1 (pg1) (by omega) f (by omega) (by omega)) gX3_divide_X1_begin rfl cd_X1_begin ⟨by first | exact Nat.le_of_ble_eq_true rfl | (simp only [rm]; omega) | (simp [rm, vI, vR, Value.category]; omega), by first | exact Nat.le_of_ble_eq_true rfl | (simp only [rm]; omega) | (simp [rm, vI, vR, Value.category]; omega), by first | exact Nat.le_of_ble_eq_true rfl | (simp only [rm]; omega) | (simp [rm, vI, vR, Value.category]; omega), by first | exact Nat.le_of_ble_eq_true rfl | (simp only [rm]; omega) | (simp [rm, vI, vR, Value.category]; omega)⟩ (pg1).1 rfl rfl rfl (Nat.le_of_ble_eq_true rfl) dX3_divide_18 rfl ?_
        refine j_iload_n (q := 22) F dX3_divide_21 rfl rfl 2 rfl ?_
        refine j_aload_n (q := 23) F dX3_divide_22 rfl rfl 0 rfl ?_
        refine j_getR (q := 26) (z := 77) (index := 54) F se54 rfl in_X3_divide_3 9 (by decide) rfl fl_X3_divide_54 dX3_divide_23 rfl ?_
        refine j_iload_n (q := 27) F dX3_divide_26 rfl rfl 3 rfl ?_
        refine j_callVE (q := 30) F [vI k] (ct_X2_get_in l X hX (mset Mq 5 f 1) 77 24 78 (rw77) (by decide) rfl k (by omega) (by omega)) gX3_divide_X2_get rfl cd_X2_get ⟨by first | exact Nat.le_of_ble_eq_true rfl | (simp only [rm]; omega) | (simp [rm, vI, vR, Value.category]; omega), by first | exact Nat.le_of_ble_eq_true rfl | (simp only [rm]; omega) | (simp [rm, vI, vR, Value.category]; omega), by first | exact Nat.le_of_ble_eq_true rfl | (simp only [rm]; omega) | (simp [rm, vI, vR, Value.category]; omega), by first | exact Nat.le_of_ble_eq_true rfl | (simp only [rm]; omega) | (simp [rm, vI, vR, Value.category]; omega)⟩ (rw77).1 rfl rfl rfl (Nat.le_of_ble_eq_true rfl) dX3_divide_27 rfl ?_
        rw [show (mset Mq 5 f 1) 78 k = Q (k + 1) - Q k from by rw [mset_nef (by decide), hfr 78 (by decide)]; exact hb k g0 (by omega)]
        refine j_iadd (q := 31) (z := f + (Q (k + 1) - Q k)) F dX3_divide_30 rfl rfl ?_
        refine j_istore_n (q := 32) (lv' := [(0, vR X 54), (1, vR X 1), (2, vI (f + (Q (k + 1) - Q k))), (3, vI k)]) F dX3_divide_31 rfl rfl (by decide) rfl rfl ?_
        refine j_iinc (q := 35) (lv' := [(0, vR X 54), (1, vR X 1), (2, vI (f + (Q (k + 1) - Q k))), (3, vI (k + 1))]) F dX3_divide_32 rfl 3 rfl (by decide) rfl rfl ?_
        refine j_goto (q := 8) F dX3_divide_35 (by decide) ?_
        refine ih8 (f + (Q (k + 1) - Q k)) (k + 1) (mset Mq 5 f 1) (by omega) (by omega) (by omega) (by exact fun q hq => by rw [mset_nef hq]; exact hfr q hq) ?_ ?_ (by omega)
        · intro j q0 q1; rw [mset_if]
          by_cases hj : j = k
          · rw [hj, hfq, if_pos rfl]
          · have := hmono j k q0 (by omega) (by omega)
            rw [if_neg (by omega)]; exact ho1 j q0 (by omega)
        · intro w q0 q1 q2; have q3 := q2 k g0 (by omega)
          rw [mset_if, if_neg (by omega)]
          exact hz0 w q0 q1 (fun j z0 z1 => q2 j z0 (by omega))
  exact LP8 _ 0 0 (mclr M 5 24) (by omega) (by omega) (by exact hQ0.symm) (by exact fun q hq => mclr_ne hq) (by intro j q0 q1; omega) (by exact fun w q0 q1 _ => mclr_in q0 (by omega)) (by exact Nat.lt_succ_self _)
theorem cd_X3_divide : yX3_divide.cls = RX3 ∧ yX3_divide.cls ≠ "java/lang/invoke/MethodHandle" ∧ yX3_divide.cls ≠ "java/lang/invoke/VarHandle" ∧ (parseMethodDescriptor yX3_divide.desc).map (fun d => d.parameters.length) = some 1 := by decide +kernel
theorem fl_X6_dam_10 : Cond.fieldLink RX6 10 "WhiteRivers" "page" "LWhiteRivers$Page;" ∈ wsX6_dam := by decide +kernel
theorem fl_X6_dam_33 : Cond.fieldLink RX6 33 "WhiteRivers" "search" "LWhiteRivers$Search;" ∈ wsX6_dam := by decide +kernel
theorem in_X6_dam_6 : ∀ w ∈ u_ws RX6 TX6 5, w ∈ wsX6_dam := by decide +kernel
set_option maxRecDepth 100000 in
set_option maxHeartbeats 400000 in
theorem ct_X6_dam (l : Launch) (X : Cx) (hX : Inj X) (M : Mem) (hC : CRel M M) (D : Int) (hD0 : inR D) : CtI l X yX6_dam wsX6_dam 32 [vR X 0, vI D] M (fun r M' => CPO M (Odam M D) r M') := by
  refine CtI_of (cc := cX6_dam) (maxL := 3) hX (by decide +kernel) rfl (Nat.le_of_ble_eq_true rfl) ?_
  intro zp ze zs zm zargs zbelow zmeth zc zQ F hret
  show J zp l ze (rm 32) zs zm zargs zbelow zmeth zc 0 0 zQ zs.heap X 3 M 0 [(0, vR X 0), (1, vI D)] []
  obtain ⟨hD1, hD2⟩ := hD0
  refine j_iload_n (q := 1) F dX6_dam_0 rfl rfl 1 rfl ?_
  refine j_iconst (q := 2) F dX6_dam_1 rfl ?_
  refine j_bipush (q := 4) F dX6_dam_2 rfl (by decide) ?_
  refine j_callSZ (q := 7) F [vI D, vI 1, vI 24] (ct_X6_isWithin l X hX M D 1 24 ⟨by omega, by omega⟩ ⟨by omega, by omega⟩ ⟨by omega, by omega⟩) gX6_dam_X6_isWithin rfl cd_X6_isWithin ⟨by first | exact Nat.le_of_ble_eq_true rfl | (simp only [rm]; omega) | (simp [rm, vI, vR, Value.category]; omega), by first | exact Nat.le_of_ble_eq_true rfl | (simp only [rm]; omega) | (simp [rm, vI, vR, Value.category]; omega), by first | exact Nat.le_of_ble_eq_true rfl | (simp only [rm]; omega) | (simp [rm, vI, vR, Value.category]; omega), by first | exact Nat.le_of_ble_eq_true rfl | (simp only [rm]; omega) | (simp [rm, vI, vR, Value.category]; omega)⟩ rfl rfl (Nat.le_of_ble_eq_true rfl) dX6_dam_4 rfl (fun h1 => ?_) (fun h1 => ?_)
  · skip
    refine j_if_ne (q := 10) (tgt := 12) F dX6_dam_7 (by decide) rfl ⟨by decide, by decide⟩ (fun _ => ?_) (fun h => absurd h (by decide))
    refine j_aload_n (q := 13) F dX6_dam_12 rfl rfl 0 rfl ?_
    refine j_getR (q := 16) (z := 54) (index := 33) F wr0 rfl in_X6_dam_6 3 (by decide) rfl fl_X6_dam_33 dX6_dam_13 rfl ?_
    refine j_aload_n (q := 17) F dX6_dam_16 rfl rfl 0 rfl ?_
    refine j_getR (q := 20) (z := 1) (index := 10) F wr0 rfl in_X6_dam_6 0 (by decide) rfl fl_X6_dam_10 dX6_dam_17 rfl ?_
    refine j_iload_n (q := 21) F dX6_dam_20 rfl rfl 1 rfl ?_
    refine j_callVV (q := 24) F [vR X 1, vI D] (ct_X3_solve l X hX M (M 83) hC.1 hC.2.1 D (by omega) hC.2.2.2.2.1 hC.2.2.2.2.2.2) gX6_dam_X3_solve rfl cd_X3_solve ⟨by first | exact Nat.le_of_ble_eq_true rfl | (simp only [rm]; omega) | (simp [rm, vI, vR, Value.category]; omega), by first | exact Nat.le_of_ble_eq_true rfl | (simp only [rm]; omega) | (simp [rm, vI, vR, Value.category]; omega), by first | exact Nat.le_of_ble_eq_true rfl | (simp only [rm]; omega) | (simp [rm, vI, vR, Value.category]; omega), by first | exact Nat.le_of_ble_eq_true rfl | (simp only [rm]; omega) | (simp [rm, vI, vR, Value.category]; omega)⟩ se54 rfl rfl rfl (Nat.le_of_ble_eq_true rfl) dX6_dam_21 rfl (fun Ms hs => ?_)
    have hbs := sol_bd hC.2.1 D
    have hbl := sol_len hC.2.1 D
    have e2 : Ms 54 2 = (SOL (M 83) D).1 := hs.2.2.1.1
    have e0 : Ms 54 0 = (SOL (M 83) D).2.1 := hs.2.2.1.2.1
    have e1 : Ms 54 1 = (SOL (M 83) D).2.2.1 := hs.2.2.1.2.2.1
    refine j_aload_n (q := 25) F dX6_dam_24 rfl rfl 0 rfl ?_
    refine j_getR (q := 28) (z := 54) (index := 33) F wr0 rfl in_X6_dam_6 3 (by decide) rfl fl_X6_dam_33 dX6_dam_25 rfl ?_
    refine j_callVZ (q := 31) F [] (ct_X3_hasFound l X hX Ms ⟨by omega, by omega⟩) gX6_dam_X3_hasFound rfl cd_X3_hasFound ⟨by first | exact Nat.le_of_ble_eq_true rfl | (simp only [rm]; omega) | (simp [rm, vI, vR, Value.category]; omega), by first | exact Nat.le_of_ble_eq_true rfl | (simp only [rm]; omega) | (simp [rm, vI, vR, Value.category]; omega), by first | exact Nat.le_of_ble_eq_true rfl | (simp only [rm]; omega) | (simp [rm, vI, vR, Value.category]; omega), by first | exact Nat.le_of_ble_eq_true rfl | (simp only [rm]; omega) | (simp [rm, vI, vR, Value.category]; omega)⟩ se54 rfl rfl rfl (Nat.le_of_ble_eq_true rfl) dX6_dam_28 rfl (fun hf => ?_) (fun hf => ?_)
    · skip
      refine j_if_ne (q := 34) (tgt := 37) F dX6_dam_31 (by decide) rfl ⟨by decide, by decide⟩ (fun _ => ?_) (fun h => absurd h (by decide))
      refine j_aload_n (q := 38) F dX6_dam_37 rfl rfl 0 rfl ?_
      refine j_getR (q := 41) (z := 54) (index := 33) F wr0 rfl in_X6_dam_6 3 (by decide) rfl fl_X6_dam_33 dX6_dam_38 rfl ?_
      refine j_callVE (q := 44) F [] (ct_X3_bestChanged l X hX Ms (by omega)) gX6_dam_X3_bestChanged rfl cd_X3_bestChanged ⟨by first | exact Nat.le_of_ble_eq_true rfl | (simp only [rm]; omega) | (simp [rm, vI, vR, Value.category]; omega), by first | exact Nat.le_of_ble_eq_true rfl | (simp only [rm]; omega) | (simp [rm, vI, vR, Value.category]; omega), by first | exact Nat.le_of_ble_eq_true rfl | (simp only [rm]; omega) | (simp [rm, vI, vR, Value.category]; omega), by first | exact Nat.le_of_ble_eq_true rfl | (simp only [rm]; omega) | (simp [rm, vI, vR, Value.category]; omega)⟩ se54 rfl rfl rfl (Nat.le_of_ble_eq_true rfl) dX6_dam_41 rfl ?_
      refine j_istore_n (q := 45) (lv' := [(0, vR X 0), (1, vI D), (2, vI (Ms 54 2 / 100000))]) F dX6_dam_44 rfl rfl (by decide) rfl rfl ?_
      have hCs : CRel Ms Ms := by
        have hz : SM M Ms := ⟨hs.1 83 (by omega), hs.1 84 (by omega), hs.1 85 (by omega), by rw [hs.1 82 (by omega)], by rw [hs.1 82 (by omega)]⟩
        exact hs.crel hC rfl h1 hz
      refine j_aload_n (q := 46) F dX6_dam_45 rfl rfl 0 rfl ?_
      refine j_callVV (q := 49) F [] (ct_X6_beginChange l X hX Ms hCs) gX6_dam_X6_beginChange rfl cd_X6_beginChange ⟨by first | exact Nat.le_of_ble_eq_true rfl | (simp only [rm]; omega) | (simp [rm, vI, vR, Value.category]; omega), by first | exact Nat.le_of_ble_eq_true rfl | (simp only [rm]; omega) | (simp [rm, vI, vR, Value.category]; omega), by first | exact Nat.le_of_ble_eq_true rfl | (simp only [rm]; omega) | (simp [rm, vI, vR, Value.category]; omega), by first | exact Nat.le_of_ble_eq_true rfl | (simp only [rm]; omega) | (simp [rm, vI, vR, Value.category]; omega)⟩ wr0 rfl rfl rfl (Nat.le_of_ble_eq_true rfl) dX6_dam_46 rfl (fun Mb hb => ?_)
      have hRb := hb.rel hCs
      have bn : Mb 1 2 = Ms 83 0 := hRb.2.2.1
      have e83 : Ms 83 = M 83 := hs.1 83 (by omega)
      have hDs : DOK (Ms 83) := hCs.2.1
      have hn := hDs.1
      have hpath : PathOK (Ms 83) (SOL (M 83) D).2.2.2 (SOL (M 83) D).2.1 (Ms 83 0) (SOL (M 83) D).1 := by
        rw [e83]
        rcases sol_ok hC.2.1 D with ⟨z, -⟩ | z
        · omega
        · exact z
      refine j_aload_n (q := 50) F dX6_dam_49 rfl rfl 0 rfl ?_
      refine j_getR (q := 53) (z := 54) (index := 33) F wr0 rfl in_X6_dam_6 3 (by decide) rfl fl_X6_dam_33 dX6_dam_50 rfl ?_
      refine j_aload_n (q := 54) F dX6_dam_53 rfl rfl 0 rfl ?_
      refine j_getR (q := 57) (z := 1) (index := 10) F wr0 rfl in_X6_dam_6 0 (by decide) rfl fl_X6_dam_10 dX6_dam_54 rfl ?_
      refine j_callVV (q := 60) F [vR X 1] (ct_X3_divide l X hX Mb (SOL (M 83) D).2.2.2 (SOL (M 83) D).2.1 (by rw [hb.2.1 0 (by decide)]; exact e0) (fun k q0 q1 => by rw [hb.1 78 (by omega) (by decide)]; exact hs.2.2.1.2.2.2 k q0 q1) hbl hpath.2.1 (by rw [bn]; exact hpath.2.2.1) (by omega) (fun x y a b c => hpath.mono a b c)) gX6_dam_X3_divide rfl cd_X3_divide ⟨by first | exact Nat.le_of_ble_eq_true rfl | (simp only [rm]; omega) | (simp [rm, vI, vR, Value.category]; omega), by first | exact Nat.le_of_ble_eq_true rfl | (simp only [rm]; omega) | (simp [rm, vI, vR, Value.category]; omega), by first | exact Nat.le_of_ble_eq_true rfl | (simp only [rm]; omega) | (simp [rm, vI, vR, Value.category]; omega), by first | exact Nat.le_of_ble_eq_true rfl | (simp only [rm]; omega) | (simp [rm, vI, vR, Value.category]; omega)⟩ se54 rfl rfl rfl (Nat.le_of_ble_eq_true rfl) dX6_dam_57 rfl (fun Mv hv => ?_)
      refine j_iload_n (q := 61) F dX6_dam_60 rfl rfl 2 rfl ?_
      refine hret _ _ _ _ dX6_dam_61 ?_
      · refine ⟨fun q hq => by rw [hv.1 q (by omega), hb.fr q hq]; exact hs.1 q (by omega), fun r' N hO => ?_⟩
        rcases hO with ⟨q1, q2, q3⟩ | ⟨q1, q2, q3, q4⟩ | ⟨q1, q2, q3, q4, q5, q6⟩
        · exact absurd h1 q1
        · exfalso; omega
        · have e82 : Ms 82 = M 82 := hs.1 82 (by omega)
          have e84 : Ms 84 = M 84 := hs.1 84 (by omega)
          have e85 : Ms 85 = M 85 := hs.1 85 (by omega)
          have hk := dam_ok hRb hDs hpath hv (e := N 83) (by rw [e83]; exact q5)
          refine ⟨by rw [q6, ← e2], hCs.change hb (fun q g0 g1 => hv.1 q (by omega)) ?_ (by rw [e85]; exact q4.1) (by rw [e82]; exact q4.2) hk.1 hk.2⟩
          unfold RecP
          rw [e82, e83, e84]
          exact q3
    · skip
      refine j_if_ne (q := 34) (tgt := 37) F dX6_dam_31 (by decide) rfl ⟨by decide, by decide⟩ (fun h => absurd h (by decide)) (fun _ => ?_)
      refine j_bipush (q := 36) F dX6_dam_34 rfl (by decide) ?_
      refine hret _ _ _ _ dX6_dam_36 ?_
      · refine ⟨fun q hq => hs.1 q (by omega), fun r' N hO => ?_⟩
        rcases hO with ⟨q1, q2, q3⟩ | ⟨q1, q2, q3, q4⟩ | ⟨q1, q2, q3, q4, q5, q6⟩
        · exact absurd h1 q1
        · exact ⟨by omega, hs.crel hC rfl h1 q4⟩
        · exfalso; omega
  · skip
    refine j_if_ne (q := 10) (tgt := 12) F dX6_dam_7 (by decide) rfl ⟨by decide, by decide⟩ (fun h => absurd h (by decide)) (fun _ => ?_)
    refine j_iconst (q := 11) F dX6_dam_10 rfl ?_
    refine hret _ _ _ _ dX6_dam_11 ?_
    · refine ⟨fun _ _ => rfl, fun r' N hO => ?_⟩
      rcases hO with ⟨q1, q2, q3⟩ | ⟨q1, q2, q3, q4⟩ | ⟨q1, q2, q3, q4, q5, q6⟩
      · exact ⟨by omega, hC.same (fun _ _ => rfl) q3⟩
      · exfalso; have z1 := q1.1; have z2 := q1.2; omega
      · exfalso; have z1 := q1.1; have z2 := q1.2; omega
theorem cd_X5_append : yX5_append.cls = RX5 ∧ yX5_append.cls ≠ "java/lang/invoke/MethodHandle" ∧ yX5_append.cls ≠ "java/lang/invoke/VarHandle" ∧ (parseMethodDescriptor yX5_append.desc).map (fun d => d.parameters.length) = some 1 := by decide +kernel
theorem fl_X6_type_124 : Cond.fieldLink RX6 124 "WhiteRivers$Text" "length" "I" ∈ wsX6_type := by decide +kernel
theorem fl_X6_type_40 : Cond.fieldLink RX6 40 "WhiteRivers" "text" "LWhiteRivers$Text;" ∈ wsX6_type := by decide +kernel
theorem in_X6_type_5 : ∀ w ∈ u_ws RX5 TX5 2, w ∈ wsX6_type := by decide +kernel
theorem in_X6_type_6 : ∀ w ∈ u_ws RX6 TX6 5, w ∈ wsX6_type := by decide +kernel
set_option maxRecDepth 100000 in
set_option maxHeartbeats 400000 in
theorem ct_X6_type (l : Launch) (X : Cx) (hX : Inj X) (M : Mem) (hC : CRel M M) (v : Int) (hv0 : inR v) : CtI l X yX6_type wsX6_type 2 [vR X 0, vI v] M (fun r M' => CPO M (Otype M v) r M') := by
  refine CtI_of (cc := cX6_type) (maxL := 2) hX (by decide +kernel) rfl (Nat.le_of_ble_eq_true rfl) ?_
  intro zp ze zs zm zargs zbelow zmeth zc zQ F hret
  show J zp l ze (rm 2) zs zm zargs zbelow zmeth zc 0 0 zQ zs.heap X 2 M 0 [(0, vR X 0), (1, vI v)] []
  obtain ⟨hv1, hv2⟩ := hv0
  have ht0 := hC.2.2.2.1.1
  have ht1 := hC.2.2.2.1.2.1
  have ht2 := hC.2.2.2.1.2.2.1
  refine j_iload_n (q := 1) F dX6_type_0 rfl rfl 1 rfl ?_
  refine j_bipush (q := 3) F dX6_type_1 rfl (by decide) ?_
  refine j_bipush (q := 5) F dX6_type_3 rfl (by decide) ?_
  refine j_callSZ (q := 8) F [vI v, vI 32, vI 126] (ct_X6_isWithin l X hX M v 32 126 ⟨by omega, by omega⟩ ⟨by omega, by omega⟩ ⟨by omega, by omega⟩) gX6_type_X6_isWithin rfl cd_X6_isWithin ⟨by first | exact Nat.le_of_ble_eq_true rfl | (simp only [rm]; omega) | (simp [rm, vI, vR, Value.category]; omega), by first | exact Nat.le_of_ble_eq_true rfl | (simp only [rm]; omega) | (simp [rm, vI, vR, Value.category]; omega), by first | exact Nat.le_of_ble_eq_true rfl | (simp only [rm]; omega) | (simp [rm, vI, vR, Value.category]; omega), by first | exact Nat.le_of_ble_eq_true rfl | (simp only [rm]; omega) | (simp [rm, vI, vR, Value.category]; omega)⟩ rfl rfl (Nat.le_of_ble_eq_true rfl) dX6_type_5 rfl (fun h1 => ?_) (fun h1 => ?_)
  · skip
    refine j_if_ne (q := 11) (tgt := 13) F dX6_type_8 (by decide) rfl ⟨by decide, by decide⟩ (fun _ => ?_) (fun h => absurd h (by decide))
    refine j_aload_n (q := 14) F dX6_type_13 rfl rfl 0 rfl ?_
    refine j_getR (q := 17) (z := 79) (index := 40) F wr0 rfl in_X6_type_6 4 (by decide) rfl fl_X6_type_40 dX6_type_14 rfl ?_
    refine j_getI (q := 20) (i := 0) (index := 124) F tx79 rfl in_X6_type_5 0 (by decide) rfl rfl fl_X6_type_124 dX6_type_17 rfl ?_
    refine j_bipush (q := 22) F dX6_type_20 rfl (by decide) ?_
    refine j_icmp_lt (q := 25) (tgt := 28) F dX6_type_22 (by decide) rfl ⟨by omega, by omega⟩ ⟨by decide, by decide⟩ (fun h22_2 => ?_) (fun h22_2 => ?_)
    · skip
      refine j_aload_n (q := 29) F dX6_type_28 rfl rfl 0 rfl ?_
      refine j_getR (q := 32) (z := 79) (index := 40) F wr0 rfl in_X6_type_6 4 (by decide) rfl fl_X6_type_40 dX6_type_29 rfl ?_
      refine j_iload_n (q := 33) F dX6_type_32 rfl rfl 1 rfl ?_
      refine j_callVM (q := 36) F [vI v] (ct_X5_append l X hX M (by omega) v) gX6_type_X5_append rfl cd_X5_append ⟨by first | exact Nat.le_of_ble_eq_true rfl | (simp only [rm]; omega) | (simp [rm, vI, vR, Value.category]; omega), by first | exact Nat.le_of_ble_eq_true rfl | (simp only [rm]; omega) | (simp [rm, vI, vR, Value.category]; omega), by first | exact Nat.le_of_ble_eq_true rfl | (simp only [rm]; omega) | (simp [rm, vI, vR, Value.category]; omega), by first | exact Nat.le_of_ble_eq_true rfl | (simp only [rm]; omega) | (simp [rm, vI, vR, Value.category]; omega)⟩ tx79 rfl rfl rfl (Nat.le_of_ble_eq_true rfl) dX6_type_33 rfl ?_
      refine j_aload_n (q := 37) F dX6_type_36 rfl rfl 0 rfl ?_
      refine j_getR (q := 40) (z := 79) (index := 40) F wr0 rfl in_X6_type_6 4 (by decide) rfl fl_X6_type_40 dX6_type_37 rfl ?_
      refine j_getI (q := 43) (i := 0) (index := 124) F tx79 rfl in_X6_type_5 0 (by decide) rfl rfl fl_X6_type_124 dX6_type_40 rfl ?_
      rw [show (mset (mset M 81 (M 79 0) v) 79 0 (M 79 0 + 1)) 79 0 = M 79 0 + 1 from by simp [mset]]
      refine hret _ _ _ _ dX6_type_43 ?_
      · refine ⟨fun q hq => by rw [mset_nef (by omega), mset_nef (by omega)], fun r' N hO => ?_⟩
        rcases hO with ⟨q1, q2, q3⟩ | ⟨q1, q2, q3, q4⟩ | ⟨q1, q2, q3, q4, q5, q6⟩
        · exfalso; omega
        · exfalso; omega
        · exact ⟨by omega, type_crel hC q1 q2 q3 q4 q5⟩
    · skip
      refine j_bipush (q := 27) F dX6_type_25 rfl (by decide) ?_
      refine hret _ _ _ _ dX6_type_27 ?_
      · refine ⟨fun _ _ => rfl, fun r' N hO => ?_⟩
        rcases hO with ⟨q1, q2, q3⟩ | ⟨q1, q2, q3, q4⟩ | ⟨q1, q2, q3, q4, q5, q6⟩
        · exfalso; omega
        · exact ⟨by omega, hC.same (fun _ _ => rfl) q4⟩
        · exfalso; omega
  · skip
    refine j_if_ne (q := 11) (tgt := 13) F dX6_type_8 (by decide) rfl ⟨by decide, by decide⟩ (fun h => absurd h (by decide)) (fun _ => ?_)
    refine j_iconst (q := 12) F dX6_type_11 rfl ?_
    refine hret _ _ _ _ dX6_type_12 ?_
    · refine ⟨fun _ _ => rfl, fun r' N hO => ?_⟩
      rcases hO with ⟨q1, q2, q3⟩ | ⟨q1, q2, q3, q4⟩ | ⟨q1, q2, q3, q4, q5, q6⟩
      · exact ⟨by omega, hC.same (fun _ _ => rfl) q3⟩
      · exfalso; omega
      · exfalso; omega
theorem fl_X6_clearText_124 : Cond.fieldLink RX6 124 "WhiteRivers$Text" "length" "I" ∈ wsX6_clearText := by decide +kernel
theorem fl_X6_clearText_40 : Cond.fieldLink RX6 40 "WhiteRivers" "text" "LWhiteRivers$Text;" ∈ wsX6_clearText := by decide +kernel
theorem in_X6_clearText_5 : ∀ w ∈ u_ws RX5 TX5 2, w ∈ wsX6_clearText := by decide +kernel
theorem in_X6_clearText_6 : ∀ w ∈ u_ws RX6 TX6 5, w ∈ wsX6_clearText := by decide +kernel
set_option maxRecDepth 100000 in
set_option maxHeartbeats 400000 in
theorem ct_X6_clearText (l : Launch) (X : Cx) (hX : Inj X) (M : Mem) (hC : CRel M M) : CtI l X yX6_clearText wsX6_clearText 0 [vR X 0] M (fun r M' => CPO M (Oclear M) r M') := by
  refine CtI_of (cc := cX6_clearText) (maxL := 2) hX (by decide +kernel) rfl (Nat.le_of_ble_eq_true rfl) ?_
  intro zp ze zs zm zargs zbelow zmeth zc zQ F hret
  show J zp l ze (rm 0) zs zm zargs zbelow zmeth zc 0 0 zQ zs.heap X 2 M 0 [(0, vR X 0)] []
  have ht2 := hC.2.2.2.1.2.2.1
  refine j_aload_n (q := 1) F dX6_clearText_0 rfl rfl 0 rfl ?_
  refine j_getR (q := 4) (z := 79) (index := 40) F wr0 rfl in_X6_clearText_6 4 (by decide) rfl fl_X6_clearText_40 dX6_clearText_1 rfl ?_
  refine j_getI (q := 7) (i := 0) (index := 124) F tx79 rfl in_X6_clearText_5 0 (by decide) rfl rfl fl_X6_clearText_124 dX6_clearText_4 rfl ?_
  refine j_istore_n (q := 8) (lv' := [(0, vR X 0), (1, vI (M 79 0))]) F dX6_clearText_7 rfl rfl (by decide) rfl rfl ?_
  refine j_aload_n (q := 9) F dX6_clearText_8 rfl rfl 0 rfl ?_
  refine j_getR (q := 12) (z := 79) (index := 40) F wr0 rfl in_X6_clearText_6 4 (by decide) rfl fl_X6_clearText_40 dX6_clearText_9 rfl ?_
  refine j_iconst (q := 13) F dX6_clearText_12 rfl ?_
  refine j_putI (q := 16) (i := 0) (index := 124) F tx79 rfl in_X6_clearText_5 0 (by decide) tyX5_ok nmX5 rfl rfl rfl rfl fl_X6_clearText_124 dX6_clearText_13 rfl ?_
  refine j_iload_n (q := 17) F dX6_clearText_16 rfl rfl 1 rfl ?_
  refine hret _ _ _ _ dX6_clearText_17 ?_
  · refine ⟨fun q hq => by rw [mset_nef (by omega)], fun r' N hO => ?_⟩
    obtain ⟨q1, q2, q3, q4⟩ := hO
    exact ⟨by omega, clear_crel hC q1 q2 q3⟩
theorem cd_X5_firstFault : yX5_firstFault.cls = RX5 ∧ yX5_firstFault.cls ≠ "java/lang/invoke/MethodHandle" ∧ yX5_firstFault.cls ≠ "java/lang/invoke/VarHandle" ∧ (parseMethodDescriptor yX5_firstFault.desc).map (fun d => d.parameters.length) = some 0 := by decide +kernel
theorem fl_X6_fault_40 : Cond.fieldLink RX6 40 "WhiteRivers" "text" "LWhiteRivers$Text;" ∈ wsX6_fault := by decide +kernel
theorem in_X6_fault_6 : ∀ w ∈ u_ws RX6 TX6 5, w ∈ wsX6_fault := by decide +kernel
set_option maxRecDepth 100000 in
set_option maxHeartbeats 400000 in
theorem ct_X6_fault (l : Launch) (X : Cx) (hX : Inj X) (M : Mem) (hC : CRel M M) : CtI l X yX6_fault wsX6_fault 2 [vR X 0] M (fun r M' => CPO M (Ofault M) r M') := by
  refine CtI_of (cc := cX6_fault) (maxL := 1) hX (by decide +kernel) rfl (Nat.le_of_ble_eq_true rfl) ?_
  intro zp ze zs zm zargs zbelow zmeth zc zQ F hret
  show J zp l ze (rm 2) zs zm zargs zbelow zmeth zc 0 0 zQ zs.heap X 1 M 0 [(0, vR X 0)] []
  obtain ⟨t0, t1, t2, t3, t4, t5⟩ := hC.2.2.2.1
  refine j_aload_n (q := 1) F dX6_fault_0 rfl rfl 0 rfl ?_
  refine j_getR (q := 4) (z := 79) (index := 40) F wr0 rfl in_X6_fault_6 4 (by decide) rfl fl_X6_fault_40 dX6_fault_1 rfl ?_
  refine j_callVP (q := 7) F [] (ct_X5_firstFault l X hX M (by omega) t4) gX6_fault_X5_firstFault rfl cd_X5_firstFault ⟨by first | exact Nat.le_of_ble_eq_true rfl | (simp only [rm]; omega) | (simp [rm, vI, vR, Value.category]; omega), by first | exact Nat.le_of_ble_eq_true rfl | (simp only [rm]; omega) | (simp [rm, vI, vR, Value.category]; omega), by first | exact Nat.le_of_ble_eq_true rfl | (simp only [rm]; omega) | (simp [rm, vI, vR, Value.category]; omega), by first | exact Nat.le_of_ble_eq_true rfl | (simp only [rm]; omega) | (simp [rm, vI, vR, Value.category]; omega)⟩ tx79 rfl rfl rfl (Nat.le_of_ble_eq_true rfl) dX6_fault_4 rfl (fun x hx => ?_)
  refine hret _ _ _ _ dX6_fault_7 ?_
  · refine ⟨fun _ _ => rfl, fun r' N hO => ?_⟩
    obtain ⟨q1, q2⟩ := hO
    rw [t2] at hx
    exact ⟨FltP_uniq (FltP_congr t3 hx) q2, hC.same (fun _ _ => rfl) q1⟩
theorem cd_X5_giveWords : yX5_giveWords.cls = RX5 ∧ yX5_giveWords.cls ≠ "java/lang/invoke/MethodHandle" ∧ yX5_giveWords.cls ≠ "java/lang/invoke/VarHandle" ∧ (parseMethodDescriptor yX5_giveWords.desc).map (fun d => d.parameters.length) = some 1 := by decide +kernel
theorem fl_X6_read_10 : Cond.fieldLink RX6 10 "WhiteRivers" "page" "LWhiteRivers$Page;" ∈ wsX6_read := by decide +kernel
theorem fl_X6_read_40 : Cond.fieldLink RX6 40 "WhiteRivers" "text" "LWhiteRivers$Text;" ∈ wsX6_read := by decide +kernel
theorem fl_X6_read_68 : Cond.fieldLink RX6 68 "WhiteRivers$Page" "words" "I" ∈ wsX6_read := by decide +kernel
theorem in_X6_read_1 : ∀ w ∈ u_ws RX1 TX1 6, w ∈ wsX6_read := by decide +kernel
theorem in_X6_read_6 : ∀ w ∈ u_ws RX6 TX6 5, w ∈ wsX6_read := by decide +kernel
set_option maxRecDepth 100000 in
set_option maxHeartbeats 400000 in
theorem ct_X6_read (l : Launch) (X : Cx) (hX : Inj X) (M : Mem) (hC : CRel M M) : CtI l X yX6_read wsX6_read 5 [vR X 0] M (fun r M' => CPO M (Oread M) r M') := by
  refine CtI_of (cc := cX6_read) (maxL := 1) hX (by decide +kernel) rfl (Nat.le_of_ble_eq_true rfl) ?_
  intro zp ze zs zm zargs zbelow zmeth zc zQ F hret
  show J zp l ze (rm 5) zs zm zargs zbelow zmeth zc 0 0 zQ zs.heap X 1 M 0 [(0, vR X 0)] []
  have hR := hC.1
  have hD := hC.2.1
  have hn : M 1 2 = M 83 0 := hR.2.2.1
  have hw0 : M 1 0 = M 83 1 := hR.1
  have hs0 : M 1 1 = M 83 2 := hR.2.1
  have hnn := hD.1
  have hww := hD.2.1
  have hss := hD.2.2.1
  have hL24 := hD.L24
  have hl8 : ∀ w, 0 ≤ w → w < 24 → 0 ≤ M 3 w ∧ M 3 w ≤ 8 := hR.2.2.2.2.1
  have htot : cnt (M 5) (M 83 0) = M 83 3 := hR.2.2.2.1.total
  obtain ⟨t0, t1, t2, t3, t4, t5⟩ := hC.2.2.2.1
  have hfb2 := frc_bd hD
  refine j_aload_n (q := 1) F dX6_read_0 rfl rfl 0 rfl ?_
  refine j_getR (q := 4) (z := 79) (index := 40) F wr0 rfl in_X6_read_6 4 (by decide) rfl fl_X6_read_40 dX6_read_1 rfl ?_
  refine j_callVP (q := 7) F [] (ct_X5_firstFault l X hX M (by omega) t4) gX6_read_X5_firstFault rfl cd_X5_firstFault ⟨by first | exact Nat.le_of_ble_eq_true rfl | (simp only [rm]; omega) | (simp [rm, vI, vR, Value.category]; omega), by first | exact Nat.le_of_ble_eq_true rfl | (simp only [rm]; omega) | (simp [rm, vI, vR, Value.category]; omega), by first | exact Nat.le_of_ble_eq_true rfl | (simp only [rm]; omega) | (simp [rm, vI, vR, Value.category]; omega), by first | exact Nat.le_of_ble_eq_true rfl | (simp only [rm]; omega) | (simp [rm, vI, vR, Value.category]; omega)⟩ tx79 rfl rfl rfl (Nat.le_of_ble_eq_true rfl) dX6_read_4 rfl (fun x hx => ?_)
  have hxx : FltP (M 85) (M 82 4) x := by rw [t2] at hx; exact FltP_congr t3 hx
  have hxb : -4 ≤ x ∧ x ≤ 100 := by rcases hx with ⟨z1, z2, -⟩ | ⟨z1, -⟩ <;> omega
  refine j_bipush (q := 9) F dX6_read_7 rfl (by decide) ?_
  refine j_icmp_eq (q := 12) (tgt := 15) F dX6_read_9 (by decide) rfl ⟨by omega, by omega⟩ ⟨by decide, by decide⟩ (fun h9_2 => ?_) (fun h9_2 => ?_)
  · skip
    refine j_aload_n (q := 16) F dX6_read_15 rfl rfl 0 rfl ?_
    refine j_callVV (q := 19) F [] (ct_X6_beginChange l X hX M hC) gX6_read_X6_beginChange rfl cd_X6_beginChange ⟨by first | exact Nat.le_of_ble_eq_true rfl | (simp only [rm]; omega) | (simp [rm, vI, vR, Value.category]; omega), by first | exact Nat.le_of_ble_eq_true rfl | (simp only [rm]; omega) | (simp [rm, vI, vR, Value.category]; omega), by first | exact Nat.le_of_ble_eq_true rfl | (simp only [rm]; omega) | (simp [rm, vI, vR, Value.category]; omega), by first | exact Nat.le_of_ble_eq_true rfl | (simp only [rm]; omega) | (simp [rm, vI, vR, Value.category]; omega)⟩ wr0 rfl rfl rfl (Nat.le_of_ble_eq_true rfl) dX6_read_16 rfl (fun Mb hb => ?_)
    have b1 : Mb 1 = M 1 := hb.1 1 (by decide) (by decide)
    have b3 : Mb 3 = M 3 := hb.1 3 (by decide) (by decide)
    have b5 : Mb 5 = M 5 := hb.1 5 (by decide) (by decide)
    have b7 : Mb 7 = M 7 := hb.1 7 (by decide) (by decide)
    have hRb := hb.rel hC
    have hfb := hb.fr
    have bn : Mb 1 2 = M 83 0 := hRb.2.2.1
    refine j_aload_n (q := 20) F dX6_read_19 rfl rfl 0 rfl ?_
    refine j_getR (q := 23) (z := 79) (index := 40) F wr0 rfl in_X6_read_6 4 (by decide) rfl fl_X6_read_40 dX6_read_20 rfl ?_
    refine j_aload_n (q := 24) F dX6_read_23 rfl rfl 0 rfl ?_
    have b79 : Mb 79 = M 79 := hb.1 79 (by omega) (by decide)
    have b81 : Mb 81 = M 81 := hb.1 81 (by omega) (by decide)
    have hno : ∀ j, 0 ≤ j → j < M 79 0 → ¬ badT (M 81) (M 79 0) j := by
      rcases hx with ⟨z1, -⟩ | ⟨-, z⟩
      · omega
      · exact z
    refine j_getR (q := 27) (z := 1) (index := 10) F wr0 rfl in_X6_read_6 0 (by decide) rfl fl_X6_read_10 dX6_read_24 rfl ?_
    refine j_callVV (q := 30) F [vR X 1] (ct_X5_giveWords l X hX Mb (by rw [b79]; omega) (by rw [b81]; exact t4) (by rw [b79, b81]; exact hno) 1 pg1 (by omega) (by show ∀ w, 0 ≤ w → w < 24 → 0 ≤ Mb 3 w ∧ Mb 3 w ≤ 8; rw [b3]; exact hl8)) gX6_read_X5_giveWords rfl cd_X5_giveWords ⟨by first | exact Nat.le_of_ble_eq_true rfl | (simp only [rm]; omega) | (simp [rm, vI, vR, Value.category]; omega), by first | exact Nat.le_of_ble_eq_true rfl | (simp only [rm]; omega) | (simp [rm, vI, vR, Value.category]; omega), by first | exact Nat.le_of_ble_eq_true rfl | (simp only [rm]; omega) | (simp [rm, vI, vR, Value.category]; omega), by first | exact Nat.le_of_ble_eq_true rfl | (simp only [rm]; omega) | (simp [rm, vI, vR, Value.category]; omega)⟩ tx79 rfl rfl rfl (Nat.le_of_ble_eq_true rfl) dX6_read_27 rfl (fun Mg hg => ?_)
    have hN : Mg 1 2 = twd (M 81) (M 79 0) := by have z := hg.1; rw [b81, b79] at z; exact z
    have hbd := noBad_bd hno (show 0 ≤ M 79 0 by omega) (Int.le_refl _)
    have hnn2 := trn_nn (M 81) (show 0 ≤ M 79 0 by omega)
    refine j_aload_n (q := 31) F dX6_read_30 rfl rfl 0 rfl ?_
    refine j_getR (q := 34) (z := 1) (index := 10) F wr0 rfl in_X6_read_6 0 (by decide) rfl fl_X6_read_10 dX6_read_31 rfl ?_
    refine j_callVV (q := 37) F [] (ct_X1_fill l X hX Mg 1 (pg1) (by omega) (by rw [hg.2.2.2.2.1, b1]; omega) hg.2.2.2.2.2.2) gX6_read_X1_fill rfl cd_X1_fill ⟨by first | exact Nat.le_of_ble_eq_true rfl | (simp only [rm]; omega) | (simp [rm, vI, vR, Value.category]; omega), by first | exact Nat.le_of_ble_eq_true rfl | (simp only [rm]; omega) | (simp [rm, vI, vR, Value.category]; omega), by first | exact Nat.le_of_ble_eq_true rfl | (simp only [rm]; omega) | (simp [rm, vI, vR, Value.category]; omega), by first | exact Nat.le_of_ble_eq_true rfl | (simp only [rm]; omega) | (simp [rm, vI, vR, Value.category]; omega)⟩ (pg1).1 rfl rfl rfl (Nat.le_of_ble_eq_true rfl) dX6_read_34 rfl (fun Mf hfl => ?_)
    refine j_aload_n (q := 38) F dX6_read_37 rfl rfl 0 rfl ?_
    refine j_getR (q := 41) (z := 1) (index := 10) F wr0 rfl in_X6_read_6 0 (by decide) rfl fl_X6_read_10 dX6_read_38 rfl ?_
    refine j_getI (q := 44) (i := 2) (index := 68) F (pg1).1 rfl in_X6_read_1 2 (by decide) rfl rfl fl_X6_read_68 dX6_read_41 rfl ?_
    refine hret _ _ _ _ dX6_read_44 ?_
    · refine ⟨fun q hq => by rw [hfl.1 q (by omega), hg.2.2.1 q (by omega) (by omega) (by omega) (by omega)]; exact hfb q hq, fun r' N hO => ?_⟩
      rcases hO with ⟨⟨y, q1, q1b⟩, -⟩ | ⟨q1, q2, q3, q4, q5⟩
      · exact absurd (FltP_uniq hxx q1) (by omega)
      · have eT := trw_congr (s := M 81) (t := M 85) t3 t0 (Int.le_refl _)
        rw [t2] at hN hbd hnn2
        have gw : ∀ w, 0 ≤ w → w < twd (M 85) (M 82 4) → Mg 3 w = wln (M 85) (M 82 4) w := fun w a b => by
          have z := hg.2.1 w a (by omega)
          rw [b81, b79, t2, eT.2.2] at z
          exact z
        have e0 : rdD (M 83) (M 85) (M 82 4) 0 = twd (M 85) (M 82 4) := if_pos rfl
        have e1 : rdD (M 83) (M 85) (M 82 4) 1 = M 83 1 := by unfold rdD; rw [if_neg (by decide), if_neg (by omega)]
        have e2 : rdD (M 83) (M 85) (M 82 4) 2 = M 83 2 := by unfold rdD; rw [if_neg (by decide), if_neg (by omega)]
        have hk := fill_ok hC hb (M2 := Mg) (M3 := Mf) (d := rdD (M 83) (M 85) (M 82 4)) (fun q a b => hg.2.2.1 q (by omega) (by omega) (by omega) (by omega)) (by rw [e0]; omega) (by rw [e1]; exact hww) (by rw [e2]; exact hss) (fun w a b => by
          rw [e0] at b
          rw [rdD_w a b]
          have z1 := wln_pos (M 85) (M 82 4).toNat w a (by rw [Int.toNat_of_nonneg t0]; exact b)
          rw [Int.toNat_of_nonneg t0] at z1
          have z2 : 0 ≤ Mg 3 w ∧ Mg 3 w ≤ 8 := hg.2.2.2.2.2.2 w a (by omega)
          rw [gw w a b] at z2
          omega) (by rw [e1, hg.2.2.2.2.1, b1]; exact hw0) (by rw [e2, hg.2.2.2.2.2.1, b1]; exact hs0) (by rw [e0]; omega) hg.2.2.2.2.2.2 (fun w a b => by
          rw [e0] at b
          rw [rdD_w a b]
          exact gw w a b) (fun w a b => (hg.2.2.2.1 w a b).2) hfl.1 hfl.2 q2 q3 q4
        exact ⟨by rw [hk.2.2, q5, q4.1], hk.1⟩
  · skip
    refine j_bipush (q := 14) F dX6_read_12 rfl (by decide) ?_
    refine hret _ _ _ _ dX6_read_14 ?_
    · refine ⟨fun _ _ => rfl, fun r' N hO => ?_⟩
      rcases hO with ⟨-, q2, q3⟩ | ⟨q1, -⟩
      · exact ⟨by omega, hC.same (fun _ _ => rfl) q3⟩
      · exact absurd (FltP_uniq hxx q1) (by omega)
