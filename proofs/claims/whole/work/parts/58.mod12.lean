set_option maxRecDepth 100000 in
set_option maxHeartbeats 400000 in
theorem ct_X7_meetsOf (l : Launch) (X : Cx) (hX : Inj X) (M : Mem) (hD : DOK (M 83)) (hL : LM M (M 83)) (w n : Int) (h0 : 0 ≤ w) (h1 : w < M 83 0) (h2 : w < sd (M 83) (lnD (M 83) w + 1) - 1) (n0 : 0 ≤ n) (n1 : n < M 83 3) : CtI l X yX7_meetsOf wsX7_meetsOf 1 [vR X 82, vI w, vI n] M (fun x M' => M' = M ∧ x = cnt (fun g => if mtD (M 83) g w = true then 1 else 0) (sd (M 83) (n + 1)) - cnt (fun g => if mtD (M 83) g w = true then 1 else 0) (sd (M 83) n)) := by
  refine CtI_of (cc := cX7_meetsOf) (maxL := 5) hX (by decide +kernel) rfl (Nat.le_of_ble_eq_true rfl) ?_
  intro zp ze zs zm zargs zbelow zmeth zc zQ F hret
  show J zp l ze (rm 1) zs zm zargs zbelow zmeth zc 0 0 zQ zs.heap X 5 M 0 [(0, vR X 82), (1, vI w), (2, vI n)] []
  have hw := hD.w
  have hnn := hD.1
  have hww := hD.2.1
  have hlen := hw.2.2
  have hL24 := hD.L24
  have hss := hD.2.2.1
  have hbw := gapv_bd hD h0 h1 h2
  have hrw := (hL w h0 h1).2 h2
  have hsn := (hD.2.2.2.2.2.2 n n0 n1).1
  have hb := hD.bdall n0
  have hb1 := hD.bdall (l := n + 1) (by omega)
  refine j_iconst (q := 1) F dX7_meetsOf_0 rfl ?_
  refine j_istore_n (q := 2) (lv' := [(0, vR X 82), (1, vI w), (2, vI n), (3, vI 0)]) F dX7_meetsOf_1 rfl rfl (by decide) rfl rfl ?_
  refine j_aload_n (q := 3) F dX7_meetsOf_2 rfl rfl 0 rfl ?_
  refine j_iload_n (q := 4) F dX7_meetsOf_3 rfl rfl 2 rfl ?_
  refine j_callVE (q := 7) F [vI n] (ct_X7_first l X hX M n (by omega) (by omega)) gX7_meetsOf_X7_first rfl cd_X7_first ⟨by first | exact Nat.le_of_ble_eq_true rfl | (simp only [rm]; omega) | (simp [rm, vI, vR, Value.category]; omega), by first | exact Nat.le_of_ble_eq_true rfl | (simp only [rm]; omega) | (simp [rm, vI, vR, Value.category]; omega), by first | exact Nat.le_of_ble_eq_true rfl | (simp only [rm]; omega) | (simp [rm, vI, vR, Value.category]; omega), by first | exact Nat.le_of_ble_eq_true rfl | (simp only [rm]; omega) | (simp [rm, vI, vR, Value.category]; omega)⟩ md82 rfl rfl rfl (Nat.le_of_ble_eq_true rfl) dX7_meetsOf_4 rfl ?_
  rw [show M 83 (28 + n) = sd (M 83) n from by exact (sd_in n1).symm]
  refine j_istore (q := 9) (lv' := [(0, vR X 82), (1, vI w), (2, vI n), (3, vI 0), (4, vI (sd (M 83) n))]) F dX7_meetsOf_7 rfl (by decide) rfl rfl ?_
  have LP9 : ∀ (nn : Nat) (acc g : Int), (sd (M 83) n ≤ g) → (g ≤ sd (M 83) (n + 1) - 1) → (acc = cnt (fun g => if mtD (M 83) g w = true then 1 else 0) g - cnt (fun g => if mtD (M 83) g w = true then 1 else 0) (sd (M 83) n)) → (sd (M 83) (n + 1) - g).toNat < nn → J zp l ze (rm 1) zs zm zargs zbelow zmeth zc 0 0 zQ zs.heap X 5 M 9 [(0, vR X 82), (1, vI w), (2, vI n), (3, vI acc), (4, vI g)] [] := by
    intro nn
    induction nn with
    | zero => intro acc g g0 g1 g2 hm9; exact absurd hm9 (Nat.not_lt_zero _)
    | succ nn ih9 =>
      intro acc g g0 g1 g2 hm9
      refine j_iload (q := 11) F dX7_meetsOf_9 rfl 4 rfl ?_
      refine j_iconst (q := 12) F dX7_meetsOf_11 rfl ?_
      refine j_iadd (q := 13) (z := g + 1) F dX7_meetsOf_12 rfl rfl ?_
      refine j_aload_n (q := 14) F dX7_meetsOf_13 rfl rfl 0 rfl ?_
      refine j_iload_n (q := 15) F dX7_meetsOf_14 rfl rfl 2 rfl ?_
      refine j_callVE (q := 18) F [vI n] (ct_X7_behind l X hX M (by omega) n (by omega) (by omega)) gX7_meetsOf_X7_behind rfl cd_X7_behind ⟨by first | exact Nat.le_of_ble_eq_true rfl | (simp only [rm]; omega) | (simp [rm, vI, vR, Value.category]; omega), by first | exact Nat.le_of_ble_eq_true rfl | (simp only [rm]; omega) | (simp [rm, vI, vR, Value.category]; omega), by first | exact Nat.le_of_ble_eq_true rfl | (simp only [rm]; omega) | (simp [rm, vI, vR, Value.category]; omega), by first | exact Nat.le_of_ble_eq_true rfl | (simp only [rm]; omega) | (simp [rm, vI, vR, Value.category]; omega)⟩ md82 rfl rfl rfl (Nat.le_of_ble_eq_true rfl) dX7_meetsOf_15 rfl ?_
      refine j_icmp_ge (q := 21) (tgt := 45) F dX7_meetsOf_18 (by decide) rfl ⟨by omega, by omega⟩ ⟨by omega, by omega⟩ (fun h18_3 => ?_) (fun h18_3 => ?_)
      · skip
        refine j_iload_n (q := 46) F dX7_meetsOf_45 rfl rfl 3 rfl ?_
        refine hret _ _ _ _ dX7_meetsOf_46 ?_
        · refine ⟨rfl, ?_⟩
          have hge : g = sd (M 83) (n + 1) - 1 := by omega
          have hz := cnt_s (fun g => if mtD (M 83) g w = true then 1 else 0) (show 0 ≤ sd (M 83) (n + 1) - 1 by omega)
          rw [show sd (M 83) (n + 1) - 1 + 1 = sd (M 83) (n + 1) by omega, mt_last hD n0 n1] at hz
          rw [hz, ← hge, g2]
          simp
      · skip
        have elg : lnD (M 83) g = n := lnD_eq hD n0 n1 g0 (by omega)
        have hbg := gapv_bd hD (w := g) (by omega) (by omega) (by rw [elg]; omega)
        have hrg := (hL g (by omega) (by omega)).2 (by rw [elg]; omega)
        refine j_iload_n (q := 22) F dX7_meetsOf_21 rfl rfl 3 rfl ?_
        refine j_aload_n (q := 23) F dX7_meetsOf_22 rfl rfl 0 rfl ?_
        refine j_iload_n (q := 24) F dX7_meetsOf_23 rfl rfl 1 rfl ?_
        refine j_iload (q := 26) F dX7_meetsOf_24 rfl 4 rfl ?_
        refine j_callVZ (q := 29) F [vI w, vI g] (ct_X7_meets l X hX M w g (by omega) (by omega) (by rw [hrw.1, hrw.2.1]; exact hbw) (by rw [hrg.1, hrg.2.1]; exact hbg)) gX7_meetsOf_X7_meets rfl cd_X7_meets ⟨by first | exact Nat.le_of_ble_eq_true rfl | (simp only [rm]; omega) | (simp [rm, vI, vR, Value.category]; omega), by first | exact Nat.le_of_ble_eq_true rfl | (simp only [rm]; omega) | (simp [rm, vI, vR, Value.category]; omega), by first | exact Nat.le_of_ble_eq_true rfl | (simp only [rm]; omega) | (simp [rm, vI, vR, Value.category]; omega), by first | exact Nat.le_of_ble_eq_true rfl | (simp only [rm]; omega) | (simp [rm, vI, vR, Value.category]; omega)⟩ md82 rfl rfl rfl (Nat.le_of_ble_eq_true rfl) dX7_meetsOf_26 rfl (fun hm => ?_) (fun hm => ?_)
        · skip
          have hm : mtD (M 83) g w = true := by
            unfold mtD
            rw [← hrg.1, ← hrg.2.1, ← hrw.1, ← hrw.2.1]
            exact mtB_iff.mpr (mtP_comm.mp hm)
          refine j_if_eq (q := 32) (tgt := 36) F dX7_meetsOf_29 (by decide) rfl ⟨by decide, by decide⟩ (fun h => absurd h (by decide)) (fun _ => ?_)
          refine j_iconst (q := 33) F dX7_meetsOf_32 rfl ?_
          refine j_goto (q := 37) F dX7_meetsOf_33 (by decide) ?_
          refine j_iadd (q := 38) (z := acc + 1) F dX7_meetsOf_37 rfl rfl ?_
          refine j_istore_n (q := 39) (lv' := [(0, vR X 82), (1, vI w), (2, vI n), (3, vI (acc + 1)), (4, vI g)]) F dX7_meetsOf_38 rfl rfl (by decide) rfl rfl ?_
          refine j_iinc (q := 42) (lv' := [(0, vR X 82), (1, vI w), (2, vI n), (3, vI (acc + 1)), (4, vI (g + 1))]) F dX7_meetsOf_39 rfl 4 rfl (by decide) rfl rfl ?_
          refine j_goto (q := 9) F dX7_meetsOf_42 (by decide) ?_
          exact ih9 (acc + 1) (g + 1) (by omega) (by omega) (by rw [cnt_s _ (by omega)]; first | (rw [if_pos hm]; omega) | (rw [if_neg hm]; omega)) (by omega)
        · skip
          have hm : ¬ mtD (M 83) g w = true := by
            unfold mtD
            rw [← hrg.1, ← hrg.2.1, ← hrw.1, ← hrw.2.1]
            exact fun z => hm (mtP_comm.mp (mtB_iff.mp z))
          refine j_if_eq (q := 32) (tgt := 36) F dX7_meetsOf_29 (by decide) rfl ⟨by decide, by decide⟩ (fun _ => ?_) (fun h => absurd h (by decide))
          refine j_iconst (q := 37) F dX7_meetsOf_36 rfl ?_
          refine j_iadd (q := 38) (z := acc + 0) F dX7_meetsOf_37 rfl rfl ?_
          refine j_istore_n (q := 39) (lv' := [(0, vR X 82), (1, vI w), (2, vI n), (3, vI (acc + 0)), (4, vI g)]) F dX7_meetsOf_38 rfl rfl (by decide) rfl rfl ?_
          refine j_iinc (q := 42) (lv' := [(0, vR X 82), (1, vI w), (2, vI n), (3, vI (acc + 0)), (4, vI (g + 1))]) F dX7_meetsOf_39 rfl 4 rfl (by decide) rfl rfl ?_
          refine j_goto (q := 9) F dX7_meetsOf_42 (by decide) ?_
          exact ih9 (acc + 0) (g + 1) (by omega) (by omega) (by rw [cnt_s _ (by omega)]; first | (rw [if_pos hm]; omega) | (rw [if_neg hm]; omega)) (by omega)
  exact LP9 _ 0 (sd (M 83) n) (by omega) (by omega) (by omega) (by exact Nat.lt_succ_self _)
theorem cd_X7_meetsOf : yX7_meetsOf.cls = RX7 ∧ yX7_meetsOf.cls ≠ "java/lang/invoke/MethodHandle" ∧ yX7_meetsOf.cls ≠ "java/lang/invoke/VarHandle" ∧ (parseMethodDescriptor yX7_meetsOf.desc).map (fun d => d.parameters.length) = some 2 := by decide +kernel
set_option maxRecDepth 100000 in
set_option maxHeartbeats 400000 in
theorem ct_X7_above (l : Launch) (X : Cx) (hX : Inj X) (M : Mem) (hD : DOK (M 83)) (hL : LM M (M 83)) (w n : Int) (h0 : 0 ≤ w) (h1 : w < M 83 0) (h2 : w < sd (M 83) (lnD (M 83) w + 1) - 1) (hn : n = lnD (M 83) w) : CtI l X yX7_above wsX7_above 2 [vR X 82, vI w, vI n] M (fun x M' => M' = M ∧ x = abD (M 83) w) := by
  refine CtI_of (cc := cX7_above) (maxL := 3) hX (by decide +kernel) rfl (Nat.le_of_ble_eq_true rfl) ?_
  intro zp ze zs zm zargs zbelow zmeth zc zQ F hret
  show J zp l ze (rm 2) zs zm zargs zbelow zmeth zc 0 0 zQ zs.heap X 3 M 0 [(0, vR X 82), (1, vI w), (2, vI n)] []
  have hw := hD.w
  have hnn := hD.1
  have hww := hD.2.1
  have hlen := hw.2.2
  have hL24 := hD.L24
  have hss := hD.2.2.1
  obtain ⟨a1, a2, a3, a4⟩ := lnD_seg hD h0 h1
  refine j_iload_n (q := 1) F dX7_above_0 rfl rfl 2 rfl ?_
  refine j_if_ne (q := 4) (tgt := 8) F dX7_above_1 (by decide) rfl ⟨by omega, by omega⟩ (fun h1_1 => ?_) (fun h1_1 => ?_)
  · skip
    refine j_aload_n (q := 9) F dX7_above_8 rfl rfl 0 rfl ?_
    refine j_iload_n (q := 10) F dX7_above_9 rfl rfl 1 rfl ?_
    refine j_iload_n (q := 11) F dX7_above_10 rfl rfl 2 rfl ?_
    refine j_iconst (q := 12) F dX7_above_11 rfl ?_
    refine j_isub (q := 13) (z := n - 1) F dX7_above_12 rfl rfl ?_
    refine j_callVP (q := 16) F [vI w, vI (n - 1)] (ct_X7_meetsOf l X hX M hD hL w (n - 1) h0 h1 h2 (by omega) (by omega)) gX7_above_X7_meetsOf rfl cd_X7_meetsOf ⟨by first | exact Nat.le_of_ble_eq_true rfl | (simp only [rm]; omega) | (simp [rm, vI, vR, Value.category]; omega), by first | exact Nat.le_of_ble_eq_true rfl | (simp only [rm]; omega) | (simp [rm, vI, vR, Value.category]; omega), by first | exact Nat.le_of_ble_eq_true rfl | (simp only [rm]; omega) | (simp [rm, vI, vR, Value.category]; omega), by first | exact Nat.le_of_ble_eq_true rfl | (simp only [rm]; omega) | (simp [rm, vI, vR, Value.category]; omega)⟩ md82 rfl rfl rfl (Nat.le_of_ble_eq_true rfl) dX7_above_13 rfl (fun x hx => ?_)
    refine hret _ _ _ _ dX7_above_16 ?_
    · refine ⟨rfl, ?_⟩
      rw [show n - 1 + 1 = n by omega] at hx
      unfold abD prv
      rw [← hn, if_neg (by omega)]
      exact hx
  · skip
    refine j_iconst (q := 5) F dX7_above_4 rfl ?_
    refine j_goto (q := 16) F dX7_above_5 (by decide) ?_
    refine hret _ _ _ _ dX7_above_16 ?_
    · refine ⟨rfl, ?_⟩
      unfold abD prv
      rw [← hn, if_pos (by omega), show n = 0 by omega, hD.2.2.2.2.2.1]; omega
theorem fl_X7_below_7 : Cond.fieldLink RX7 7 "WhiteRiversModel" "d" "[I" ∈ wsX7_below := by decide +kernel
theorem in_X7_below_7 : ∀ w ∈ u_ws RX7 TX7 19, w ∈ wsX7_below := by decide +kernel
set_option maxRecDepth 100000 in
set_option maxHeartbeats 400000 in
theorem ct_X7_below (l : Launch) (X : Cx) (hX : Inj X) (M : Mem) (hD : DOK (M 83)) (hL : LM M (M 83)) (w n : Int) (h0 : 0 ≤ w) (h1 : w < M 83 0) (h2 : w < sd (M 83) (lnD (M 83) w + 1) - 1) (hn : n = lnD (M 83) w) : CtI l X yX7_below wsX7_below 2 [vR X 82, vI w, vI n] M (fun x M' => M' = M ∧ x = beD (M 83) n w) := by
  refine CtI_of (cc := cX7_below) (maxL := 3) hX (by decide +kernel) rfl (Nat.le_of_ble_eq_true rfl) ?_
  intro zp ze zs zm zargs zbelow zmeth zc zQ F hret
  show J zp l ze (rm 2) zs zm zargs zbelow zmeth zc 0 0 zQ zs.heap X 3 M 0 [(0, vR X 82), (1, vI w), (2, vI n)] []
  have hw := hD.w
  have hnn := hD.1
  have hww := hD.2.1
  have hlen := hw.2.2
  have hL24 := hD.L24
  have hss := hD.2.2.1
  obtain ⟨a1, a2, a3, a4⟩ := lnD_seg hD h0 h1
  refine j_iload_n (q := 1) F dX7_below_0 rfl rfl 2 rfl ?_
  refine j_iconst (q := 2) F dX7_below_1 rfl ?_
  refine j_iadd (q := 3) (z := n + 1) F dX7_below_2 rfl rfl ?_
  refine j_aload_n (q := 4) F dX7_below_3 rfl rfl 0 rfl ?_
  refine j_getR (q := 7) (z := 83) (index := 7) F md82 rfl in_X7_below_7 0 (by decide) rfl fl_X7_below_7 dX7_below_4 rfl ?_
  refine j_iconst (q := 8) F dX7_below_7 rfl ?_
  refine j_iald (q := 9) F ar83 (by omega) (by omega) (by decide) dX7_below_8 rfl ?_
  refine j_icmp_ne (q := 12) (tgt := 16) F dX7_below_9 (by decide) rfl ⟨by omega, by omega⟩ ⟨by omega, by omega⟩ (fun h9_1 => ?_) (fun h9_1 => ?_)
  · skip
    refine j_aload_n (q := 17) F dX7_below_16 rfl rfl 0 rfl ?_
    refine j_iload_n (q := 18) F dX7_below_17 rfl rfl 1 rfl ?_
    refine j_iload_n (q := 19) F dX7_below_18 rfl rfl 2 rfl ?_
    refine j_iconst (q := 20) F dX7_below_19 rfl ?_
    refine j_iadd (q := 21) (z := n + 1) F dX7_below_20 rfl rfl ?_
    refine j_callVP (q := 24) F [vI w, vI (n + 1)] (ct_X7_meetsOf l X hX M hD hL w (n + 1) h0 h1 h2 (by omega) (by omega)) gX7_below_X7_meetsOf rfl cd_X7_meetsOf ⟨by first | exact Nat.le_of_ble_eq_true rfl | (simp only [rm]; omega) | (simp [rm, vI, vR, Value.category]; omega), by first | exact Nat.le_of_ble_eq_true rfl | (simp only [rm]; omega) | (simp [rm, vI, vR, Value.category]; omega), by first | exact Nat.le_of_ble_eq_true rfl | (simp only [rm]; omega) | (simp [rm, vI, vR, Value.category]; omega), by first | exact Nat.le_of_ble_eq_true rfl | (simp only [rm]; omega) | (simp [rm, vI, vR, Value.category]; omega)⟩ md82 rfl rfl rfl (Nat.le_of_ble_eq_true rfl) dX7_below_21 rfl (fun x hx => ?_)
    refine hret _ _ _ _ dX7_below_24 ?_
    · refine ⟨rfl, ?_⟩
      rw [show n + 1 + 1 = n + 2 by omega] at hx
      exact hx
  · skip
    refine j_iconst (q := 13) F dX7_below_12 rfl ?_
    refine j_goto (q := 24) F dX7_below_13 (by decide) ?_
    refine hret _ _ _ _ dX7_below_24 ?_
    · refine ⟨rfl, ?_⟩
      unfold beD
      rw [sd_L (d := M 83) (l := n + 2) (by omega), sd_L (d := M 83) (l := n + 1) (by omega)]; omega
