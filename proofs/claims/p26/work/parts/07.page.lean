theorem fl_X1_lengthOf_26 : Cond.fieldLink RX1 26 "WhiteRivers$Page" "lengths" "LWhiteRivers$Row;" ∈ wsX1_lengthOf := by decide +kernel
theorem in_X1_lengthOf_1 : ∀ w ∈ u_ws RX1 TX1 6, w ∈ wsX1_lengthOf := by decide +kernel
set_option maxRecDepth 100000 in
set_option maxHeartbeats 400000 in
theorem ct_X1_lengthOf (l : Launch) (X : Cx) (hX : Inj X) (M : Mem) (c : Nat) (hc : isPage c) (w : Int) (h0 : 0 ≤ w) (h1 : w < 24) : CtI l X yX1_lengthOf wsX1_lengthOf 1 [vR X c, vI w] M (fun x M' => M' = M ∧ x = M (c + 2) w) := by
  refine CtI_of (cc := cX1_lengthOf) (maxL := 2) hX (by decide +kernel) rfl (Nat.le_of_ble_eq_true rfl) ?_
  intro zp ze zs zm zargs zbelow zmeth zc zQ F hret
  show J zp l ze (rm 1) zs zm zargs zbelow zmeth zc 0 0 zQ zs.heap X 2 M 0 [(0, vR X c), (1, vI w)] []
  refine j_aload_n (q := 1) F dX1_lengthOf_0 rfl rfl 0 rfl ?_
  refine j_getR (q := 4) (z := c + 1) (index := 26) F (hc).1 rfl in_X1_lengthOf_1 3 (by decide) rfl fl_X1_lengthOf_26 dX1_lengthOf_1 rfl ?_
  refine j_iload_n (q := 5) F dX1_lengthOf_4 rfl rfl 1 rfl ?_
  refine j_callVE (q := 8) F [vI w] (ct_X2_get_in l X hX M (c + 1) 24 (c + 2) ((hc).2.1) (by decide) rfl w (by omega) (by omega)) gX1_lengthOf_X2_get rfl cd_X2_get ⟨by first | exact Nat.le_of_ble_eq_true rfl | (simp only [rm]; omega) | (simp [rm, vI, vR, Value.category]; omega), by first | exact Nat.le_of_ble_eq_true rfl | (simp only [rm]; omega) | (simp [rm, vI, vR, Value.category]; omega), by first | exact Nat.le_of_ble_eq_true rfl | (simp only [rm]; omega) | (simp [rm, vI, vR, Value.category]; omega), by first | exact Nat.le_of_ble_eq_true rfl | (simp only [rm]; omega) | (simp [rm, vI, vR, Value.category]; omega)⟩ ((hc).2.1).1 rfl rfl rfl (Nat.le_of_ble_eq_true rfl) dX1_lengthOf_5 rfl ?_
  exact hret _ _ _ _ dX1_lengthOf_8 (by exact ⟨rfl, rfl⟩)
theorem fl_X1_isFrozen_33 : Cond.fieldLink RX1 33 "WhiteRivers$Page" "frozen" "LWhiteRivers$Row;" ∈ wsX1_isFrozen := by decide +kernel
theorem in_X1_isFrozen_1 : ∀ w ∈ u_ws RX1 TX1 6, w ∈ wsX1_isFrozen := by decide +kernel
set_option maxRecDepth 100000 in
set_option maxHeartbeats 400000 in
theorem ct_X1_isFrozen (l : Launch) (X : Cx) (hX : Inj X) (M : Mem) (c : Nat) (hc : isPage c) (w : Int) (hw : inR w) (hb : inR (gt M (c + 6) 24 w)) : CtI l X yX1_isFrozen wsX1_isFrozen 1 [vR X c, vI w] M (fun x M' => M' = M ∧ (x = 1 ∧ gt M (c + 6) 24 w = 1 ∨ x = 0 ∧ gt M (c + 6) 24 w ≠ 1)) := by
  refine CtI_ofZ (cc := cX1_isFrozen) (maxL := 2) hX (by decide +kernel) rfl (Nat.le_of_ble_eq_true rfl) ?_
  intro zp ze zs zm zargs zbelow zmeth zc zQ F hret
  show J zp l ze (rm 1) zs zm zargs zbelow zmeth zc 0 0 zQ zs.heap X 2 M 0 [(0, vR X c), (1, vI w)] []
  obtain ⟨hw1, hw2⟩ := hw
  obtain ⟨hb1, hb2⟩ := hb
  refine j_aload_n (q := 1) F dX1_isFrozen_0 rfl rfl 0 rfl ?_
  refine j_getR (q := 4) (z := c + 5) (index := 33) F (hc).1 rfl in_X1_isFrozen_1 5 (by decide) rfl fl_X1_isFrozen_33 dX1_isFrozen_1 rfl ?_
  refine j_iload_n (q := 5) F dX1_isFrozen_4 rfl rfl 1 rfl ?_
  refine j_callVE (q := 8) F [vI w] (ct_X2_get l X hX M (c + 5) 24 ((hc).2.2.2) (by decide) w ⟨by omega, by omega⟩) gX1_isFrozen_X2_get rfl cd_X2_get ⟨by first | exact Nat.le_of_ble_eq_true rfl | (simp only [rm]; omega) | (simp [rm, vI, vR, Value.category]; omega), by first | exact Nat.le_of_ble_eq_true rfl | (simp only [rm]; omega) | (simp [rm, vI, vR, Value.category]; omega), by first | exact Nat.le_of_ble_eq_true rfl | (simp only [rm]; omega) | (simp [rm, vI, vR, Value.category]; omega), by first | exact Nat.le_of_ble_eq_true rfl | (simp only [rm]; omega) | (simp [rm, vI, vR, Value.category]; omega)⟩ ((hc).2.2.2).1 rfl rfl rfl (Nat.le_of_ble_eq_true rfl) dX1_isFrozen_5 rfl ?_
  refine j_iconst (q := 9) F dX1_isFrozen_8 rfl ?_
  refine j_icmp_ne (q := 12) (tgt := 16) F dX1_isFrozen_9 (by decide) rfl ⟨by omega, by omega⟩ ⟨by decide, by decide⟩ (fun h9_2 => ?_) (fun h9_2 => ?_)
  · skip
    refine j_iconst (q := 17) F dX1_isFrozen_16 rfl ?_
    exact hret _ _ _ _ dX1_isFrozen_17 (Or.inl rfl) (by exact ⟨rfl, Or.inr ⟨rfl, by assumption⟩⟩)
  · skip
    refine j_iconst (q := 13) F dX1_isFrozen_12 rfl ?_
    refine j_goto (q := 17) F dX1_isFrozen_13 (by decide) ?_
    exact hret _ _ _ _ dX1_isFrozen_17 (Or.inr rfl) (by exact ⟨rfl, Or.inl ⟨rfl, by assumption⟩⟩)
theorem ct_X1_isFrozen_in (l : Launch) (X : Cx) (hX : Inj X) (M : Mem) (c : Nat) (hc : isPage c) (w : Int) (h0 : 0 ≤ w) (h1 : w < 24) (hb : 0 ≤ M (c + 6) w ∧ M (c + 6) w ≤ 1) : CtI l X yX1_isFrozen wsX1_isFrozen 1 [vR X c, vI w] M (fun x M' => M' = M ∧ (x = 1 ∧ M (c + 6) w = 1 ∨ x = 0 ∧ M (c + 6) w = 0)) := by
  have hg : gt M (c + 6) 24 w = M (c + 6) w := gt_in h0 (by omega)
  have h := ct_X1_isFrozen l X hX M c hc w ⟨by omega, by omega⟩ ⟨by rw [hg]; omega, by rw [hg]; omega⟩
  rw [hg] at h
  refine CtI_ex h ?_
  funext x M'
  have hz : M (c + 6) w ≠ 1 ↔ M (c + 6) w = 0 := by omega
  rw [hz]
theorem cd_X2_set : yX2_set.cls = RX2 ∧ yX2_set.cls ≠ "java/lang/invoke/MethodHandle" ∧ yX2_set.cls ≠ "java/lang/invoke/VarHandle" ∧ (parseMethodDescriptor yX2_set.desc).map (fun d => d.parameters.length) = some 2 := by decide +kernel
theorem fl_X1_begin_18 : Cond.fieldLink RX1 18 "WhiteRivers$Page" "words" "I" ∈ wsX1_begin := by decide +kernel
theorem fl_X1_begin_30 : Cond.fieldLink RX1 30 "WhiteRivers$Page" "begins" "LWhiteRivers$Row;" ∈ wsX1_begin := by decide +kernel
theorem in_X1_begin_1 : ∀ w ∈ u_ws RX1 TX1 6, w ∈ wsX1_begin := by decide +kernel
set_option maxRecDepth 100000 in
set_option maxHeartbeats 400000 in
theorem ct_X1_begin (l : Launch) (X : Cx) (hX : Inj X) (M : Mem) (c : Nat) (hc : isPage c) (hn : 0 ≤ M c 2 ∧ M c 2 ≤ 24) (w : Int) (h0 : 0 ≤ w) (hw : inR w) : CtV l X yX1_begin wsX1_begin 1 [vR X c, vI w] M (fun M' => M' = if w < M c 2 then mset M (c + 4) w 1 else M) := by
  refine CtV_of (cc := cX1_begin) (maxL := 2) hX (by decide +kernel) rfl (Nat.le_of_ble_eq_true rfl) ?_
  intro zp ze zs zm zargs zbelow zmeth zc zQ F hret
  show J zp l ze (rm 1) zs zm zargs zbelow zmeth zc 0 0 zQ zs.heap X 2 M 0 [(0, vR X c), (1, vI w)] []
  obtain ⟨hw1, hw2⟩ := hw
  refine j_iload_n (q := 1) F dX1_begin_0 rfl rfl 1 rfl ?_
  refine j_aload_n (q := 2) F dX1_begin_1 rfl rfl 0 rfl ?_
  refine j_getI (q := 5) (i := 2) (index := 18) F (hc).1 rfl in_X1_begin_1 2 (by decide) rfl rfl fl_X1_begin_18 dX1_begin_2 rfl ?_
  refine j_icmp_ge (q := 8) (tgt := 17) F dX1_begin_5 (by decide) rfl ⟨by omega, by omega⟩ ⟨by omega, by omega⟩ (fun h5_1 => ?_) (fun h5_1 => ?_)
  · skip
    exact hret _ _ _ dX1_begin_17 (by rw [if_neg (by omega)])
  · skip
    refine j_aload_n (q := 9) F dX1_begin_8 rfl rfl 0 rfl ?_
    refine j_getR (q := 12) (z := c + 3) (index := 30) F (hc).1 rfl in_X1_begin_1 4 (by decide) rfl fl_X1_begin_30 dX1_begin_9 rfl ?_
    refine j_iload_n (q := 13) F dX1_begin_12 rfl rfl 1 rfl ?_
    refine j_iconst (q := 14) F dX1_begin_13 rfl ?_
    refine j_callVM (q := 17) F [vI w, vI 1] (ct_X2_set_in l X hX M (c + 3) 24 (c + 4) ((hc).2.2.1) (by decide) rfl w 1 (by omega) (by omega)) gX1_begin_X2_set rfl cd_X2_set ⟨by first | exact Nat.le_of_ble_eq_true rfl | (simp only [rm]; omega) | (simp [rm, vI, vR, Value.category]; omega), by first | exact Nat.le_of_ble_eq_true rfl | (simp only [rm]; omega) | (simp [rm, vI, vR, Value.category]; omega), by first | exact Nat.le_of_ble_eq_true rfl | (simp only [rm]; omega) | (simp [rm, vI, vR, Value.category]; omega), by first | exact Nat.le_of_ble_eq_true rfl | (simp only [rm]; omega) | (simp [rm, vI, vR, Value.category]; omega)⟩ ((hc).2.2.1).1 rfl rfl rfl (Nat.le_of_ble_eq_true rfl) dX1_begin_14 rfl ?_
    exact hret _ _ _ dX1_begin_17 (by rw [if_pos (by omega)])
theorem ct_X1_begin_in (l : Launch) (X : Cx) (hX : Inj X) (M : Mem) (c : Nat) (hc : isPage c) (hn : 0 ≤ M c 2 ∧ M c 2 ≤ 24) (w : Int) (h0 : 0 ≤ w) (h1 : w < M c 2) : CtV l X yX1_begin wsX1_begin 1 [vR X c, vI w] M (fun M' => M' = mset M (c + 4) w 1) := by
  have h := ct_X1_begin l X hX M c hc hn w h0 ⟨by omega, by omega⟩
  rw [if_pos h1] at h
  exact h
theorem ct_X1_begin_out (l : Launch) (X : Cx) (hX : Inj X) (M : Mem) (c : Nat) (hc : isPage c) (hn : 0 ≤ M c 2 ∧ M c 2 ≤ 24) (w : Int) (hw : inR w) (h1 : M c 2 ≤ w) : CtV l X yX1_begin wsX1_begin 1 [vR X c, vI w] M (fun M' => M' = M) := by
  have h := ct_X1_begin l X hX M c hc hn w (by omega) hw
  rw [if_neg (by omega)] at h
  exact h
theorem fl_X1_join_30 : Cond.fieldLink RX1 30 "WhiteRivers$Page" "begins" "LWhiteRivers$Row;" ∈ wsX1_join := by decide +kernel
theorem in_X1_join_1 : ∀ w ∈ u_ws RX1 TX1 6, w ∈ wsX1_join := by decide +kernel
set_option maxRecDepth 100000 in
set_option maxHeartbeats 400000 in
theorem ct_X1_join (l : Launch) (X : Cx) (hX : Inj X) (M : Mem) (c : Nat) (hc : isPage c) (w : Int) (hw : inR w) : CtV l X yX1_join wsX1_join 1 [vR X c, vI w] M (fun M' => M' = stt M (c + 4) 24 w 0) := by
  refine CtV_of (cc := cX1_join) (maxL := 2) hX (by decide +kernel) rfl (Nat.le_of_ble_eq_true rfl) ?_
  intro zp ze zs zm zargs zbelow zmeth zc zQ F hret
  show J zp l ze (rm 1) zs zm zargs zbelow zmeth zc 0 0 zQ zs.heap X 2 M 0 [(0, vR X c), (1, vI w)] []
  obtain ⟨hw1, hw2⟩ := hw
  refine j_aload_n (q := 1) F dX1_join_0 rfl rfl 0 rfl ?_
  refine j_getR (q := 4) (z := c + 3) (index := 30) F (hc).1 rfl in_X1_join_1 4 (by decide) rfl fl_X1_join_30 dX1_join_1 rfl ?_
  refine j_iload_n (q := 5) F dX1_join_4 rfl rfl 1 rfl ?_
  refine j_iconst (q := 6) F dX1_join_5 rfl ?_
  refine j_callVM (q := 9) F [vI w, vI 0] (ct_X2_set l X hX M (c + 3) 24 ((hc).2.2.1) (by decide) w 0 ⟨by omega, by omega⟩) gX1_join_X2_set rfl cd_X2_set ⟨by first | exact Nat.le_of_ble_eq_true rfl | (simp only [rm]; omega) | (simp [rm, vI, vR, Value.category]; omega), by first | exact Nat.le_of_ble_eq_true rfl | (simp only [rm]; omega) | (simp [rm, vI, vR, Value.category]; omega), by first | exact Nat.le_of_ble_eq_true rfl | (simp only [rm]; omega) | (simp [rm, vI, vR, Value.category]; omega), by first | exact Nat.le_of_ble_eq_true rfl | (simp only [rm]; omega) | (simp [rm, vI, vR, Value.category]; omega)⟩ ((hc).2.2.1).1 rfl rfl rfl (Nat.le_of_ble_eq_true rfl) dX1_join_6 rfl ?_
  exact hret _ _ _ dX1_join_9 (by rfl)
theorem ct_X1_join_in (l : Launch) (X : Cx) (hX : Inj X) (M : Mem) (c : Nat) (hc : isPage c) (w : Int) (h0 : 0 ≤ w) (h1 : w < 24) : CtV l X yX1_join wsX1_join 1 [vR X c, vI w] M (fun M' => M' = mset M (c + 4) w 0) := by
  have h := ct_X1_join l X hX M c hc w ⟨by omega, by omega⟩
  rw [stt_in h0 (by omega)] at h
  exact h
theorem ct_X1_join_out (l : Launch) (X : Cx) (hX : Inj X) (M : Mem) (c : Nat) (hc : isPage c) (w : Int) (h0 : 24 ≤ w) (hw : inR w) : CtV l X yX1_join wsX1_join 1 [vR X c, vI w] M (fun M' => M' = M) := by
  have h := ct_X1_join l X hX M c hc w hw
  rw [stt_out (by omega)] at h
  exact h
theorem cd_X2_clear : yX2_clear.cls = RX2 ∧ yX2_clear.cls ≠ "java/lang/invoke/MethodHandle" ∧ yX2_clear.cls ≠ "java/lang/invoke/VarHandle" ∧ (parseMethodDescriptor yX2_clear.desc).map (fun d => d.parameters.length) = some 0 := by decide +kernel
theorem fl_X1_joinAll_30 : Cond.fieldLink RX1 30 "WhiteRivers$Page" "begins" "LWhiteRivers$Row;" ∈ wsX1_joinAll := by decide +kernel
theorem in_X1_joinAll_1 : ∀ w ∈ u_ws RX1 TX1 6, w ∈ wsX1_joinAll := by decide +kernel
set_option maxRecDepth 100000 in
set_option maxHeartbeats 400000 in
theorem ct_X1_joinAll (l : Launch) (X : Cx) (hX : Inj X) (M : Mem) (c : Nat) (hc : isPage c) : CtV l X yX1_joinAll wsX1_joinAll 1 [vR X c] M (fun M' => M' = mclr M (c + 4) 24) := by
  refine CtV_of (cc := cX1_joinAll) (maxL := 1) hX (by decide +kernel) rfl (Nat.le_of_ble_eq_true rfl) ?_
  intro zp ze zs zm zargs zbelow zmeth zc zQ F hret
  show J zp l ze (rm 1) zs zm zargs zbelow zmeth zc 0 0 zQ zs.heap X 1 M 0 [(0, vR X c)] []
  refine j_aload_n (q := 1) F dX1_joinAll_0 rfl rfl 0 rfl ?_
  refine j_getR (q := 4) (z := c + 3) (index := 30) F (hc).1 rfl in_X1_joinAll_1 4 (by decide) rfl fl_X1_joinAll_30 dX1_joinAll_1 rfl ?_
  refine j_callVM (q := 7) F [] (ct_X2_clear l X hX M (c + 3) 24 ((hc).2.2.1) (by decide)) gX1_joinAll_X2_clear rfl cd_X2_clear ⟨by first | exact Nat.le_of_ble_eq_true rfl | (simp only [rm]; omega) | (simp [rm, vI, vR, Value.category]; omega), by first | exact Nat.le_of_ble_eq_true rfl | (simp only [rm]; omega) | (simp [rm, vI, vR, Value.category]; omega), by first | exact Nat.le_of_ble_eq_true rfl | (simp only [rm]; omega) | (simp [rm, vI, vR, Value.category]; omega), by first | exact Nat.le_of_ble_eq_true rfl | (simp only [rm]; omega) | (simp [rm, vI, vR, Value.category]; omega)⟩ ((hc).2.2.1).1 rfl rfl rfl (Nat.le_of_ble_eq_true rfl) dX1_joinAll_4 rfl ?_
  exact hret _ _ _ dX1_joinAll_7 (by rfl)
theorem fl_X1_setFrozen_33 : Cond.fieldLink RX1 33 "WhiteRivers$Page" "frozen" "LWhiteRivers$Row;" ∈ wsX1_setFrozen := by decide +kernel
theorem in_X1_setFrozen_1 : ∀ w ∈ u_ws RX1 TX1 6, w ∈ wsX1_setFrozen := by decide +kernel
set_option maxRecDepth 100000 in
set_option maxHeartbeats 400000 in
theorem ct_X1_setFrozen (l : Launch) (X : Cx) (hX : Inj X) (M : Mem) (c : Nat) (hc : isPage c) (w v : Int) (h0 : 0 ≤ w) (h1 : w < 24) : CtV l X yX1_setFrozen wsX1_setFrozen 1 [vR X c, vI w, vI v] M (fun M' => M' = mset M (c + 6) w v) := by
  refine CtV_of (cc := cX1_setFrozen) (maxL := 3) hX (by decide +kernel) rfl (Nat.le_of_ble_eq_true rfl) ?_
  intro zp ze zs zm zargs zbelow zmeth zc zQ F hret
  show J zp l ze (rm 1) zs zm zargs zbelow zmeth zc 0 0 zQ zs.heap X 3 M 0 [(0, vR X c), (1, vI w), (2, vI v)] []
  refine j_aload_n (q := 1) F dX1_setFrozen_0 rfl rfl 0 rfl ?_
  refine j_getR (q := 4) (z := c + 5) (index := 33) F (hc).1 rfl in_X1_setFrozen_1 5 (by decide) rfl fl_X1_setFrozen_33 dX1_setFrozen_1 rfl ?_
  refine j_iload_n (q := 5) F dX1_setFrozen_4 rfl rfl 1 rfl ?_
  refine j_iload_n (q := 6) F dX1_setFrozen_5 rfl rfl 2 rfl ?_
  refine j_callVM (q := 9) F [vI w, vI v] (ct_X2_set_in l X hX M (c + 5) 24 (c + 6) ((hc).2.2.2) (by decide) rfl w v (by omega) (by omega)) gX1_setFrozen_X2_set rfl cd_X2_set ⟨by first | exact Nat.le_of_ble_eq_true rfl | (simp only [rm]; omega) | (simp [rm, vI, vR, Value.category]; omega), by first | exact Nat.le_of_ble_eq_true rfl | (simp only [rm]; omega) | (simp [rm, vI, vR, Value.category]; omega), by first | exact Nat.le_of_ble_eq_true rfl | (simp only [rm]; omega) | (simp [rm, vI, vR, Value.category]; omega), by first | exact Nat.le_of_ble_eq_true rfl | (simp only [rm]; omega) | (simp [rm, vI, vR, Value.category]; omega)⟩ ((hc).2.2.2).1 rfl rfl rfl (Nat.le_of_ble_eq_true rfl) dX1_setFrozen_6 rfl ?_
  exact hret _ _ _ dX1_setFrozen_9 (by rfl)
theorem fl_X1_lines_18 : Cond.fieldLink RX1 18 "WhiteRivers$Page" "words" "I" ∈ wsX1_lines := by decide +kernel
theorem fl_X1_lines_30 : Cond.fieldLink RX1 30 "WhiteRivers$Page" "begins" "LWhiteRivers$Row;" ∈ wsX1_lines := by decide +kernel
theorem in_X1_lines_1 : ∀ w ∈ u_ws RX1 TX1 6, w ∈ wsX1_lines := by decide +kernel
set_option maxRecDepth 100000 in
set_option maxHeartbeats 400000 in
theorem ct_X1_lines (l : Launch) (X : Cx) (hX : Inj X) (M : Mem) (c : Nat) (hc : isPage c) (hn : 0 ≤ M c 2 ∧ M c 2 ≤ 24) : CtI l X yX1_lines wsX1_lines 1 [vR X c] M (fun x M' => M' = M ∧ x = cnt (M (c + 4)) (M c 2)) := by
  refine CtI_of (cc := cX1_lines) (maxL := 3) hX (by decide +kernel) rfl (Nat.le_of_ble_eq_true rfl) ?_
  intro zp ze zs zm zargs zbelow zmeth zc zQ F hret
  show J zp l ze (rm 1) zs zm zargs zbelow zmeth zc 0 0 zQ zs.heap X 3 M 0 [(0, vR X c)] []
  refine j_iconst (q := 1) F dX1_lines_0 rfl ?_
  refine j_istore_n (q := 2) (lv' := [(0, vR X c), (1, vI 0)]) F dX1_lines_1 rfl rfl (by decide) rfl rfl ?_
  refine j_iconst (q := 3) F dX1_lines_2 rfl ?_
  refine j_istore_n (q := 4) (lv' := [(0, vR X c), (1, vI 0), (2, vI 0)]) F dX1_lines_3 rfl rfl (by decide) rfl rfl ?_
  have LP4 : ∀ (nn : Nat) (acc w : Int), (0 ≤ w) → (w ≤ M c 2) → (acc = cnt (M (c + 4)) w) → (M c 2 - w).toNat < nn → J zp l ze (rm 1) zs zm zargs zbelow zmeth zc 0 0 zQ zs.heap X 3 M 4 [(0, vR X c), (1, vI acc), (2, vI w)] [] := by
    intro nn
    induction nn with
    | zero => intro acc w h0 h1 h2 hm4; exact absurd hm4 (Nat.not_lt_zero _)
    | succ nn ih4 =>
      intro acc w h0 h1 h2 hm4
      refine j_iload_n (q := 5) F dX1_lines_4 rfl rfl 2 rfl ?_
      refine j_aload_n (q := 6) F dX1_lines_5 rfl rfl 0 rfl ?_
      refine j_getI (q := 9) (i := 2) (index := 18) F (hc).1 rfl in_X1_lines_1 2 (by decide) rfl rfl fl_X1_lines_18 dX1_lines_6 rfl ?_
      refine j_icmp_ge (q := 12) (tgt := 29) F dX1_lines_9 (by decide) rfl ⟨by omega, by omega⟩ ⟨by omega, by omega⟩ (fun h9_1 => ?_) (fun h9_1 => ?_)
      · skip
        refine j_iload_n (q := 30) F dX1_lines_29 rfl rfl 1 rfl ?_
        exact hret _ _ _ _ dX1_lines_30 (by refine ⟨rfl, ?_⟩; rw [h2, show w = M c 2 by omega])
      · skip
        refine j_iload_n (q := 13) F dX1_lines_12 rfl rfl 1 rfl ?_
        refine j_aload_n (q := 14) F dX1_lines_13 rfl rfl 0 rfl ?_
        refine j_getR (q := 17) (z := c + 3) (index := 30) F (hc).1 rfl in_X1_lines_1 4 (by decide) rfl fl_X1_lines_30 dX1_lines_14 rfl ?_
        refine j_iload_n (q := 18) F dX1_lines_17 rfl rfl 2 rfl ?_
        refine j_callVE (q := 21) F [vI w] (ct_X2_get_in l X hX M (c + 3) 24 (c + 4) ((hc).2.2.1) (by decide) rfl w (by omega) (by omega)) gX1_lines_X2_get rfl cd_X2_get ⟨by first | exact Nat.le_of_ble_eq_true rfl | (simp only [rm]; omega) | (simp [rm, vI, vR, Value.category]; omega), by first | exact Nat.le_of_ble_eq_true rfl | (simp only [rm]; omega) | (simp [rm, vI, vR, Value.category]; omega), by first | exact Nat.le_of_ble_eq_true rfl | (simp only [rm]; omega) | (simp [rm, vI, vR, Value.category]; omega), by first | exact Nat.le_of_ble_eq_true rfl | (simp only [rm]; omega) | (simp [rm, vI, vR, Value.category]; omega)⟩ ((hc).2.2.1).1 rfl rfl rfl (Nat.le_of_ble_eq_true rfl) dX1_lines_18 rfl ?_
        refine j_iadd (q := 22) (z := acc + (M (c + 4) w)) F dX1_lines_21 rfl rfl ?_
        refine j_istore_n (q := 23) (lv' := [(0, vR X c), (1, vI (acc + (M (c + 4) w))), (2, vI w)]) F dX1_lines_22 rfl rfl (by decide) rfl rfl ?_
        refine j_iinc (q := 26) (lv' := [(0, vR X c), (1, vI (acc + (M (c + 4) w))), (2, vI (w + 1))]) F dX1_lines_23 rfl 2 rfl (by decide) rfl rfl ?_
        refine j_goto (q := 4) F dX1_lines_26 (by decide) ?_
        exact ih4 (acc + (M (c + 4) w)) (w + 1) (by omega) (by omega) (by rw [cnt_s _ h0]; omega) (by omega)
  exact LP4 _ 0 0 (by omega) (by omega) (by exact (cnt_0 _).symm) (by exact Nat.lt_succ_self _)
theorem fl_X1_frozenLines_18 : Cond.fieldLink RX1 18 "WhiteRivers$Page" "words" "I" ∈ wsX1_frozenLines := by decide +kernel
theorem fl_X1_frozenLines_33 : Cond.fieldLink RX1 33 "WhiteRivers$Page" "frozen" "LWhiteRivers$Row;" ∈ wsX1_frozenLines := by decide +kernel
theorem in_X1_frozenLines_1 : ∀ w ∈ u_ws RX1 TX1 6, w ∈ wsX1_frozenLines := by decide +kernel
set_option maxRecDepth 100000 in
set_option maxHeartbeats 400000 in
theorem ct_X1_frozenLines (l : Launch) (X : Cx) (hX : Inj X) (M : Mem) (c : Nat) (hc : isPage c) (hn : 0 ≤ M c 2 ∧ M c 2 ≤ 24) : CtI l X yX1_frozenLines wsX1_frozenLines 1 [vR X c] M (fun x M' => M' = M ∧ x = cnt (M (c + 6)) (M c 2)) := by
  refine CtI_of (cc := cX1_frozenLines) (maxL := 3) hX (by decide +kernel) rfl (Nat.le_of_ble_eq_true rfl) ?_
  intro zp ze zs zm zargs zbelow zmeth zc zQ F hret
  show J zp l ze (rm 1) zs zm zargs zbelow zmeth zc 0 0 zQ zs.heap X 3 M 0 [(0, vR X c)] []
  refine j_iconst (q := 1) F dX1_frozenLines_0 rfl ?_
  refine j_istore_n (q := 2) (lv' := [(0, vR X c), (1, vI 0)]) F dX1_frozenLines_1 rfl rfl (by decide) rfl rfl ?_
  refine j_iconst (q := 3) F dX1_frozenLines_2 rfl ?_
  refine j_istore_n (q := 4) (lv' := [(0, vR X c), (1, vI 0), (2, vI 0)]) F dX1_frozenLines_3 rfl rfl (by decide) rfl rfl ?_
  have LP4 : ∀ (nn : Nat) (acc w : Int), (0 ≤ w) → (w ≤ M c 2) → (acc = cnt (M (c + 6)) w) → (M c 2 - w).toNat < nn → J zp l ze (rm 1) zs zm zargs zbelow zmeth zc 0 0 zQ zs.heap X 3 M 4 [(0, vR X c), (1, vI acc), (2, vI w)] [] := by
    intro nn
    induction nn with
    | zero => intro acc w h0 h1 h2 hm4; exact absurd hm4 (Nat.not_lt_zero _)
    | succ nn ih4 =>
      intro acc w h0 h1 h2 hm4
      refine j_iload_n (q := 5) F dX1_frozenLines_4 rfl rfl 2 rfl ?_
      refine j_aload_n (q := 6) F dX1_frozenLines_5 rfl rfl 0 rfl ?_
      refine j_getI (q := 9) (i := 2) (index := 18) F (hc).1 rfl in_X1_frozenLines_1 2 (by decide) rfl rfl fl_X1_frozenLines_18 dX1_frozenLines_6 rfl ?_
      refine j_icmp_ge (q := 12) (tgt := 29) F dX1_frozenLines_9 (by decide) rfl ⟨by omega, by omega⟩ ⟨by omega, by omega⟩ (fun h9_1 => ?_) (fun h9_1 => ?_)
      · skip
        refine j_iload_n (q := 30) F dX1_frozenLines_29 rfl rfl 1 rfl ?_
        exact hret _ _ _ _ dX1_frozenLines_30 (by refine ⟨rfl, ?_⟩; rw [h2, show w = M c 2 by omega])
      · skip
        refine j_iload_n (q := 13) F dX1_frozenLines_12 rfl rfl 1 rfl ?_
        refine j_aload_n (q := 14) F dX1_frozenLines_13 rfl rfl 0 rfl ?_
        refine j_getR (q := 17) (z := c + 5) (index := 33) F (hc).1 rfl in_X1_frozenLines_1 5 (by decide) rfl fl_X1_frozenLines_33 dX1_frozenLines_14 rfl ?_
        refine j_iload_n (q := 18) F dX1_frozenLines_17 rfl rfl 2 rfl ?_
        refine j_callVE (q := 21) F [vI w] (ct_X2_get_in l X hX M (c + 5) 24 (c + 6) ((hc).2.2.2) (by decide) rfl w (by omega) (by omega)) gX1_frozenLines_X2_get rfl cd_X2_get ⟨by first | exact Nat.le_of_ble_eq_true rfl | (simp only [rm]; omega) | (simp [rm, vI, vR, Value.category]; omega), by first | exact Nat.le_of_ble_eq_true rfl | (simp only [rm]; omega) | (simp [rm, vI, vR, Value.category]; omega), by first | exact Nat.le_of_ble_eq_true rfl | (simp only [rm]; omega) | (simp [rm, vI, vR, Value.category]; omega), by first | exact Nat.le_of_ble_eq_true rfl | (simp only [rm]; omega) | (simp [rm, vI, vR, Value.category]; omega)⟩ ((hc).2.2.2).1 rfl rfl rfl (Nat.le_of_ble_eq_true rfl) dX1_frozenLines_18 rfl ?_
        refine j_iadd (q := 22) (z := acc + (M (c + 6) w)) F dX1_frozenLines_21 rfl rfl ?_
        refine j_istore_n (q := 23) (lv' := [(0, vR X c), (1, vI (acc + (M (c + 6) w))), (2, vI w)]) F dX1_frozenLines_22 rfl rfl (by decide) rfl rfl ?_
        refine j_iinc (q := 26) (lv' := [(0, vR X c), (1, vI (acc + (M (c + 6) w))), (2, vI (w + 1))]) F dX1_frozenLines_23 rfl 2 rfl (by decide) rfl rfl ?_
        refine j_goto (q := 4) F dX1_frozenLines_26 (by decide) ?_
        exact ih4 (acc + (M (c + 6) w)) (w + 1) (by omega) (by omega) (by rw [cnt_s _ h0]; omega) (by omega)
  exact LP4 _ 0 0 (by omega) (by omega) (by exact (cnt_0 _).symm) (by exact Nat.lt_succ_self _)
theorem cd_X1_lines : yX1_lines.cls = RX1 ∧ yX1_lines.cls ≠ "java/lang/invoke/MethodHandle" ∧ yX1_lines.cls ≠ "java/lang/invoke/VarHandle" ∧ (parseMethodDescriptor yX1_lines.desc).map (fun d => d.parameters.length) = some 0 := by decide +kernel
set_option maxRecDepth 100000 in
set_option maxHeartbeats 400000 in
theorem ct_X1_hasLine (l : Launch) (X : Cx) (hX : Inj X) (M : Mem) (c : Nat) (hc : isPage c) (hn : 0 ≤ M c 2 ∧ M c 2 ≤ 24) (i : Int) (hi : inR i) (hL : inR (cnt (M (c + 4)) (M c 2))) : CtI l X yX1_hasLine wsX1_hasLine 2 [vR X c, vI i] M (fun x M' => M' = M ∧ (x = 1 ∧ (0 ≤ i ∧ i < cnt (M (c + 4)) (M c 2)) ∨ x = 0 ∧ (i < 0 ∨ cnt (M (c + 4)) (M c 2) ≤ i))) := by
  refine CtI_ofZ (cc := cX1_hasLine) (maxL := 2) hX (by decide +kernel) rfl (Nat.le_of_ble_eq_true rfl) ?_
  intro zp ze zs zm zargs zbelow zmeth zc zQ F hret
  show J zp l ze (rm 2) zs zm zargs zbelow zmeth zc 0 0 zQ zs.heap X 2 M 0 [(0, vR X c), (1, vI i)] []
  obtain ⟨hi1, hi2⟩ := hi
  obtain ⟨hL1, hL2⟩ := hL
  refine j_iload_n (q := 1) F dX1_hasLine_0 rfl rfl 1 rfl ?_
  refine j_if_lt (q := 4) (tgt := 16) F dX1_hasLine_1 (by decide) rfl ⟨by omega, by omega⟩ (fun h1_1 => ?_) (fun h1_1 => ?_)
  · skip
    refine j_iconst (q := 17) F dX1_hasLine_16 rfl ?_
    exact hret _ _ _ _ dX1_hasLine_17 (Or.inl rfl) (by refine ⟨rfl, ?_⟩; omega)
  · skip
    refine j_iload_n (q := 5) F dX1_hasLine_4 rfl rfl 1 rfl ?_
    refine j_aload_n (q := 6) F dX1_hasLine_5 rfl rfl 0 rfl ?_
    refine j_callVE (q := 9) F [] (ct_X1_lines l X hX M c (hc) (by omega)) gX1_hasLine_X1_lines rfl cd_X1_lines ⟨by first | exact Nat.le_of_ble_eq_true rfl | (simp only [rm]; omega) | (simp [rm, vI, vR, Value.category]; omega), by first | exact Nat.le_of_ble_eq_true rfl | (simp only [rm]; omega) | (simp [rm, vI, vR, Value.category]; omega), by first | exact Nat.le_of_ble_eq_true rfl | (simp only [rm]; omega) | (simp [rm, vI, vR, Value.category]; omega), by first | exact Nat.le_of_ble_eq_true rfl | (simp only [rm]; omega) | (simp [rm, vI, vR, Value.category]; omega)⟩ (hc).1 rfl rfl rfl (Nat.le_of_ble_eq_true rfl) dX1_hasLine_6 rfl ?_
    refine j_icmp_ge (q := 12) (tgt := 16) F dX1_hasLine_9 (by decide) rfl ⟨by omega, by omega⟩ ⟨by omega, by omega⟩ (fun h9_3 => ?_) (fun h9_3 => ?_)
    · skip
      refine j_iconst (q := 17) F dX1_hasLine_16 rfl ?_
      exact hret _ _ _ _ dX1_hasLine_17 (Or.inl rfl) (by refine ⟨rfl, ?_⟩; omega)
    · skip
      refine j_iconst (q := 13) F dX1_hasLine_12 rfl ?_
      refine j_goto (q := 17) F dX1_hasLine_13 (by decide) ?_
      exact hret _ _ _ _ dX1_hasLine_17 (Or.inr rfl) (by refine ⟨rfl, ?_⟩; omega)
theorem fl_X1_firstOf_18 : Cond.fieldLink RX1 18 "WhiteRivers$Page" "words" "I" ∈ wsX1_firstOf := by decide +kernel
theorem fl_X1_firstOf_30 : Cond.fieldLink RX1 30 "WhiteRivers$Page" "begins" "LWhiteRivers$Row;" ∈ wsX1_firstOf := by decide +kernel
theorem in_X1_firstOf_1 : ∀ w ∈ u_ws RX1 TX1 6, w ∈ wsX1_firstOf := by decide +kernel
set_option maxRecDepth 100000 in
set_option maxHeartbeats 400000 in
theorem ct_X1_firstOf (l : Launch) (X : Cx) (hX : Inj X) (M : Mem) (c : Nat) (hc : isPage c) (hn : 0 ≤ M c 2 ∧ M c 2 ≤ 24) (i : Int) (hi : inR i) (hb : ∀ w, 0 ≤ w → w < M c 2 → inR (cnt (M (c + 4)) (w + 1))) : CtI l X yX1_firstOf wsX1_firstOf 1 [vR X c, vI i] M (fun x M' => M' = M ∧ FstP (M (c + 4)) (M c 2) i x) := by
  refine CtI_of (cc := cX1_firstOf) (maxL := 4) hX (by decide +kernel) rfl (Nat.le_of_ble_eq_true rfl) ?_
  intro zp ze zs zm zargs zbelow zmeth zc zQ F hret
  show J zp l ze (rm 1) zs zm zargs zbelow zmeth zc 0 0 zQ zs.heap X 4 M 0 [(0, vR X c), (1, vI i)] []
  obtain ⟨hi1, hi2⟩ := hi
  refine j_iconst (q := 1) F dX1_firstOf_0 rfl ?_
  refine j_istore_n (q := 2) (lv' := [(0, vR X c), (1, vI i), (2, vI 0)]) F dX1_firstOf_1 rfl rfl (by decide) rfl rfl ?_
  refine j_iconst (q := 3) F dX1_firstOf_2 rfl ?_
  refine j_istore_n (q := 4) (lv' := [(0, vR X c), (1, vI i), (2, vI 0), (3, vI 0)]) F dX1_firstOf_3 rfl rfl (by decide) rfl rfl ?_
  have LP4 : ∀ (nn : Nat) (acc w : Int), (0 ≤ w) → (w ≤ M c 2) → (acc = cnt (M (c + 4)) w) → (∀ j, 0 ≤ j → j < w → cnt (M (c + 4)) (j + 1) ≤ i) → (M c 2 - w).toNat < nn → J zp l ze (rm 1) zs zm zargs zbelow zmeth zc 0 0 zQ zs.heap X 4 M 4 [(0, vR X c), (1, vI i), (2, vI acc), (3, vI w)] [] := by
    intro nn
    induction nn with
    | zero => intro acc w h0 h1 h2 h3 hm4; exact absurd hm4 (Nat.not_lt_zero _)
    | succ nn ih4 =>
      intro acc w h0 h1 h2 h3 hm4
      refine j_iload_n (q := 5) F dX1_firstOf_4 rfl rfl 3 rfl ?_
      refine j_aload_n (q := 6) F dX1_firstOf_5 rfl rfl 0 rfl ?_
      refine j_getI (q := 9) (i := 2) (index := 18) F (hc).1 rfl in_X1_firstOf_1 2 (by decide) rfl rfl fl_X1_firstOf_18 dX1_firstOf_6 rfl ?_
      refine j_icmp_ge (q := 12) (tgt := 36) F dX1_firstOf_9 (by decide) rfl ⟨by omega, by omega⟩ ⟨by omega, by omega⟩ (fun h9_1 => ?_) (fun h9_1 => ?_)
      · skip
        refine j_aload_n (q := 37) F dX1_firstOf_36 rfl rfl 0 rfl ?_
        refine j_getI (q := 40) (i := 2) (index := 18) F (hc).1 rfl in_X1_firstOf_1 2 (by decide) rfl rfl fl_X1_firstOf_18 dX1_firstOf_37 rfl ?_
        exact hret _ _ _ _ dX1_firstOf_40 (by exact ⟨rfl, fun j g0 g1 => h3 j g0 (by omega), fun g => absurd g (by omega), hn.1, by omega⟩)
      · skip
        refine j_iload_n (q := 13) F dX1_firstOf_12 rfl rfl 2 rfl ?_
        refine j_aload_n (q := 14) F dX1_firstOf_13 rfl rfl 0 rfl ?_
        refine j_getR (q := 17) (z := c + 3) (index := 30) F (hc).1 rfl in_X1_firstOf_1 4 (by decide) rfl fl_X1_firstOf_30 dX1_firstOf_14 rfl ?_
        refine j_iload_n (q := 18) F dX1_firstOf_17 rfl rfl 3 rfl ?_
        refine j_callVE (q := 21) F [vI w] (ct_X2_get_in l X hX M (c + 3) 24 (c + 4) ((hc).2.2.1) (by decide) rfl w (by omega) (by omega)) gX1_firstOf_X2_get rfl cd_X2_get ⟨by first | exact Nat.le_of_ble_eq_true rfl | (simp only [rm]; omega) | (simp [rm, vI, vR, Value.category]; omega), by first | exact Nat.le_of_ble_eq_true rfl | (simp only [rm]; omega) | (simp [rm, vI, vR, Value.category]; omega), by first | exact Nat.le_of_ble_eq_true rfl | (simp only [rm]; omega) | (simp [rm, vI, vR, Value.category]; omega), by first | exact Nat.le_of_ble_eq_true rfl | (simp only [rm]; omega) | (simp [rm, vI, vR, Value.category]; omega)⟩ ((hc).2.2.1).1 rfl rfl rfl (Nat.le_of_ble_eq_true rfl) dX1_firstOf_18 rfl ?_
        refine j_iadd (q := 22) (z := acc + (M (c + 4) w)) F dX1_firstOf_21 rfl rfl ?_
        refine j_istore_n (q := 23) (lv' := [(0, vR X c), (1, vI i), (2, vI (acc + (M (c + 4) w))), (3, vI w)]) F dX1_firstOf_22 rfl rfl (by decide) rfl rfl ?_
        refine j_iload_n (q := 24) F dX1_firstOf_23 rfl rfl 2 rfl ?_
        refine j_iload_n (q := 25) F dX1_firstOf_24 rfl rfl 1 rfl ?_
        refine j_icmp_le (q := 28) (tgt := 30) F dX1_firstOf_25 (by decide) rfl (by rw [h2, ← cnt_s _ h0]; exact hb w h0 (by omega)) ⟨by omega, by omega⟩ (fun h25_3 => ?_) (fun h25_3 => ?_)
        · skip
          refine j_iinc (q := 33) (lv' := [(0, vR X c), (1, vI i), (2, vI (acc + (M (c + 4) w))), (3, vI (w + 1))]) F dX1_firstOf_30 rfl 3 rfl (by decide) rfl rfl ?_
          refine j_goto (q := 4) F dX1_firstOf_33 (by decide) ?_
          refine ih4 (acc + (M (c + 4) w)) (w + 1) (by omega) (by omega) (by rw [cnt_s _ h0]; omega) ?_ (by omega)
          · intro j g0 g1; by_cases hj : j = w
            · subst hj; rw [cnt_s _ h0]; omega
            · exact h3 j g0 (by omega)
        · skip
          refine j_iload_n (q := 29) F dX1_firstOf_28 rfl rfl 3 rfl ?_
          exact hret _ _ _ _ dX1_firstOf_29 (by exact ⟨rfl, h3, fun _ => by rw [cnt_s _ h0]; omega, h0, h1⟩)
  exact LP4 _ 0 0 (by omega) (by omega) (by exact (cnt_0 _).symm) (by intro j g0 g1; omega) (by exact Nat.lt_succ_self _)
theorem fl_X1_endOf_18 : Cond.fieldLink RX1 18 "WhiteRivers$Page" "words" "I" ∈ wsX1_endOf := by decide +kernel
theorem fl_X1_endOf_30 : Cond.fieldLink RX1 30 "WhiteRivers$Page" "begins" "LWhiteRivers$Row;" ∈ wsX1_endOf := by decide +kernel
theorem in_X1_endOf_1 : ∀ w ∈ u_ws RX1 TX1 6, w ∈ wsX1_endOf := by decide +kernel
set_option maxRecDepth 100000 in
set_option maxHeartbeats 400000 in
theorem ct_X1_endOf (l : Launch) (X : Cx) (hX : Inj X) (M : Mem) (c : Nat) (hc : isPage c) (hn : 0 ≤ M c 2 ∧ M c 2 ≤ 24) (f : Int) (hf : 0 ≤ f ∧ f ≤ 24) (hb : ∀ w, 0 ≤ w → w < M c 2 → inR (M (c + 4) w)) : CtI l X yX1_endOf wsX1_endOf 1 [vR X c, vI f] M (fun x M' => M' = M ∧ EndP (M (c + 4)) (M c 2) f x) := by
  refine CtI_of (cc := cX1_endOf) (maxL := 3) hX (by decide +kernel) rfl (Nat.le_of_ble_eq_true rfl) ?_
  intro zp ze zs zm zargs zbelow zmeth zc zQ F hret
  show J zp l ze (rm 1) zs zm zargs zbelow zmeth zc 0 0 zQ zs.heap X 3 M 0 [(0, vR X c), (1, vI f)] []
  refine j_iload_n (q := 1) F dX1_endOf_0 rfl rfl 1 rfl ?_
  refine j_iconst (q := 2) F dX1_endOf_1 rfl ?_
  refine j_iadd (q := 3) (z := f + 1) F dX1_endOf_2 rfl rfl ?_
  refine j_istore_n (q := 4) (lv' := [(0, vR X c), (1, vI f), (2, vI (f + 1))]) F dX1_endOf_3 rfl rfl (by decide) rfl rfl ?_
  have LP4 : ∀ (nn : Nat) (w : Int), (f + 1 ≤ w) → (w ≤ 25) → (∀ j, f < j → j < w → M (c + 4) j ≠ 1) → (f + 1 < w → w ≤ M c 2) → (25 - w).toNat < nn → J zp l ze (rm 1) zs zm zargs zbelow zmeth zc 0 0 zQ zs.heap X 3 M 4 [(0, vR X c), (1, vI f), (2, vI w)] [] := by
    intro nn
    induction nn with
    | zero => intro w h0 h1 h3 h4 hm4; exact absurd hm4 (Nat.not_lt_zero _)
    | succ nn ih4 =>
      intro w h0 h1 h3 h4 hm4
      refine j_iload_n (q := 5) F dX1_endOf_4 rfl rfl 2 rfl ?_
      refine j_aload_n (q := 6) F dX1_endOf_5 rfl rfl 0 rfl ?_
      refine j_getI (q := 9) (i := 2) (index := 18) F (hc).1 rfl in_X1_endOf_1 2 (by decide) rfl rfl fl_X1_endOf_18 dX1_endOf_6 rfl ?_
      refine j_icmp_ge (q := 12) (tgt := 32) F dX1_endOf_9 (by decide) rfl ⟨by omega, by omega⟩ ⟨by omega, by omega⟩ (fun h9_1 => ?_) (fun h9_1 => ?_)
      · skip
        refine j_aload_n (q := 33) F dX1_endOf_32 rfl rfl 0 rfl ?_
        refine j_getI (q := 36) (i := 2) (index := 18) F (hc).1 rfl in_X1_endOf_1 2 (by decide) rfl rfl fl_X1_endOf_18 dX1_endOf_33 rfl ?_
        exact hret _ _ _ _ dX1_endOf_36 (by exact ⟨rfl, fun j g0 g1 => h3 j g0 (by omega), fun g => absurd g (by omega), by omega, fun g => by omega⟩)
      · skip
        refine j_aload_n (q := 13) F dX1_endOf_12 rfl rfl 0 rfl ?_
        refine j_getR (q := 16) (z := c + 3) (index := 30) F (hc).1 rfl in_X1_endOf_1 4 (by decide) rfl fl_X1_endOf_30 dX1_endOf_13 rfl ?_
        refine j_iload_n (q := 17) F dX1_endOf_16 rfl rfl 2 rfl ?_
        refine j_callVE (q := 20) F [vI w] (ct_X2_get_in l X hX M (c + 3) 24 (c + 4) ((hc).2.2.1) (by decide) rfl w (by omega) (by omega)) gX1_endOf_X2_get rfl cd_X2_get ⟨by first | exact Nat.le_of_ble_eq_true rfl | (simp only [rm]; omega) | (simp [rm, vI, vR, Value.category]; omega), by first | exact Nat.le_of_ble_eq_true rfl | (simp only [rm]; omega) | (simp [rm, vI, vR, Value.category]; omega), by first | exact Nat.le_of_ble_eq_true rfl | (simp only [rm]; omega) | (simp [rm, vI, vR, Value.category]; omega), by first | exact Nat.le_of_ble_eq_true rfl | (simp only [rm]; omega) | (simp [rm, vI, vR, Value.category]; omega)⟩ ((hc).2.2.1).1 rfl rfl rfl (Nat.le_of_ble_eq_true rfl) dX1_endOf_17 rfl ?_
        refine j_iconst (q := 21) F dX1_endOf_20 rfl ?_
        refine j_icmp_ne (q := 24) (tgt := 26) F dX1_endOf_21 (by decide) rfl (hb w (by omega) (by omega)) ⟨by decide, by decide⟩ (fun h21_3 => ?_) (fun h21_3 => ?_)
        · skip
          refine j_iinc (q := 29) (lv' := [(0, vR X c), (1, vI f), (2, vI (w + 1))]) F dX1_endOf_26 rfl 2 rfl (by decide) rfl rfl ?_
          refine j_goto (q := 4) F dX1_endOf_29 (by decide) ?_
          refine ih4 (w + 1) (by omega) (by omega) ?_ (by omega) (by omega)
          · intro j g0 g1; by_cases hj : j = w
            · subst hj; assumption
            · exact h3 j g0 (by omega)
        · skip
          refine j_iload_n (q := 25) F dX1_endOf_24 rfl rfl 2 rfl ?_
          exact hret _ _ _ _ dX1_endOf_25 (by exact ⟨rfl, h3, fun _ => ⟨by assumption, by omega⟩, by omega, fun _ => by omega⟩)
  exact LP4 _ (f + 1) (by omega) (by omega) (by intro j g0 g1; omega) (by omega) (by exact Nat.lt_succ_self _)
theorem fl_X1_lineOf_18 : Cond.fieldLink RX1 18 "WhiteRivers$Page" "words" "I" ∈ wsX1_lineOf := by decide +kernel
theorem fl_X1_lineOf_30 : Cond.fieldLink RX1 30 "WhiteRivers$Page" "begins" "LWhiteRivers$Row;" ∈ wsX1_lineOf := by decide +kernel
theorem in_X1_lineOf_1 : ∀ w ∈ u_ws RX1 TX1 6, w ∈ wsX1_lineOf := by decide +kernel
set_option maxRecDepth 100000 in
set_option maxHeartbeats 400000 in
theorem ct_X1_lineOf (l : Launch) (X : Cx) (hX : Inj X) (M : Mem) (c : Nat) (hc : isPage c) (hn : 0 ≤ M c 2 ∧ M c 2 ≤ 24) (w : Int) (h0 : 0 ≤ w) (hw : w < M c 2) : CtI l X yX1_lineOf wsX1_lineOf 1 [vR X c, vI w] M (fun x M' => M' = M ∧ x = cnt (M (c + 4)) (w + 1) - 1) := by
  refine CtI_of (cc := cX1_lineOf) (maxL := 4) hX (by decide +kernel) rfl (Nat.le_of_ble_eq_true rfl) ?_
  intro zp ze zs zm zargs zbelow zmeth zc zQ F hret
  show J zp l ze (rm 1) zs zm zargs zbelow zmeth zc 0 0 zQ zs.heap X 4 M 0 [(0, vR X c), (1, vI w)] []
  refine j_iconst (q := 1) F dX1_lineOf_0 rfl ?_
  refine j_istore_n (q := 2) (lv' := [(0, vR X c), (1, vI w), (2, vI ((-1)))]) F dX1_lineOf_1 rfl rfl (by decide) rfl rfl ?_
  refine j_iconst (q := 3) F dX1_lineOf_2 rfl ?_
  refine j_istore_n (q := 4) (lv' := [(0, vR X c), (1, vI w), (2, vI ((-1))), (3, vI 0)]) F dX1_lineOf_3 rfl rfl (by decide) rfl rfl ?_
  have LP4 : ∀ (nn : Nat) (acc j : Int), (0 ≤ j) → (j ≤ w + 1) → (acc = cnt (M (c + 4)) j - 1) → (w + 1 - j).toNat < nn → J zp l ze (rm 1) zs zm zargs zbelow zmeth zc 0 0 zQ zs.heap X 4 M 4 [(0, vR X c), (1, vI w), (2, vI acc), (3, vI j)] [] := by
    intro nn
    induction nn with
    | zero => intro acc j g0 g1 g2 hm4; exact absurd hm4 (Nat.not_lt_zero _)
    | succ nn ih4 =>
      intro acc j g0 g1 g2 hm4
      refine j_iload_n (q := 5) F dX1_lineOf_4 rfl rfl 3 rfl ?_
      refine j_iload_n (q := 6) F dX1_lineOf_5 rfl rfl 1 rfl ?_
      refine j_icmp_gt (q := 9) (tgt := 34) F dX1_lineOf_6 (by decide) rfl ⟨by omega, by omega⟩ ⟨by omega, by omega⟩ (fun h6_1 => ?_) (fun h6_1 => ?_)
      · skip
        refine j_iload_n (q := 35) F dX1_lineOf_34 rfl rfl 2 rfl ?_
        exact hret _ _ _ _ dX1_lineOf_35 (by refine ⟨rfl, ?_⟩; rw [g2, show j = w + 1 by omega])
      · skip
        refine j_iload_n (q := 10) F dX1_lineOf_9 rfl rfl 3 rfl ?_
        refine j_aload_n (q := 11) F dX1_lineOf_10 rfl rfl 0 rfl ?_
        refine j_getI (q := 14) (i := 2) (index := 18) F (hc).1 rfl in_X1_lineOf_1 2 (by decide) rfl rfl fl_X1_lineOf_18 dX1_lineOf_11 rfl ?_
        refine j_icmp_ge (q := 17) (tgt := 34) F dX1_lineOf_14 (by decide) rfl ⟨by omega, by omega⟩ ⟨by omega, by omega⟩ (fun h14_2 => ?_) (fun h14_2 => ?_)
        · skip
          refine j_iload_n (q := 35) F dX1_lineOf_34 rfl rfl 2 rfl ?_
          exact hret _ _ _ _ dX1_lineOf_35 (by refine ⟨rfl, ?_⟩; rw [g2, show j = w + 1 by omega])
        · skip
          refine j_iload_n (q := 18) F dX1_lineOf_17 rfl rfl 2 rfl ?_
          refine j_aload_n (q := 19) F dX1_lineOf_18 rfl rfl 0 rfl ?_
          refine j_getR (q := 22) (z := c + 3) (index := 30) F (hc).1 rfl in_X1_lineOf_1 4 (by decide) rfl fl_X1_lineOf_30 dX1_lineOf_19 rfl ?_
          refine j_iload_n (q := 23) F dX1_lineOf_22 rfl rfl 3 rfl ?_
          refine j_callVE (q := 26) F [vI j] (ct_X2_get_in l X hX M (c + 3) 24 (c + 4) ((hc).2.2.1) (by decide) rfl j (by omega) (by omega)) gX1_lineOf_X2_get rfl cd_X2_get ⟨by first | exact Nat.le_of_ble_eq_true rfl | (simp only [rm]; omega) | (simp [rm, vI, vR, Value.category]; omega), by first | exact Nat.le_of_ble_eq_true rfl | (simp only [rm]; omega) | (simp [rm, vI, vR, Value.category]; omega), by first | exact Nat.le_of_ble_eq_true rfl | (simp only [rm]; omega) | (simp [rm, vI, vR, Value.category]; omega), by first | exact Nat.le_of_ble_eq_true rfl | (simp only [rm]; omega) | (simp [rm, vI, vR, Value.category]; omega)⟩ ((hc).2.2.1).1 rfl rfl rfl (Nat.le_of_ble_eq_true rfl) dX1_lineOf_23 rfl ?_
          refine j_iadd (q := 27) (z := acc + (M (c + 4) j)) F dX1_lineOf_26 rfl rfl ?_
          refine j_istore_n (q := 28) (lv' := [(0, vR X c), (1, vI w), (2, vI (acc + (M (c + 4) j))), (3, vI j)]) F dX1_lineOf_27 rfl rfl (by decide) rfl rfl ?_
          refine j_iinc (q := 31) (lv' := [(0, vR X c), (1, vI w), (2, vI (acc + (M (c + 4) j))), (3, vI (j + 1))]) F dX1_lineOf_28 rfl 3 rfl (by decide) rfl rfl ?_
          refine j_goto (q := 4) F dX1_lineOf_31 (by decide) ?_
          exact ih4 (acc + (M (c + 4) j)) (j + 1) (by omega) (by omega) (by rw [cnt_s _ g0]; omega) (by omega)
  exact LP4 _ ((-1)) 0 (by omega) (by omega) (by rw [cnt_0]; rfl) (by exact Nat.lt_succ_self _)
theorem cd_X1_endOf : yX1_endOf.cls = RX1 ∧ yX1_endOf.cls ≠ "java/lang/invoke/MethodHandle" ∧ yX1_endOf.cls ≠ "java/lang/invoke/VarHandle" ∧ (parseMethodDescriptor yX1_endOf.desc).map (fun d => d.parameters.length) = some 1 := by decide +kernel
theorem fl_X1_isLine_30 : Cond.fieldLink RX1 30 "WhiteRivers$Page" "begins" "LWhiteRivers$Row;" ∈ wsX1_isLine := by decide +kernel
theorem in_X1_isLine_1 : ∀ w ∈ u_ws RX1 TX1 6, w ∈ wsX1_isLine := by decide +kernel
set_option maxRecDepth 100000 in
set_option maxHeartbeats 400000 in
theorem ct_X1_isLine (l : Launch) (X : Cx) (hX : Inj X) (M : Mem) (c : Nat) (hc : isPage c) (hn : 0 ≤ M c 2 ∧ M c 2 ≤ 24) (f t : Int) (h0 : 0 ≤ f) (h1 : f < M c 2) (ht : inR t) (hb : ∀ w, 0 ≤ w → w < M c 2 → inR (M (c + 4) w)) : CtI l X yX1_isLine wsX1_isLine 2 [vR X c, vI f, vI t] M (fun x M' => M' = M ∧ (x = 1 ∧ (M (c + 4) f = 1 ∧ EndP (M (c + 4)) (M c 2) f t) ∨ x = 0 ∧ ¬ (M (c + 4) f = 1 ∧ EndP (M (c + 4)) (M c 2) f t))) := by
  refine CtI_ofZ (cc := cX1_isLine) (maxL := 3) hX (by decide +kernel) rfl (Nat.le_of_ble_eq_true rfl) ?_
  intro zp ze zs zm zargs zbelow zmeth zc zQ F hret
  show J zp l ze (rm 2) zs zm zargs zbelow zmeth zc 0 0 zQ zs.heap X 3 M 0 [(0, vR X c), (1, vI f), (2, vI t)] []
  obtain ⟨ht1, ht2⟩ := ht
  refine j_aload_n (q := 1) F dX1_isLine_0 rfl rfl 0 rfl ?_
  refine j_getR (q := 4) (z := c + 3) (index := 30) F (hc).1 rfl in_X1_isLine_1 4 (by decide) rfl fl_X1_isLine_30 dX1_isLine_1 rfl ?_
  refine j_iload_n (q := 5) F dX1_isLine_4 rfl rfl 1 rfl ?_
  refine j_callVE (q := 8) F [vI f] (ct_X2_get_in l X hX M (c + 3) 24 (c + 4) ((hc).2.2.1) (by decide) rfl f (by omega) (by omega)) gX1_isLine_X2_get rfl cd_X2_get ⟨by first | exact Nat.le_of_ble_eq_true rfl | (simp only [rm]; omega) | (simp [rm, vI, vR, Value.category]; omega), by first | exact Nat.le_of_ble_eq_true rfl | (simp only [rm]; omega) | (simp [rm, vI, vR, Value.category]; omega), by first | exact Nat.le_of_ble_eq_true rfl | (simp only [rm]; omega) | (simp [rm, vI, vR, Value.category]; omega), by first | exact Nat.le_of_ble_eq_true rfl | (simp only [rm]; omega) | (simp [rm, vI, vR, Value.category]; omega)⟩ ((hc).2.2.1).1 rfl rfl rfl (Nat.le_of_ble_eq_true rfl) dX1_isLine_5 rfl ?_
  refine j_iconst (q := 9) F dX1_isLine_8 rfl ?_
  refine j_icmp_ne (q := 12) (tgt := 25) F dX1_isLine_9 (by decide) rfl (hb f h0 h1) ⟨by decide, by decide⟩ (fun h9_2 => ?_) (fun h9_2 => ?_)
  · skip
    refine j_iconst (q := 26) F dX1_isLine_25 rfl ?_
    exact hret _ _ _ _ dX1_isLine_26 (Or.inl rfl) (by refine ⟨rfl, Or.inr ⟨rfl, fun z => ?_⟩⟩; first | exact absurd z.1 (by assumption) | exact absurd (EndP_uniq hen z.2) (by assumption))
  · skip
    refine j_aload_n (q := 13) F dX1_isLine_12 rfl rfl 0 rfl ?_
    refine j_iload_n (q := 14) F dX1_isLine_13 rfl rfl 1 rfl ?_
    refine j_callVP (q := 17) F [vI f] (ct_X1_endOf l X hX M c (hc) (by omega) f ⟨by omega, by omega⟩ hb) gX1_isLine_X1_endOf rfl cd_X1_endOf ⟨by first | exact Nat.le_of_ble_eq_true rfl | (simp only [rm]; omega) | (simp [rm, vI, vR, Value.category]; omega), by first | exact Nat.le_of_ble_eq_true rfl | (simp only [rm]; omega) | (simp [rm, vI, vR, Value.category]; omega), by first | exact Nat.le_of_ble_eq_true rfl | (simp only [rm]; omega) | (simp [rm, vI, vR, Value.category]; omega), by first | exact Nat.le_of_ble_eq_true rfl | (simp only [rm]; omega) | (simp [rm, vI, vR, Value.category]; omega)⟩ (hc).1 rfl rfl rfl (Nat.le_of_ble_eq_true rfl) dX1_isLine_14 rfl (fun en hen => ?_)
    refine j_iload_n (q := 18) F dX1_isLine_17 rfl rfl 2 rfl ?_
    refine j_icmp_ne (q := 21) (tgt := 25) F dX1_isLine_18 (by decide) rfl (by have := hen.2.2.1; have := hen.2.2.2 h1; exact ⟨by omega, by omega⟩) ⟨by omega, by omega⟩ (fun h18_4 => ?_) (fun h18_4 => ?_)
    · skip
      refine j_iconst (q := 26) F dX1_isLine_25 rfl ?_
      exact hret _ _ _ _ dX1_isLine_26 (Or.inl rfl) (by refine ⟨rfl, Or.inr ⟨rfl, fun z => ?_⟩⟩; first | exact absurd z.1 (by assumption) | exact absurd (EndP_uniq hen z.2) (by assumption))
    · skip
      refine j_iconst (q := 22) F dX1_isLine_21 rfl ?_
      refine j_goto (q := 26) F dX1_isLine_22 (by decide) ?_
      refine hret _ _ _ _ dX1_isLine_26 (Or.inr rfl) ?_
      · refine ⟨rfl, Or.inl ⟨rfl, by assumption, ?_⟩⟩; have h : en = t := by assumption
        rw [← h]; exact hen
theorem cd_X1_isFrozen : yX1_isFrozen.cls = RX1 ∧ yX1_isFrozen.cls ≠ "java/lang/invoke/MethodHandle" ∧ yX1_isFrozen.cls ≠ "java/lang/invoke/VarHandle" ∧ (parseMethodDescriptor yX1_isFrozen.desc).map (fun d => d.parameters.length) = some 1 := by decide +kernel
set_option maxRecDepth 100000 in
set_option maxHeartbeats 400000 in
theorem ct_X1_hasFrozen (l : Launch) (X : Cx) (hX : Inj X) (M : Mem) (c : Nat) (hc : isPage c) (f t : Int) (h0 : 0 ≤ f) (h1 : t ≤ 24) (ht : 0 ≤ t) (hf : f ≤ 24) (hz : ∀ w, 0 ≤ w → w < 24 → 0 ≤ M (c + 6) w ∧ M (c + 6) w ≤ 1) : CtI l X yX1_hasFrozen wsX1_hasFrozen 2 [vR X c, vI f, vI t] M (fun x M' => M' = M ∧ (x = 1 ∧ (∃ w, f ≤ w ∧ w < t ∧ M (c + 6) w = 1) ∨ x = 0 ∧ (∀ w, f ≤ w → w < t → M (c + 6) w = 0))) := by
  refine CtI_ofZ (cc := cX1_hasFrozen) (maxL := 4) hX (by decide +kernel) rfl (Nat.le_of_ble_eq_true rfl) ?_
  intro zp ze zs zm zargs zbelow zmeth zc zQ F hret
  show J zp l ze (rm 2) zs zm zargs zbelow zmeth zc 0 0 zQ zs.heap X 4 M 0 [(0, vR X c), (1, vI f), (2, vI t)] []
  refine j_iload_n (q := 1) F dX1_hasFrozen_0 rfl rfl 1 rfl ?_
  refine j_istore_n (q := 2) (lv' := [(0, vR X c), (1, vI f), (2, vI t), (3, vI f)]) F dX1_hasFrozen_1 rfl rfl (by decide) rfl rfl ?_
  have LP2 : ∀ (nn : Nat) (w : Int), (f ≤ w) → (w ≤ 24) → (∀ j, f ≤ j → j < w → M (c + 6) j = 0) → (24 - w).toNat < nn → J zp l ze (rm 2) zs zm zargs zbelow zmeth zc 0 0 zQ zs.heap X 4 M 2 [(0, vR X c), (1, vI f), (2, vI t), (3, vI w)] [] := by
    intro nn
    induction nn with
    | zero => intro w g0 g1 g2 hm2; exact absurd hm2 (Nat.not_lt_zero _)
    | succ nn ih2 =>
      intro w g0 g1 g2 hm2
      refine j_iload_n (q := 3) F dX1_hasFrozen_2 rfl rfl 3 rfl ?_
      refine j_iload_n (q := 4) F dX1_hasFrozen_3 rfl rfl 2 rfl ?_
      refine j_icmp_ge (q := 7) (tgt := 23) F dX1_hasFrozen_4 (by decide) rfl ⟨by omega, by omega⟩ ⟨by omega, by omega⟩ (fun h4_1 => ?_) (fun h4_1 => ?_)
      · skip
        refine j_iconst (q := 24) F dX1_hasFrozen_23 rfl ?_
        exact hret _ _ _ _ dX1_hasFrozen_24 (Or.inl rfl) (by exact ⟨rfl, Or.inr ⟨rfl, fun j k0 k1 => g2 j k0 (by omega)⟩⟩)
      · skip
        refine j_aload_n (q := 8) F dX1_hasFrozen_7 rfl rfl 0 rfl ?_
        refine j_iload_n (q := 9) F dX1_hasFrozen_8 rfl rfl 3 rfl ?_
        refine j_callVZ (q := 12) F [vI w] (ct_X1_isFrozen_in l X hX M c (hc) w (by omega) (by omega) (hz w (by omega) (by omega))) gX1_hasFrozen_X1_isFrozen rfl cd_X1_isFrozen ⟨by first | exact Nat.le_of_ble_eq_true rfl | (simp only [rm]; omega) | (simp [rm, vI, vR, Value.category]; omega), by first | exact Nat.le_of_ble_eq_true rfl | (simp only [rm]; omega) | (simp [rm, vI, vR, Value.category]; omega), by first | exact Nat.le_of_ble_eq_true rfl | (simp only [rm]; omega) | (simp [rm, vI, vR, Value.category]; omega), by first | exact Nat.le_of_ble_eq_true rfl | (simp only [rm]; omega) | (simp [rm, vI, vR, Value.category]; omega)⟩ (hc).1 rfl rfl rfl (Nat.le_of_ble_eq_true rfl) dX1_hasFrozen_9 rfl (fun p_3 => ?_) (fun p_3 => ?_)
        · skip
          refine j_if_eq (q := 15) (tgt := 17) F dX1_hasFrozen_12 (by decide) rfl ⟨by decide, by decide⟩ (fun h => absurd h (by decide)) (fun _ => ?_)
          refine j_iconst (q := 16) F dX1_hasFrozen_15 rfl ?_
          exact hret _ _ _ _ dX1_hasFrozen_16 (Or.inr rfl) (by exact ⟨rfl, Or.inl ⟨rfl, w, g0, by omega, by assumption⟩⟩)
        · skip
          refine j_if_eq (q := 15) (tgt := 17) F dX1_hasFrozen_12 (by decide) rfl ⟨by decide, by decide⟩ (fun _ => ?_) (fun h => absurd h (by decide))
          refine j_iinc (q := 20) (lv' := [(0, vR X c), (1, vI f), (2, vI t), (3, vI (w + 1))]) F dX1_hasFrozen_17 rfl 3 rfl (by decide) rfl rfl ?_
          refine j_goto (q := 2) F dX1_hasFrozen_20 (by decide) ?_
          refine ih2 (w + 1) (by omega) (by omega) ?_ (by omega)
          · intro j k0 k1; by_cases hj : j = w
            · subst hj; assumption
            · exact g2 j k0 (by omega)
  exact LP2 _ f (by omega) (by omega) (by intro j k0 k1; omega) (by exact Nat.lt_succ_self _)
theorem fl_X1_extra_26 : Cond.fieldLink RX1 26 "WhiteRivers$Page" "lengths" "LWhiteRivers$Row;" ∈ wsX1_extra := by decide +kernel
theorem fl_X1_extra_9 : Cond.fieldLink RX1 9 "WhiteRivers$Page" "width" "I" ∈ wsX1_extra := by decide +kernel
theorem in_X1_extra_1 : ∀ w ∈ u_ws RX1 TX1 6, w ∈ wsX1_extra := by decide +kernel
set_option maxRecDepth 100000 in
set_option maxHeartbeats 400000 in
theorem ct_X1_extra (l : Launch) (X : Cx) (hX : Inj X) (M : Mem) (c : Nat) (hc : isPage c) (f t : Int) (h0 : 0 ≤ f) (h1 : f ≤ t) (h2 : t ≤ 24) : CtI l X yX1_extra wsX1_extra 1 [vR X c, vI f, vI t] M (fun x M' => M' = M ∧ x = exF (M (c + 2)) (M c 0) f t) := by
  refine CtI_of (cc := cX1_extra) (maxL := 5) hX (by decide +kernel) rfl (Nat.le_of_ble_eq_true rfl) ?_
  intro zp ze zs zm zargs zbelow zmeth zc zQ F hret
  show J zp l ze (rm 1) zs zm zargs zbelow zmeth zc 0 0 zQ zs.heap X 5 M 0 [(0, vR X c), (1, vI f), (2, vI t)] []
  refine j_aload_n (q := 1) F dX1_extra_0 rfl rfl 0 rfl ?_
  refine j_getI (q := 4) (i := 0) (index := 9) F (hc).1 rfl in_X1_extra_1 0 (by decide) rfl rfl fl_X1_extra_9 dX1_extra_1 rfl ?_
  refine j_iload_n (q := 5) F dX1_extra_4 rfl rfl 2 rfl ?_
  refine j_iload_n (q := 6) F dX1_extra_5 rfl rfl 1 rfl ?_
  refine j_isub (q := 7) (z := t - f) F dX1_extra_6 rfl rfl ?_
  refine j_iconst (q := 8) F dX1_extra_7 rfl ?_
  refine j_isub (q := 9) (z := (t - f) - 1) F dX1_extra_8 rfl rfl ?_
  refine j_isub (q := 10) (z := (M c 0) - ((t - f) - 1)) F dX1_extra_9 rfl rfl ?_
  refine j_istore_n (q := 11) (lv' := [(0, vR X c), (1, vI f), (2, vI t), (3, vI ((M c 0) - ((t - f) - 1)))]) F dX1_extra_10 rfl rfl (by decide) rfl rfl ?_
  refine j_iload_n (q := 12) F dX1_extra_11 rfl rfl 1 rfl ?_
  refine j_istore (q := 14) (lv' := [(0, vR X c), (1, vI f), (2, vI t), (3, vI ((M c 0) - ((t - f) - 1))), (4, vI f)]) F dX1_extra_12 rfl (by decide) rfl rfl ?_
  have LP14 : ∀ (nn : Nat) (x w : Int), (f ≤ w) → (w ≤ t) → (x = M c 0 - (t - f - 1) - (cnt (M (c + 2)) w - cnt (M (c + 2)) f)) → (t - w).toNat < nn → J zp l ze (rm 1) zs zm zargs zbelow zmeth zc 0 0 zQ zs.heap X 5 M 14 [(0, vR X c), (1, vI f), (2, vI t), (3, vI x), (4, vI w)] [] := by
    intro nn
    induction nn with
    | zero => intro x w g0 g1 g2 hm14; exact absurd hm14 (Nat.not_lt_zero _)
    | succ nn ih14 =>
      intro x w g0 g1 g2 hm14
      refine j_iload (q := 16) F dX1_extra_14 rfl 4 rfl ?_
      refine j_iload_n (q := 17) F dX1_extra_16 rfl rfl 2 rfl ?_
      refine j_icmp_ge (q := 20) (tgt := 38) F dX1_extra_17 (by decide) rfl ⟨by omega, by omega⟩ ⟨by omega, by omega⟩ (fun h17_1 => ?_) (fun h17_1 => ?_)
      · skip
        refine j_iload_n (q := 39) F dX1_extra_38 rfl rfl 3 rfl ?_
        exact hret _ _ _ _ dX1_extra_39 (by refine ⟨rfl, ?_⟩; rw [g2, show w = t by omega]; rfl)
      · skip
        refine j_iload_n (q := 21) F dX1_extra_20 rfl rfl 3 rfl ?_
        refine j_aload_n (q := 22) F dX1_extra_21 rfl rfl 0 rfl ?_
        refine j_getR (q := 25) (z := c + 1) (index := 26) F (hc).1 rfl in_X1_extra_1 3 (by decide) rfl fl_X1_extra_26 dX1_extra_22 rfl ?_
        refine j_iload (q := 27) F dX1_extra_25 rfl 4 rfl ?_
        refine j_callVE (q := 30) F [vI w] (ct_X2_get_in l X hX M (c + 1) 24 (c + 2) ((hc).2.1) (by decide) rfl w (by omega) (by omega)) gX1_extra_X2_get rfl cd_X2_get ⟨by first | exact Nat.le_of_ble_eq_true rfl | (simp only [rm]; omega) | (simp [rm, vI, vR, Value.category]; omega), by first | exact Nat.le_of_ble_eq_true rfl | (simp only [rm]; omega) | (simp [rm, vI, vR, Value.category]; omega), by first | exact Nat.le_of_ble_eq_true rfl | (simp only [rm]; omega) | (simp [rm, vI, vR, Value.category]; omega), by first | exact Nat.le_of_ble_eq_true rfl | (simp only [rm]; omega) | (simp [rm, vI, vR, Value.category]; omega)⟩ ((hc).2.1).1 rfl rfl rfl (Nat.le_of_ble_eq_true rfl) dX1_extra_27 rfl ?_
        refine j_isub (q := 31) (z := x - (M (c + 2) w)) F dX1_extra_30 rfl rfl ?_
        refine j_istore_n (q := 32) (lv' := [(0, vR X c), (1, vI f), (2, vI t), (3, vI (x - (M (c + 2) w))), (4, vI w)]) F dX1_extra_31 rfl rfl (by decide) rfl rfl ?_
        refine j_iinc (q := 35) (lv' := [(0, vR X c), (1, vI f), (2, vI t), (3, vI (x - (M (c + 2) w))), (4, vI (w + 1))]) F dX1_extra_32 rfl 4 rfl (by decide) rfl rfl ?_
        refine j_goto (q := 14) F dX1_extra_35 (by decide) ?_
        exact ih14 (x - (M (c + 2) w)) (w + 1) (by omega) (by omega) (by rw [cnt_s _ (by omega)]; omega) (by omega)
  exact LP14 _ ((M c 0) - ((t - f) - 1)) f (by omega) (by omega) (by omega) (by exact Nat.lt_succ_self _)
theorem cd_X1_extra : yX1_extra.cls = RX1 ∧ yX1_extra.cls ≠ "java/lang/invoke/MethodHandle" ∧ yX1_extra.cls ≠ "java/lang/invoke/VarHandle" ∧ (parseMethodDescriptor yX1_extra.desc).map (fun d => d.parameters.length) = some 2 := by decide +kernel
set_option maxRecDepth 100000 in
set_option maxHeartbeats 400000 in
theorem ct_X1_fits (l : Launch) (X : Cx) (hX : Inj X) (M : Mem) (c : Nat) (hc : isPage c) (f t : Int) (h0 : 0 ≤ f) (h1 : f ≤ t) (h2 : t ≤ 24) (hx : inR (exF (M (c + 2)) (M c 0) f t)) : CtI l X yX1_fits wsX1_fits 2 [vR X c, vI f, vI t] M (fun x M' => M' = M ∧ (x = 1 ∧ 0 ≤ exF (M (c + 2)) (M c 0) f t ∨ x = 0 ∧ exF (M (c + 2)) (M c 0) f t < 0)) := by
  refine CtI_ofZ (cc := cX1_fits) (maxL := 3) hX (by decide +kernel) rfl (Nat.le_of_ble_eq_true rfl) ?_
  intro zp ze zs zm zargs zbelow zmeth zc zQ F hret
  show J zp l ze (rm 2) zs zm zargs zbelow zmeth zc 0 0 zQ zs.heap X 3 M 0 [(0, vR X c), (1, vI f), (2, vI t)] []
  obtain ⟨hx1, hx2⟩ := hx
  refine j_aload_n (q := 1) F dX1_fits_0 rfl rfl 0 rfl ?_
  refine j_iload_n (q := 2) F dX1_fits_1 rfl rfl 1 rfl ?_
  refine j_iload_n (q := 3) F dX1_fits_2 rfl rfl 2 rfl ?_
  refine j_callVE (q := 6) F [vI f, vI t] (ct_X1_extra l X hX M c (hc) f t (by omega) (by omega) (by omega)) gX1_fits_X1_extra rfl cd_X1_extra ⟨by first | exact Nat.le_of_ble_eq_true rfl | (simp only [rm]; omega) | (simp [rm, vI, vR, Value.category]; omega), by first | exact Nat.le_of_ble_eq_true rfl | (simp only [rm]; omega) | (simp [rm, vI, vR, Value.category]; omega), by first | exact Nat.le_of_ble_eq_true rfl | (simp only [rm]; omega) | (simp [rm, vI, vR, Value.category]; omega), by first | exact Nat.le_of_ble_eq_true rfl | (simp only [rm]; omega) | (simp [rm, vI, vR, Value.category]; omega)⟩ (hc).1 rfl rfl rfl (Nat.le_of_ble_eq_true rfl) dX1_fits_3 rfl ?_
  refine j_if_lt (q := 9) (tgt := 13) F dX1_fits_6 (by decide) rfl ⟨by omega, by omega⟩ (fun h6_2 => ?_) (fun h6_2 => ?_)
  · skip
    refine j_iconst (q := 14) F dX1_fits_13 rfl ?_
    exact hret _ _ _ _ dX1_fits_14 (Or.inl rfl) (by refine ⟨rfl, ?_⟩; omega)
  · skip
    refine j_iconst (q := 10) F dX1_fits_9 rfl ?_
    refine j_goto (q := 14) F dX1_fits_10 (by decide) ?_
    exact hret _ _ _ _ dX1_fits_14 (Or.inr rfl) (by refine ⟨rfl, ?_⟩; omega)
theorem fl_X1_badness_18 : Cond.fieldLink RX1 18 "WhiteRivers$Page" "words" "I" ∈ wsX1_badness := by decide +kernel
theorem in_X1_badness_1 : ∀ w ∈ u_ws RX1 TX1 6, w ∈ wsX1_badness := by decide +kernel
set_option maxRecDepth 100000 in
set_option maxHeartbeats 400000 in
theorem ct_X1_badness (l : Launch) (X : Cx) (hX : Inj X) (M : Mem) (c : Nat) (hc : isPage c) (f t : Int) (h0 : 0 ≤ f) (h1 : f ≤ t) (h2 : t ≤ 24) (hn : 0 ≤ M c 2 ∧ M c 2 ≤ 24) : CtI l X yX1_badness wsX1_badness 2 [vR X c, vI f, vI t] M (fun x M' => M' = M ∧ x = if M c 2 ≤ t then 0 else exF (M (c + 2)) (M c 0) f t * exF (M (c + 2)) (M c 0) f t) := by
  refine CtI_of (cc := cX1_badness) (maxL := 4) hX (by decide +kernel) rfl (Nat.le_of_ble_eq_true rfl) ?_
  intro zp ze zs zm zargs zbelow zmeth zc zQ F hret
  show J zp l ze (rm 2) zs zm zargs zbelow zmeth zc 0 0 zQ zs.heap X 4 M 0 [(0, vR X c), (1, vI f), (2, vI t)] []
  refine j_aload_n (q := 1) F dX1_badness_0 rfl rfl 0 rfl ?_
  refine j_iload_n (q := 2) F dX1_badness_1 rfl rfl 1 rfl ?_
  refine j_iload_n (q := 3) F dX1_badness_2 rfl rfl 2 rfl ?_
  refine j_callVE (q := 6) F [vI f, vI t] (ct_X1_extra l X hX M c (hc) f t (by omega) (by omega) (by omega)) gX1_badness_X1_extra rfl cd_X1_extra ⟨by first | exact Nat.le_of_ble_eq_true rfl | (simp only [rm]; omega) | (simp [rm, vI, vR, Value.category]; omega), by first | exact Nat.le_of_ble_eq_true rfl | (simp only [rm]; omega) | (simp [rm, vI, vR, Value.category]; omega), by first | exact Nat.le_of_ble_eq_true rfl | (simp only [rm]; omega) | (simp [rm, vI, vR, Value.category]; omega), by first | exact Nat.le_of_ble_eq_true rfl | (simp only [rm]; omega) | (simp [rm, vI, vR, Value.category]; omega)⟩ (hc).1 rfl rfl rfl (Nat.le_of_ble_eq_true rfl) dX1_badness_3 rfl ?_
  refine j_istore_n (q := 7) (lv' := [(0, vR X c), (1, vI f), (2, vI t), (3, vI (exF (M (c + 2)) (M c 0) f t))]) F dX1_badness_6 rfl rfl (by decide) rfl rfl ?_
  refine j_iload_n (q := 8) F dX1_badness_7 rfl rfl 2 rfl ?_
  refine j_aload_n (q := 9) F dX1_badness_8 rfl rfl 0 rfl ?_
  refine j_getI (q := 12) (i := 2) (index := 18) F (hc).1 rfl in_X1_badness_1 2 (by decide) rfl rfl fl_X1_badness_18 dX1_badness_9 rfl ?_
  refine j_icmp_lt (q := 15) (tgt := 19) F dX1_badness_12 (by decide) rfl ⟨by omega, by omega⟩ ⟨by omega, by omega⟩ (fun h12_2 => ?_) (fun h12_2 => ?_)
  · skip
    refine j_iload_n (q := 20) F dX1_badness_19 rfl rfl 3 rfl ?_
    refine j_iload_n (q := 21) F dX1_badness_20 rfl rfl 3 rfl ?_
    refine j_imul (q := 22) (z := (exF (M (c + 2)) (M c 0) f t) * (exF (M (c + 2)) (M c 0) f t)) F dX1_badness_21 rfl rfl ?_
    exact hret _ _ _ _ dX1_badness_22 (by refine ⟨rfl, ?_⟩; rw [if_neg (by omega)])
  · skip
    refine j_iconst (q := 16) F dX1_badness_15 rfl ?_
    refine j_goto (q := 22) F dX1_badness_16 (by decide) ?_
    exact hret _ _ _ _ dX1_badness_22 (by refine ⟨rfl, ?_⟩; rw [if_pos (by omega)])
theorem cd_X1_badness : yX1_badness.cls = RX1 ∧ yX1_badness.cls ≠ "java/lang/invoke/MethodHandle" ∧ yX1_badness.cls ≠ "java/lang/invoke/VarHandle" ∧ (parseMethodDescriptor yX1_badness.desc).map (fun d => d.parameters.length) = some 2 := by decide +kernel
theorem fl_X1_badnessOfAll_18 : Cond.fieldLink RX1 18 "WhiteRivers$Page" "words" "I" ∈ wsX1_badnessOfAll := by decide +kernel
theorem fl_X1_badnessOfAll_30 : Cond.fieldLink RX1 30 "WhiteRivers$Page" "begins" "LWhiteRivers$Row;" ∈ wsX1_badnessOfAll := by decide +kernel
theorem in_X1_badnessOfAll_1 : ∀ w ∈ u_ws RX1 TX1 6, w ∈ wsX1_badnessOfAll := by decide +kernel
set_option maxRecDepth 100000 in
set_option maxHeartbeats 400000 in
theorem ct_X1_badnessOfAll (l : Launch) (X : Cx) (hX : Inj X) (M : Mem) (c : Nat) (hc : isPage c) (hn : 0 ≤ M c 2 ∧ M c 2 ≤ 24) (L : Int) (s0 : Int → Int) (hl : Lines (M (c + 4)) (M c 2) L s0) : CtI l X yX1_badnessOfAll wsX1_badnessOfAll 3 [vR X c] M (fun x M' => M' = M ∧ x = cnt (fun l => if M c 2 ≤ s0 (l + 1) then 0 else exF (M (c + 2)) (M c 0) (s0 l) (s0 (l + 1)) * exF (M (c + 2)) (M c 0) (s0 l) (s0 (l + 1))) L) := by
  refine CtI_of (cc := cX1_badnessOfAll) (maxL := 3) hX (by decide +kernel) rfl (Nat.le_of_ble_eq_true rfl) ?_
  intro zp ze zs zm zargs zbelow zmeth zc zQ F hret
  show J zp l ze (rm 3) zs zm zargs zbelow zmeth zc 0 0 zQ zs.heap X 3 M 0 [(0, vR X c)] []
  refine j_iconst (q := 1) F dX1_badnessOfAll_0 rfl ?_
  refine j_istore_n (q := 2) (lv' := [(0, vR X c), (1, vI 0)]) F dX1_badnessOfAll_1 rfl rfl (by decide) rfl rfl ?_
  refine j_iconst (q := 3) F dX1_badnessOfAll_2 rfl ?_
  refine j_istore_n (q := 4) (lv' := [(0, vR X c), (1, vI 0), (2, vI 0)]) F dX1_badnessOfAll_3 rfl rfl (by decide) rfl rfl ?_
  have LP4 : ∀ (nn : Nat) (acc w : Int), (0 ≤ w) → (w ≤ M c 2) → (acc = cnt (fun l => if M c 2 ≤ s0 (l + 1) then 0 else exF (M (c + 2)) (M c 0) (s0 l) (s0 (l + 1)) * exF (M (c + 2)) (M c 0) (s0 l) (s0 (l + 1))) (cnt (M (c + 4)) w)) → (M c 2 - w).toNat < nn → J zp l ze (rm 3) zs zm zargs zbelow zmeth zc 0 0 zQ zs.heap X 3 M 4 [(0, vR X c), (1, vI acc), (2, vI w)] [] := by
    intro nn
    induction nn with
    | zero => intro acc w h0 h1 h2 hm4; exact absurd hm4 (Nat.not_lt_zero _)
    | succ nn ih4 =>
      intro acc w h0 h1 h2 hm4
      refine j_iload_n (q := 5) F dX1_badnessOfAll_4 rfl rfl 2 rfl ?_
      refine j_aload_n (q := 6) F dX1_badnessOfAll_5 rfl rfl 0 rfl ?_
      refine j_getI (q := 9) (i := 2) (index := 18) F (hc).1 rfl in_X1_badnessOfAll_1 2 (by decide) rfl rfl fl_X1_badnessOfAll_18 dX1_badnessOfAll_6 rfl ?_
      refine j_icmp_ge (q := 12) (tgt := 43) F dX1_badnessOfAll_9 (by decide) rfl ⟨by omega, by omega⟩ ⟨by omega, by omega⟩ (fun h9_1 => ?_) (fun h9_1 => ?_)
      · skip
        refine j_iload_n (q := 44) F dX1_badnessOfAll_43 rfl rfl 1 rfl ?_
        exact hret _ _ _ _ dX1_badnessOfAll_44 (by refine ⟨rfl, ?_⟩; rw [h2, show w = M c 2 by omega, hl.total])
      · skip
        refine j_aload_n (q := 13) F dX1_badnessOfAll_12 rfl rfl 0 rfl ?_
        refine j_getR (q := 16) (z := c + 3) (index := 30) F (hc).1 rfl in_X1_badnessOfAll_1 4 (by decide) rfl fl_X1_badnessOfAll_30 dX1_badnessOfAll_13 rfl ?_
        refine j_iload_n (q := 17) F dX1_badnessOfAll_16 rfl rfl 2 rfl ?_
        refine j_callVE (q := 20) F [vI w] (ct_X2_get_in l X hX M (c + 3) 24 (c + 4) ((hc).2.2.1) (by decide) rfl w (by omega) (by omega)) gX1_badnessOfAll_X2_get rfl cd_X2_get ⟨by first | exact Nat.le_of_ble_eq_true rfl | (simp only [rm]; omega) | (simp [rm, vI, vR, Value.category]; omega), by first | exact Nat.le_of_ble_eq_true rfl | (simp only [rm]; omega) | (simp [rm, vI, vR, Value.category]; omega), by first | exact Nat.le_of_ble_eq_true rfl | (simp only [rm]; omega) | (simp [rm, vI, vR, Value.category]; omega), by first | exact Nat.le_of_ble_eq_true rfl | (simp only [rm]; omega) | (simp [rm, vI, vR, Value.category]; omega)⟩ ((hc).2.2.1).1 rfl rfl rfl (Nat.le_of_ble_eq_true rfl) dX1_badnessOfAll_17 rfl ?_
        refine j_iconst (q := 21) F dX1_badnessOfAll_20 rfl ?_
        refine j_icmp_ne (q := 24) (tgt := 37) F dX1_badnessOfAll_21 (by decide) rfl (by have := hl.bin h0 (show w < M c 2 by omega); exact ⟨by omega, by omega⟩) ⟨by decide, by decide⟩ (fun h21_3 => ?_) (fun h21_3 => ?_)
        · skip
          refine j_iinc (q := 40) (lv' := [(0, vR X c), (1, vI acc), (2, vI (w + 1))]) F dX1_badnessOfAll_37 rfl 2 rfl (by decide) rfl rfl ?_
          refine j_goto (q := 4) F dX1_badnessOfAll_40 (by decide) ?_
          refine ih4 acc (w + 1) (by omega) (by omega) ?_ (by omega)
          · have hb0 : M (c + 4) w = 0 := by have := hl.bin h0 (show w < M c 2 by omega); omega
            rw [cnt_s _ h0, hb0, h2]; simp
        · skip
          refine j_iload_n (q := 25) F dX1_badnessOfAll_24 rfl rfl 1 rfl ?_
          refine j_aload_n (q := 26) F dX1_badnessOfAll_25 rfl rfl 0 rfl ?_
          refine j_iload_n (q := 27) F dX1_badnessOfAll_26 rfl rfl 2 rfl ?_
          refine j_aload_n (q := 28) F dX1_badnessOfAll_27 rfl rfl 0 rfl ?_
          refine j_iload_n (q := 29) F dX1_badnessOfAll_28 rfl rfl 2 rfl ?_
          refine j_callVP (q := 32) F [vI w] (ct_X1_endOf l X hX M c (hc) (by omega) w ⟨by omega, by omega⟩ (fun w' k0 k1 => by have := hl.bin k0 k1; exact ⟨by omega, by omega⟩)) gX1_badnessOfAll_X1_endOf rfl cd_X1_endOf ⟨by first | exact Nat.le_of_ble_eq_true rfl | (simp only [rm]; omega) | (simp [rm, vI, vR, Value.category]; omega), by first | exact Nat.le_of_ble_eq_true rfl | (simp only [rm]; omega) | (simp [rm, vI, vR, Value.category]; omega), by first | exact Nat.le_of_ble_eq_true rfl | (simp only [rm]; omega) | (simp [rm, vI, vR, Value.category]; omega), by first | exact Nat.le_of_ble_eq_true rfl | (simp only [rm]; omega) | (simp [rm, vI, vR, Value.category]; omega)⟩ (hc).1 rfl rfl rfl (Nat.le_of_ble_eq_true rfl) dX1_badnessOfAll_29 rfl (fun en hen => ?_)
          refine j_callVE (q := 35) F [vI w, vI en] (ct_X1_badness l X hX M c (hc) w en (by omega) (by have := hen.2.2.2 (by omega); omega) (by have := hen.2.2.1; omega) (by omega)) gX1_badnessOfAll_X1_badness rfl cd_X1_badness ⟨by first | exact Nat.le_of_ble_eq_true rfl | (simp only [rm]; omega) | (simp [rm, vI, vR, Value.category]; omega), by first | exact Nat.le_of_ble_eq_true rfl | (simp only [rm]; omega) | (simp [rm, vI, vR, Value.category]; omega), by first | exact Nat.le_of_ble_eq_true rfl | (simp only [rm]; omega) | (simp [rm, vI, vR, Value.category]; omega), by first | exact Nat.le_of_ble_eq_true rfl | (simp only [rm]; omega) | (simp [rm, vI, vR, Value.category]; omega)⟩ (hc).1 rfl rfl rfl (Nat.le_of_ble_eq_true rfl) dX1_badnessOfAll_32 rfl ?_
          refine j_iadd (q := 36) (z := acc + (if M c 2 ≤ en then 0 else exF (M (c + 2)) (M c 0) w en * exF (M (c + 2)) (M c 0) w en)) F dX1_badnessOfAll_35 rfl rfl ?_
          refine j_istore_n (q := 37) (lv' := [(0, vR X c), (1, vI (acc + (if M c 2 ≤ en then 0 else exF (M (c + 2)) (M c 0) w en * exF (M (c + 2)) (M c 0) w en))), (2, vI w)]) F dX1_badnessOfAll_36 rfl rfl (by decide) rfl rfl ?_
          refine j_iinc (q := 40) (lv' := [(0, vR X c), (1, vI (acc + (if M c 2 ≤ en then 0 else exF (M (c + 2)) (M c 0) w en * exF (M (c + 2)) (M c 0) w en))), (2, vI (w + 1))]) F dX1_badnessOfAll_37 rfl 2 rfl (by decide) rfl rfl ?_
          refine j_goto (q := 4) F dX1_badnessOfAll_40 (by decide) ?_
          refine ih4 (acc + (if M c 2 ≤ en then 0 else exF (M (c + 2)) (M c 0) w en * exF (M (c + 2)) (M c 0) w en)) (w + 1) (by omega) (by omega) ?_ (by omega)
          · rw [cnt_s _ h0]; obtain ⟨l0, q0, q1, q2⟩ := hl.at h0 (show w < M c 2 by omega) (by assumption)
            have hnum := hl.num q0 (by omega : l0 ≤ L)
            have hb1 : M (c + 4) w = 1 := by assumption
            rw [hb1, q2, hnum, cnt_s _ q0, h2, q2, hnum]
            rw [q2] at hen
            rw [hl.end q0 q1 hen]
  exact LP4 _ 0 0 (by omega) (by omega) (by rw [cnt_0]; exact (cnt_0 _).symm) (by exact Nat.lt_succ_self _)
theorem cd_X1_begin : yX1_begin.cls = RX1 ∧ yX1_begin.cls ≠ "java/lang/invoke/MethodHandle" ∧ yX1_begin.cls ≠ "java/lang/invoke/VarHandle" ∧ (parseMethodDescriptor yX1_begin.desc).map (fun d => d.parameters.length) = some 1 := by decide +kernel
theorem cd_X1_fits : yX1_fits.cls = RX1 ∧ yX1_fits.cls ≠ "java/lang/invoke/MethodHandle" ∧ yX1_fits.cls ≠ "java/lang/invoke/VarHandle" ∧ (parseMethodDescriptor yX1_fits.desc).map (fun d => d.parameters.length) = some 2 := by decide +kernel
theorem cd_X1_joinAll : yX1_joinAll.cls = RX1 ∧ yX1_joinAll.cls ≠ "java/lang/invoke/MethodHandle" ∧ yX1_joinAll.cls ≠ "java/lang/invoke/VarHandle" ∧ (parseMethodDescriptor yX1_joinAll.desc).map (fun d => d.parameters.length) = some 0 := by decide +kernel
theorem fl_X1_fill_18 : Cond.fieldLink RX1 18 "WhiteRivers$Page" "words" "I" ∈ wsX1_fill := by decide +kernel
theorem in_X1_fill_1 : ∀ w ∈ u_ws RX1 TX1 6, w ∈ wsX1_fill := by decide +kernel
set_option maxRecDepth 100000 in
set_option maxHeartbeats 1000000 in
theorem ct_X1_fill (l : Launch) (X : Cx) (hX : Inj X) (M : Mem) (c : Nat) (hc : isPage c) (hn : 0 ≤ M c 2 ∧ M c 2 ≤ 24) (hW : 0 ≤ M c 0 ∧ M c 0 ≤ 40) (hL : ∀ j, 0 ≤ j → j < 24 → 0 ≤ M (c + 2) j ∧ M (c + 2) j ≤ 8) : CtV l X yX1_fill wsX1_fill 3 [vR X c] M (fun M' => (∀ d, d ≠ c + 4 → M' d = M d) ∧ ∀ j, 0 ≤ j → j < 24 → M' (c + 4) j = if j < M c 2 ∧ ffst (M (c + 2)) (M c 0) (j + 1) = j then 1 else 0) := by
  refine CtV_of (cc := cX1_fill) (maxL := 3) hX (by decide +kernel) rfl (Nat.le_of_ble_eq_true rfl) ?_
  intro zp ze zs zm zargs zbelow zmeth zc zQ F hret
  show J zp l ze (rm 3) zs zm zargs zbelow zmeth zc 0 0 zQ zs.heap X 3 M 0 [(0, vR X c)] []
  refine j_aload_n (q := 1) F dX1_fill_0 rfl rfl 0 rfl ?_
  refine j_callVM (q := 4) F [] (ct_X1_joinAll l X hX M c (hc)) gX1_fill_X1_joinAll rfl cd_X1_joinAll ⟨by first | exact Nat.le_of_ble_eq_true rfl | (simp only [rm]; omega) | (simp [rm, vI, vR, Value.category]; omega), by first | exact Nat.le_of_ble_eq_true rfl | (simp only [rm]; omega) | (simp [rm, vI, vR, Value.category]; omega), by first | exact Nat.le_of_ble_eq_true rfl | (simp only [rm]; omega) | (simp [rm, vI, vR, Value.category]; omega), by first | exact Nat.le_of_ble_eq_true rfl | (simp only [rm]; omega) | (simp [rm, vI, vR, Value.category]; omega)⟩ (hc).1 rfl rfl rfl (Nat.le_of_ble_eq_true rfl) dX1_fill_1 rfl ?_
  refine j_iconst (q := 5) F dX1_fill_4 rfl ?_
  refine j_istore_n (q := 6) (lv' := [(0, vR X c), (1, vI 0)]) F dX1_fill_5 rfl rfl (by decide) rfl rfl ?_
  refine j_iconst (q := 7) F dX1_fill_6 rfl ?_
  refine j_istore_n (q := 8) (lv' := [(0, vR X c), (1, vI 0), (2, vI 0)]) F dX1_fill_7 rfl rfl (by decide) rfl rfl ?_
  have LP8 : ∀ (nn : Nat) (f k : Int) (M1 : Mem), (0 ≤ k) → (k ≤ M c 2) → (f = ffst (M (c + 2)) (M c 0) k) → (∀ d, d ≠ c + 4 → M1 d = M d) → (∀ j, 0 ≤ j → j < 24 → M1 (c + 4) j = if j < k ∧ ffst (M (c + 2)) (M c 0) (j + 1) = j then 1 else 0) → (M c 2 - k).toNat < nn → J zp l ze (rm 3) zs zm zargs zbelow zmeth zc 0 0 zQ zs.heap X 3 M1 8 [(0, vR X c), (1, vI f), (2, vI k)] [] := by
    intro nn
    induction nn with
    | zero => intro f k M1 h0 h1 h2 hfr hrow hm8; exact absurd hm8 (Nat.not_lt_zero _)
    | succ nn ih8 =>
      intro f k M1 h0 h1 h2 hfr hrow hm8
      have e2 : M1 c 2 = M c 2 := by rw [hfr c (by omega)]
      have hbd := ffst_bd (M (c + 2)) (M c 0) h0
      have hfix := ffst_fix (M (c + 2)) (M c 0) h0
      have hs := ffst_s (M (c + 2)) (M c 0) h0
      rw [← h2] at hbd hfix hs
      refine j_iload_n (q := 9) F dX1_fill_8 rfl rfl 2 rfl ?_
      refine j_aload_n (q := 10) F dX1_fill_9 rfl rfl 0 rfl ?_
      refine j_getI (q := 13) (i := 2) (index := 18) F (hc).1 rfl in_X1_fill_1 2 (by decide) rfl rfl fl_X1_fill_18 dX1_fill_10 rfl ?_
      refine j_icmp_ge (q := 16) (tgt := 40) F dX1_fill_13 (by decide) rfl ⟨by omega, by omega⟩ ⟨by omega, by omega⟩ (fun h13_2 => ?_) (fun h13_2 => ?_)
      · skip
        exact hret _ _ _ dX1_fill_40 (by refine ⟨hfr, fun j g0 g1 => ?_⟩; rw [hrow j g0 g1, show k = M c 2 by omega])
      · skip
        refine j_aload_n (q := 17) F dX1_fill_16 rfl rfl 0 rfl ?_
        refine j_iload_n (q := 18) F dX1_fill_17 rfl rfl 1 rfl ?_
        refine j_iload_n (q := 19) F dX1_fill_18 rfl rfl 2 rfl ?_
        refine j_iconst (q := 20) F dX1_fill_19 rfl ?_
        refine j_iadd (q := 21) (z := k + 1) F dX1_fill_20 rfl rfl ?_
        refine j_callVZ (q := 24) F [vI f, vI (k + 1)] (ct_X1_fits l X hX M1 c (hc) f (k + 1) (by omega) (by omega) (by omega) (by rw [hfr (c + 2) (by omega), hfr c (by omega)]; exact exF_inR hL hW (by omega) (by omega) (by omega))) gX1_fill_X1_fits rfl cd_X1_fits ⟨by first | exact Nat.le_of_ble_eq_true rfl | (simp only [rm]; omega) | (simp [rm, vI, vR, Value.category]; omega), by first | exact Nat.le_of_ble_eq_true rfl | (simp only [rm]; omega) | (simp [rm, vI, vR, Value.category]; omega), by first | exact Nat.le_of_ble_eq_true rfl | (simp only [rm]; omega) | (simp [rm, vI, vR, Value.category]; omega), by first | exact Nat.le_of_ble_eq_true rfl | (simp only [rm]; omega) | (simp [rm, vI, vR, Value.category]; omega)⟩ (hc).1 rfl rfl rfl (Nat.le_of_ble_eq_true rfl) dX1_fill_21 rfl (fun p_4 => ?_) (fun p_4 => ?_)
        · skip
          refine j_if_ne (q := 27) (tgt := 29) F dX1_fill_24 (by decide) rfl ⟨by decide, by decide⟩ (fun _ => ?_) (fun h => absurd h (by decide))
          refine j_aload_n (q := 30) F dX1_fill_29 rfl rfl 0 rfl ?_
          refine j_iload_n (q := 31) F dX1_fill_30 rfl rfl 1 rfl ?_
          refine j_callVM (q := 34) F [vI f] (ct_X1_begin_in l X hX M1 c (hc) (by omega) f (by omega) (by omega)) gX1_fill_X1_begin rfl cd_X1_begin ⟨by first | exact Nat.le_of_ble_eq_true rfl | (simp only [rm]; omega) | (simp [rm, vI, vR, Value.category]; omega), by first | exact Nat.le_of_ble_eq_true rfl | (simp only [rm]; omega) | (simp [rm, vI, vR, Value.category]; omega), by first | exact Nat.le_of_ble_eq_true rfl | (simp only [rm]; omega) | (simp [rm, vI, vR, Value.category]; omega), by first | exact Nat.le_of_ble_eq_true rfl | (simp only [rm]; omega) | (simp [rm, vI, vR, Value.category]; omega)⟩ (hc).1 rfl rfl rfl (Nat.le_of_ble_eq_true rfl) dX1_fill_31 rfl ?_
          refine j_iinc (q := 37) (lv' := [(0, vR X c), (1, vI f), (2, vI (k + 1))]) F dX1_fill_34 rfl 2 rfl (by decide) rfl rfl ?_
          refine j_goto (q := 8) F dX1_fill_37 (by decide) ?_
          refine ih8 f (k + 1) (mset M1 (c + 4) f 1) (by omega) (by omega) ?_ (by intro d hd; rw [← hfr d hd]; funext j; exact mset_ne hd j) ?_ (by omega)
          · rw [hs, if_neg]; have hq : 0 ≤ exF (M1 (c + 2)) (M1 c 0) f (k + 1) := by assumption
            rw [hfr (c + 2) (by omega), hfr c (by omega)] at hq; omega
          · have hq : 0 ≤ exF (M1 (c + 2)) (M1 c 0) f (k + 1) := by assumption
            rw [hfr (c + 2) (by omega), hfr c (by omega)] at hq; rw [if_neg (by omega)] at hs; exact fill_row h0 hrow hs hbd hfix (Or.inl rfl)
        · skip
          refine j_if_ne (q := 27) (tgt := 29) F dX1_fill_24 (by decide) rfl ⟨by decide, by decide⟩ (fun h => absurd h (by decide)) (fun _ => ?_)
          refine j_iload_n (q := 28) F dX1_fill_27 rfl rfl 2 rfl ?_
          refine j_istore_n (q := 29) (lv' := [(0, vR X c), (1, vI k), (2, vI k)]) F dX1_fill_28 rfl rfl (by decide) rfl rfl ?_
          refine j_aload_n (q := 30) F dX1_fill_29 rfl rfl 0 rfl ?_
          refine j_iload_n (q := 31) F dX1_fill_30 rfl rfl 1 rfl ?_
          refine j_callVM (q := 34) F [vI k] (ct_X1_begin_in l X hX M1 c (hc) (by omega) k (by omega) (by omega)) gX1_fill_X1_begin rfl cd_X1_begin ⟨by first | exact Nat.le_of_ble_eq_true rfl | (simp only [rm]; omega) | (simp [rm, vI, vR, Value.category]; omega), by first | exact Nat.le_of_ble_eq_true rfl | (simp only [rm]; omega) | (simp [rm, vI, vR, Value.category]; omega), by first | exact Nat.le_of_ble_eq_true rfl | (simp only [rm]; omega) | (simp [rm, vI, vR, Value.category]; omega), by first | exact Nat.le_of_ble_eq_true rfl | (simp only [rm]; omega) | (simp [rm, vI, vR, Value.category]; omega)⟩ (hc).1 rfl rfl rfl (Nat.le_of_ble_eq_true rfl) dX1_fill_31 rfl ?_
          refine j_iinc (q := 37) (lv' := [(0, vR X c), (1, vI k), (2, vI (k + 1))]) F dX1_fill_34 rfl 2 rfl (by decide) rfl rfl ?_
          refine j_goto (q := 8) F dX1_fill_37 (by decide) ?_
          refine ih8 k (k + 1) (mset M1 (c + 4) k 1) (by omega) (by omega) ?_ (by intro d hd; rw [← hfr d hd]; funext j; exact mset_ne hd j) ?_ (by omega)
          · rw [hs, if_pos]; have hq : exF (M1 (c + 2)) (M1 c 0) f (k + 1) < 0 := by assumption
            rw [hfr (c + 2) (by omega), hfr c (by omega)] at hq; omega
          · have hq : exF (M1 (c + 2)) (M1 c 0) f (k + 1) < 0 := by assumption
            rw [hfr (c + 2) (by omega), hfr c (by omega)] at hq; rw [if_pos (by omega)] at hs; exact fill_row h0 hrow hs hbd hfix (Or.inr rfl)
  exact LP8 _ 0 0 (mclr M (c + 4) 24) (by omega) (by omega) (by exact (ffst_0 _ _).symm) (by intro d hd; funext j; exact if_neg (fun z => hd z.1)) (by intro j g0 g1; rw [if_neg (by omega)]; exact if_pos ⟨rfl, g0, by omega⟩) (by exact Nat.lt_succ_self _)
theorem fl_X1_append_18 : Cond.fieldLink RX1 18 "WhiteRivers$Page" "words" "I" ∈ wsX1_append := by decide +kernel
theorem fl_X1_append_26 : Cond.fieldLink RX1 26 "WhiteRivers$Page" "lengths" "LWhiteRivers$Row;" ∈ wsX1_append := by decide +kernel
theorem in_X1_append_1 : ∀ w ∈ u_ws RX1 TX1 6, w ∈ wsX1_append := by decide +kernel
set_option maxRecDepth 100000 in
set_option maxHeartbeats 400000 in
theorem ct_X1_append (l : Launch) (X : Cx) (hX : Inj X) (M : Mem) (c : Nat) (hc : isPage c) (hn : 0 ≤ M c 2 ∧ M c 2 < 24) (k : Int) : CtV l X yX1_append wsX1_append 1 [vR X c, vI k] M (fun M' => M' = mset (mset M (c + 2) (M c 2) k) c 2 (M c 2 + 1)) := by
  refine CtV_of (cc := cX1_append) (maxL := 2) hX (by decide +kernel) rfl (Nat.le_of_ble_eq_true rfl) ?_
  intro zp ze zs zm zargs zbelow zmeth zc zQ F hret
  show J zp l ze (rm 1) zs zm zargs zbelow zmeth zc 0 0 zQ zs.heap X 2 M 0 [(0, vR X c), (1, vI k)] []
  refine j_aload_n (q := 1) F dX1_append_0 rfl rfl 0 rfl ?_
  refine j_getR (q := 4) (z := c + 1) (index := 26) F (hc).1 rfl in_X1_append_1 3 (by decide) rfl fl_X1_append_26 dX1_append_1 rfl ?_
  refine j_aload_n (q := 5) F dX1_append_4 rfl rfl 0 rfl ?_
  refine j_getI (q := 8) (i := 2) (index := 18) F (hc).1 rfl in_X1_append_1 2 (by decide) rfl rfl fl_X1_append_18 dX1_append_5 rfl ?_
  refine j_iload_n (q := 9) F dX1_append_8 rfl rfl 1 rfl ?_
  refine j_callVM (q := 12) F [vI (M c 2), vI k] (ct_X2_set_in l X hX M (c + 1) 24 (c + 2) ((hc).2.1) (by decide) rfl (M c 2) k (by omega) (by omega)) gX1_append_X2_set rfl cd_X2_set ⟨by first | exact Nat.le_of_ble_eq_true rfl | (simp only [rm]; omega) | (simp [rm, vI, vR, Value.category]; omega), by first | exact Nat.le_of_ble_eq_true rfl | (simp only [rm]; omega) | (simp [rm, vI, vR, Value.category]; omega), by first | exact Nat.le_of_ble_eq_true rfl | (simp only [rm]; omega) | (simp [rm, vI, vR, Value.category]; omega), by first | exact Nat.le_of_ble_eq_true rfl | (simp only [rm]; omega) | (simp [rm, vI, vR, Value.category]; omega)⟩ ((hc).2.1).1 rfl rfl rfl (Nat.le_of_ble_eq_true rfl) dX1_append_9 rfl ?_
  refine j_aload_n (q := 13) F dX1_append_12 rfl rfl 0 rfl ?_
  refine j_dup (q := 14) F dX1_append_13 rfl rfl ?_
  refine j_getI (q := 17) (i := 2) (index := 18) F (hc).1 rfl in_X1_append_1 2 (by decide) rfl rfl fl_X1_append_18 dX1_append_14 rfl ?_
  rw [show (mset M (c + 2) (M c 2) k) c 2 = M c 2 from by simp [mset]]
  refine j_iconst (q := 18) F dX1_append_17 rfl ?_
  refine j_iadd (q := 19) (z := (M c 2) + 1) F dX1_append_18 rfl rfl ?_
  refine j_putI (q := 22) (i := 2) (index := 18) F (hc).1 rfl in_X1_append_1 2 (by decide) tyX1_ok nmX1 rfl rfl rfl rfl fl_X1_append_18 dX1_append_19 rfl ?_
  exact hret _ _ _ dX1_append_22 (by rfl)
theorem cd_X2_copyFrom : yX2_copyFrom.cls = RX2 ∧ yX2_copyFrom.cls ≠ "java/lang/invoke/MethodHandle" ∧ yX2_copyFrom.cls ≠ "java/lang/invoke/VarHandle" ∧ (parseMethodDescriptor yX2_copyFrom.desc).map (fun d => d.parameters.length) = some 1 := by decide +kernel
theorem fl_X1_copyFrom_15 : Cond.fieldLink RX1 15 "WhiteRivers$Page" "slack" "I" ∈ wsX1_copyFrom := by decide +kernel
theorem fl_X1_copyFrom_18 : Cond.fieldLink RX1 18 "WhiteRivers$Page" "words" "I" ∈ wsX1_copyFrom := by decide +kernel
theorem fl_X1_copyFrom_26 : Cond.fieldLink RX1 26 "WhiteRivers$Page" "lengths" "LWhiteRivers$Row;" ∈ wsX1_copyFrom := by decide +kernel
theorem fl_X1_copyFrom_30 : Cond.fieldLink RX1 30 "WhiteRivers$Page" "begins" "LWhiteRivers$Row;" ∈ wsX1_copyFrom := by decide +kernel
theorem fl_X1_copyFrom_33 : Cond.fieldLink RX1 33 "WhiteRivers$Page" "frozen" "LWhiteRivers$Row;" ∈ wsX1_copyFrom := by decide +kernel
theorem fl_X1_copyFrom_9 : Cond.fieldLink RX1 9 "WhiteRivers$Page" "width" "I" ∈ wsX1_copyFrom := by decide +kernel
theorem in_X1_copyFrom_1 : ∀ w ∈ u_ws RX1 TX1 6, w ∈ wsX1_copyFrom := by decide +kernel
set_option maxRecDepth 100000 in
set_option maxHeartbeats 400000 in
theorem ct_X1_copyFrom (l : Launch) (X : Cx) (hX : Inj X) (M : Mem) (c : Nat) (hc : isPage c) (o : Nat) (ho : isPage o) (hd : c + 7 ≤ o ∨ o + 7 ≤ c) : CtV l X yX1_copyFrom wsX1_copyFrom 2 [vR X c, vR X o] M (fun M' => PgCopy M M' c o) := by
  refine CtV_of (cc := cX1_copyFrom) (maxL := 2) hX (by decide +kernel) rfl (Nat.le_of_ble_eq_true rfl) ?_
  intro zp ze zs zm zargs zbelow zmeth zc zQ F hret
  show J zp l ze (rm 2) zs zm zargs zbelow zmeth zc 0 0 zQ zs.heap X 2 M 0 [(0, vR X c), (1, vR X o)] []
  refine j_aload_n (q := 1) F dX1_copyFrom_0 rfl rfl 0 rfl ?_
  refine j_aload_n (q := 2) F dX1_copyFrom_1 rfl rfl 1 rfl ?_
  refine j_getI (q := 5) (i := 0) (index := 9) F (ho).1 rfl in_X1_copyFrom_1 0 (by decide) rfl rfl fl_X1_copyFrom_9 dX1_copyFrom_2 rfl ?_
  refine j_putI (q := 8) (i := 0) (index := 9) F (hc).1 rfl in_X1_copyFrom_1 0 (by decide) tyX1_ok nmX1 rfl rfl rfl rfl fl_X1_copyFrom_9 dX1_copyFrom_5 rfl ?_
  refine j_aload_n (q := 9) F dX1_copyFrom_8 rfl rfl 0 rfl ?_
  refine j_aload_n (q := 10) F dX1_copyFrom_9 rfl rfl 1 rfl ?_
  refine j_getI (q := 13) (i := 1) (index := 15) F (ho).1 rfl in_X1_copyFrom_1 1 (by decide) rfl rfl fl_X1_copyFrom_15 dX1_copyFrom_10 rfl ?_
  rw [show (mset M c 0 (M o 0)) o 1 = M o 1 from by rw [mset_ne (by omega)]]
  refine j_putI (q := 16) (i := 1) (index := 15) F (hc).1 rfl in_X1_copyFrom_1 1 (by decide) tyX1_ok nmX1 rfl rfl rfl rfl fl_X1_copyFrom_15 dX1_copyFrom_13 rfl ?_
  refine j_aload_n (q := 17) F dX1_copyFrom_16 rfl rfl 0 rfl ?_
  refine j_aload_n (q := 18) F dX1_copyFrom_17 rfl rfl 1 rfl ?_
  refine j_getI (q := 21) (i := 2) (index := 18) F (ho).1 rfl in_X1_copyFrom_1 2 (by decide) rfl rfl fl_X1_copyFrom_18 dX1_copyFrom_18 rfl ?_
  rw [show (mset (mset M c 0 (M o 0)) c 1 (M o 1)) o 2 = M o 2 from by rw [mset_ne (by omega), mset_ne (by omega)]]
  refine j_putI (q := 24) (i := 2) (index := 18) F (hc).1 rfl in_X1_copyFrom_1 2 (by decide) tyX1_ok nmX1 rfl rfl rfl rfl fl_X1_copyFrom_18 dX1_copyFrom_21 rfl ?_
  refine j_aload_n (q := 25) F dX1_copyFrom_24 rfl rfl 0 rfl ?_
  refine j_getR (q := 28) (z := c + 1) (index := 26) F (hc).1 rfl in_X1_copyFrom_1 3 (by decide) rfl fl_X1_copyFrom_26 dX1_copyFrom_25 rfl ?_
  refine j_aload_n (q := 29) F dX1_copyFrom_28 rfl rfl 1 rfl ?_
  refine j_getR (q := 32) (z := o + 1) (index := 26) F (ho).1 rfl in_X1_copyFrom_1 3 (by decide) rfl fl_X1_copyFrom_26 dX1_copyFrom_29 rfl ?_
  refine j_callVM (q := 35) F [vR X (o + 1)] (ct_X2_copyFrom l X hX (mset (mset (mset M c 0 (M o 0)) c 1 (M o 1)) c 2 (M o 2)) (c + 1) 24 ((hc).2.1) (by decide) (o + 1) ((ho).2.1) (by omega)) gX1_copyFrom_X2_copyFrom rfl cd_X2_copyFrom ⟨by first | exact Nat.le_of_ble_eq_true rfl | (simp only [rm]; omega) | (simp [rm, vI, vR, Value.category]; omega), by first | exact Nat.le_of_ble_eq_true rfl | (simp only [rm]; omega) | (simp [rm, vI, vR, Value.category]; omega), by first | exact Nat.le_of_ble_eq_true rfl | (simp only [rm]; omega) | (simp [rm, vI, vR, Value.category]; omega), by first | exact Nat.le_of_ble_eq_true rfl | (simp only [rm]; omega) | (simp [rm, vI, vR, Value.category]; omega)⟩ ((hc).2.1).1 rfl rfl rfl (Nat.le_of_ble_eq_true rfl) dX1_copyFrom_32 rfl ?_
  refine j_aload_n (q := 36) F dX1_copyFrom_35 rfl rfl 0 rfl ?_
  refine j_getR (q := 39) (z := c + 3) (index := 30) F (hc).1 rfl in_X1_copyFrom_1 4 (by decide) rfl fl_X1_copyFrom_30 dX1_copyFrom_36 rfl ?_
  refine j_aload_n (q := 40) F dX1_copyFrom_39 rfl rfl 1 rfl ?_
  refine j_getR (q := 43) (z := o + 3) (index := 30) F (ho).1 rfl in_X1_copyFrom_1 4 (by decide) rfl fl_X1_copyFrom_30 dX1_copyFrom_40 rfl ?_
  refine j_callVM (q := 46) F [vR X (o + 3)] (ct_X2_copyFrom l X hX (mcpy (mset (mset (mset M c 0 (M o 0)) c 1 (M o 1)) c 2 (M o 2)) (c + 2) (o + 2) 24) (c + 3) 24 ((hc).2.2.1) (by decide) (o + 3) ((ho).2.2.1) (by omega)) gX1_copyFrom_X2_copyFrom rfl cd_X2_copyFrom ⟨by first | exact Nat.le_of_ble_eq_true rfl | (simp only [rm]; omega) | (simp [rm, vI, vR, Value.category]; omega), by first | exact Nat.le_of_ble_eq_true rfl | (simp only [rm]; omega) | (simp [rm, vI, vR, Value.category]; omega), by first | exact Nat.le_of_ble_eq_true rfl | (simp only [rm]; omega) | (simp [rm, vI, vR, Value.category]; omega), by first | exact Nat.le_of_ble_eq_true rfl | (simp only [rm]; omega) | (simp [rm, vI, vR, Value.category]; omega)⟩ ((hc).2.2.1).1 rfl rfl rfl (Nat.le_of_ble_eq_true rfl) dX1_copyFrom_43 rfl ?_
  refine j_aload_n (q := 47) F dX1_copyFrom_46 rfl rfl 0 rfl ?_
  refine j_getR (q := 50) (z := c + 5) (index := 33) F (hc).1 rfl in_X1_copyFrom_1 5 (by decide) rfl fl_X1_copyFrom_33 dX1_copyFrom_47 rfl ?_
  refine j_aload_n (q := 51) F dX1_copyFrom_50 rfl rfl 1 rfl ?_
  refine j_getR (q := 54) (z := o + 5) (index := 33) F (ho).1 rfl in_X1_copyFrom_1 5 (by decide) rfl fl_X1_copyFrom_33 dX1_copyFrom_51 rfl ?_
  refine j_callVM (q := 57) F [vR X (o + 5)] (ct_X2_copyFrom l X hX (mcpy (mcpy (mset (mset (mset M c 0 (M o 0)) c 1 (M o 1)) c 2 (M o 2)) (c + 2) (o + 2) 24) (c + 4) (o + 4) 24) (c + 5) 24 ((hc).2.2.2) (by decide) (o + 5) ((ho).2.2.2) (by omega)) gX1_copyFrom_X2_copyFrom rfl cd_X2_copyFrom ⟨by first | exact Nat.le_of_ble_eq_true rfl | (simp only [rm]; omega) | (simp [rm, vI, vR, Value.category]; omega), by first | exact Nat.le_of_ble_eq_true rfl | (simp only [rm]; omega) | (simp [rm, vI, vR, Value.category]; omega), by first | exact Nat.le_of_ble_eq_true rfl | (simp only [rm]; omega) | (simp [rm, vI, vR, Value.category]; omega), by first | exact Nat.le_of_ble_eq_true rfl | (simp only [rm]; omega) | (simp [rm, vI, vR, Value.category]; omega)⟩ ((hc).2.2.2).1 rfl rfl rfl (Nat.le_of_ble_eq_true rfl) dX1_copyFrom_54 rfl ?_
  exact hret _ _ _ dX1_copyFrom_57 (by exact pgcopy_ok M hd)
