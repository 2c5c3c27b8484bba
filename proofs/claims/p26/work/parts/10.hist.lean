theorem hi8 : shs[8]? = some (3, 0, [none, some 9]) := rfl
theorem pa9 : shs[9]? = some (2, 5, []) := rfl
theorem pg1 : isPage 1 := ⟨rfl, ⟨rfl, rfl⟩, ⟨rfl, rfl⟩, ⟨rfl, rfl⟩⟩
theorem pgH : ∀ (k : Nat), k < 5 → isPage (10 + 7 * k)
  | 0, _ => ⟨rfl, ⟨rfl, rfl⟩, ⟨rfl, rfl⟩, ⟨rfl, rfl⟩⟩
  | 1, _ => ⟨rfl, ⟨rfl, rfl⟩, ⟨rfl, rfl⟩, ⟨rfl, rfl⟩⟩
  | 2, _ => ⟨rfl, ⟨rfl, rfl⟩, ⟨rfl, rfl⟩, ⟨rfl, rfl⟩⟩
  | 3, _ => ⟨rfl, ⟨rfl, rfl⟩, ⟨rfl, rfl⟩, ⟨rfl, rfl⟩⟩
  | 4, _ => ⟨rfl, ⟨rfl, rfl⟩, ⟨rfl, rfl⟩, ⟨rfl, rfl⟩⟩
  | k + 5, h => absurd h (by omega)
/-- the five pages of the history stand in its array -/
def HPg (M : Mem) : Prop := ∀ i : Int, 0 ≤ i → i < 5 → ∃ k : Nat, k < 5 ∧ M 9 i = ((10 + 7 * k : Nat) : Int)
def DropP (M N : Mem) : Prop := N 8 0 = 4 ∧ (∀ i, 0 ≤ i → i < 4 → N 9 i = M 9 (i + 1)) ∧ N 9 4 = M 9 0 ∧ ∀ d, d ≠ 8 → d ≠ 9 → N d = M d
def KeepP (M M' : Mem) : Prop := ∃ (N N2 : Mem) (z : Nat), (M 8 0 < 5 ∧ N = M ∨ M 8 0 = 5 ∧ DropP M N) ∧ N 9 (N 8 0) = (z : Int) ∧ PgCopy N N2 z 1 ∧ M' = mset N2 8 0 (N 8 0 + 1)
def RestP (M M' : Mem) : Prop := ∃ (N2 : Mem) (z : Nat), M 9 (M 8 0 - 1) = (z : Int) ∧ PgCopy M N2 1 z ∧ M' = mset N2 8 0 (M 8 0 - 1)
theorem DropP.pg {M N : Mem} (h : DropP M N) (hp : HPg M) : HPg N := by
  intro i h0 h1
  by_cases h4 : i < 4
  · rw [h.2.1 i h0 h4]; exact hp (i + 1) (by omega) (by omega)
  · rw [show i = 4 by omega, h.2.2.1]; exact hp 0 (by omega) (by omega)
theorem drop_ok (M : Mem) {a0 a1 a2 a3 a4 : Int} (h0 : M 9 0 = a0) (h1 : M 9 1 = a1) (h2 : M 9 2 = a2) (h3 : M 9 3 = a3) (h4 : M 9 4 = a4) : DropP M (mset (mset (mset (mset (mset (mset M 9 0 a1) 9 1 a2) 9 2 a3) 9 3 a4) 9 4 a0) 8 0 4) := by
  refine ⟨mset_at, fun i g0 g1 => ?_, ?_, fun d g0 g1 => ?_⟩
  · rcases (show i = 0 ∨ i = 1 ∨ i = 2 ∨ i = 3 by omega) with rfl | rfl | rfl | rfl
    · rw [mset_ne (by decide), mset_ne2 (by decide), mset_ne2 (by decide), mset_ne2 (by decide), mset_ne2 (by decide), mset_at, ← h1]; rfl
    · rw [mset_ne (by decide), mset_ne2 (by decide), mset_ne2 (by decide), mset_ne2 (by decide), mset_at, ← h2]; rfl
    · rw [mset_ne (by decide), mset_ne2 (by decide), mset_ne2 (by decide), mset_at, ← h3]; rfl
    · rw [mset_ne (by decide), mset_ne2 (by decide), mset_at, ← h4]; rfl
  · rw [mset_ne (by decide), mset_at, h0]
  · rw [mset_nef g0, mset_nef g1, mset_nef g1, mset_nef g1, mset_nef g1, mset_nef g1]
theorem fl_X0_pageAt_17 : Cond.fieldLink RX0 17 "WhiteRivers$History" "pages" "[LWhiteRivers$Page;" ∈ wsX0_pageAt := by decide +kernel
theorem in_X0_pageAt_0 : ∀ w ∈ u_ws RX0 TX0 2, w ∈ wsX0_pageAt := by decide +kernel
set_option maxRecDepth 100000 in
set_option maxHeartbeats 400000 in
theorem ct_X0_pageAt (l : Launch) (X : Cx) (hX : Inj X) (M : Mem) (i : Int) (hi : 0 ≤ i ∧ i < 5) (z : Nat) (hz : M 9 i = (z : Int)) : CtR l X yX0_pageAt wsX0_pageAt 0 [vR X 8, vI i] M (fun r M' => M' = M ∧ r = z) := by
  refine CtR_of (cc := cX0_pageAt) (maxL := 2) hX (by decide +kernel) rfl (Nat.le_of_ble_eq_true rfl) ?_
  intro zp ze zs zm zargs zbelow zmeth zc zQ F hret
  show J zp l ze (rm 0) zs zm zargs zbelow zmeth zc 0 0 zQ zs.heap X 2 M 0 [(0, vR X 8), (1, vI i)] []
  refine j_iload_n (q := 1) F dX0_pageAt_0 rfl rfl 1 rfl ?_
  refine j_if_lt (q := 4) (tgt := 22) F dX0_pageAt_1 (by decide) rfl ⟨by omega, by omega⟩ (fun h => by exfalso; omega) (fun h1_1 => ?_)
  refine j_iload_n (q := 5) F dX0_pageAt_4 rfl rfl 1 rfl ?_
  refine j_aload_n (q := 6) F dX0_pageAt_5 rfl rfl 0 rfl ?_
  refine j_getR (q := 9) (z := 9) (index := 17) F hi8 rfl in_X0_pageAt_0 1 (by decide) rfl fl_X0_pageAt_17 dX0_pageAt_6 rfl ?_
  refine j_alen (q := 10) F pa9 (by decide) dX0_pageAt_9 rfl rfl ?_
  refine j_icmp_ge (q := 13) (tgt := 22) F dX0_pageAt_10 (by decide) rfl ⟨by omega, by omega⟩ ⟨by decide, by decide⟩ (fun h => by exfalso; omega) (fun h10_2 => ?_)
  refine j_aload_n (q := 14) F dX0_pageAt_13 rfl rfl 0 rfl ?_
  refine j_getR (q := 17) (z := 9) (index := 17) F hi8 rfl in_X0_pageAt_0 1 (by decide) rfl fl_X0_pageAt_17 dX0_pageAt_14 rfl ?_
  refine j_iload_n (q := 18) F dX0_pageAt_17 rfl rfl 1 rfl ?_
  refine j_aald (q := 19) (z := z) F pa9 (by omega) (by omega) (by decide) (hz) dX0_pageAt_18 rfl ?_
  refine j_goto (q := 23) F dX0_pageAt_19 (by decide) ?_
  exact hret _ _ _ _ dX0_pageAt_23 (by exact ⟨rfl, rfl⟩)
theorem cd_X0_pageAt : yX0_pageAt.cls = RX0 ∧ yX0_pageAt.cls ≠ "java/lang/invoke/MethodHandle" ∧ yX0_pageAt.cls ≠ "java/lang/invoke/VarHandle" ∧ (parseMethodDescriptor yX0_pageAt.desc).map (fun d => d.parameters.length) = some 1 := by decide +kernel
theorem fl_X0_dropOldest_17 : Cond.fieldLink RX0 17 "WhiteRivers$History" "pages" "[LWhiteRivers$Page;" ∈ wsX0_dropOldest := by decide +kernel
theorem fl_X0_dropOldest_9 : Cond.fieldLink RX0 9 "WhiteRivers$History" "states" "I" ∈ wsX0_dropOldest := by decide +kernel
theorem in_X0_dropOldest_0 : ∀ w ∈ u_ws RX0 TX0 2, w ∈ wsX0_dropOldest := by decide +kernel
set_option maxRecDepth 100000 in
set_option maxHeartbeats 400000 in
theorem ct_X0_dropOldest (l : Launch) (X : Cx) (hX : Inj X) (M : Mem) (hp : HPg M) : CtV l X yX0_dropOldest wsX0_dropOldest 1 [vR X 8] M (fun M' => DropP M M') := by
  refine CtV_of (cc := cX0_dropOldest) (maxL := 3) hX (by decide +kernel) rfl (Nat.le_of_ble_eq_true rfl) ?_
  intro zp ze zs zm zargs zbelow zmeth zc zQ F hret
  show J zp l ze (rm 1) zs zm zargs zbelow zmeth zc 0 0 zQ zs.heap X 3 M 0 [(0, vR X 8)] []
  obtain ⟨k0, hk0, hz0⟩ := hp 0 (by omega) (by omega)
  obtain ⟨k1, hk1, hz1⟩ := hp 1 (by omega) (by omega)
  obtain ⟨k2, hk2, hz2⟩ := hp 2 (by omega) (by omega)
  obtain ⟨k3, hk3, hz3⟩ := hp 3 (by omega) (by omega)
  obtain ⟨k4, hk4, hz4⟩ := hp 4 (by omega) (by omega)
  refine j_aload_n (q := 1) F dX0_dropOldest_0 rfl rfl 0 rfl ?_
  refine j_iconst (q := 2) F dX0_dropOldest_1 rfl ?_
  refine j_callVRE (q := 5) F [vI 0] (ct_X0_pageAt l X hX M 0 (by omega) (10 + 7 * k0) hz0) gX0_dropOldest_X0_pageAt rfl cd_X0_pageAt ⟨by first | exact Nat.le_of_ble_eq_true rfl | (simp only [rm]; omega) | (simp [rm, vI, vR, Value.category]; omega), by first | exact Nat.le_of_ble_eq_true rfl | (simp only [rm]; omega) | (simp [rm, vI, vR, Value.category]; omega), by first | exact Nat.le_of_ble_eq_true rfl | (simp only [rm]; omega) | (simp [rm, vI, vR, Value.category]; omega), by first | exact Nat.le_of_ble_eq_true rfl | (simp only [rm]; omega) | (simp [rm, vI, vR, Value.category]; omega)⟩ hi8 rfl rfl rfl (Nat.le_of_ble_eq_true rfl) dX0_dropOldest_2 rfl ?_
  refine j_astore_n (q := 6) (lv' := [(0, vR X 8), (1, vR X (10 + 7 * k0))]) F dX0_dropOldest_5 rfl rfl (by decide) rfl rfl ?_
  refine j_iconst (q := 7) F dX0_dropOldest_6 rfl ?_
  refine j_istore_n (q := 8) (lv' := [(0, vR X 8), (1, vR X (10 + 7 * k0)), (2, vI 1)]) F dX0_dropOldest_7 rfl rfl (by decide) rfl rfl ?_
  refine j_iload_n (q := 9) F dX0_dropOldest_8 rfl rfl 2 rfl ?_
  refine j_aload_n (q := 10) F dX0_dropOldest_9 rfl rfl 0 rfl ?_
  refine j_getR (q := 13) (z := 9) (index := 17) F hi8 rfl in_X0_dropOldest_0 1 (by decide) rfl fl_X0_dropOldest_17 dX0_dropOldest_10 rfl ?_
  refine j_alen (q := 14) F pa9 (by decide) dX0_dropOldest_13 rfl rfl ?_
  refine j_icmp_ge (q := 17) (tgt := 37) F dX0_dropOldest_14 (by decide) rfl ⟨by decide, by decide⟩ ⟨by decide, by decide⟩ (fun h => absurd h (by decide)) (fun _ => ?_)
  refine j_aload_n (q := 18) F dX0_dropOldest_17 rfl rfl 0 rfl ?_
  refine j_getR (q := 21) (z := 9) (index := 17) F hi8 rfl in_X0_dropOldest_0 1 (by decide) rfl fl_X0_dropOldest_17 dX0_dropOldest_18 rfl ?_
  refine j_iload_n (q := 22) F dX0_dropOldest_21 rfl rfl 2 rfl ?_
  refine j_iconst (q := 23) F dX0_dropOldest_22 rfl ?_
  refine j_isub (q := 24) (z := 0) F dX0_dropOldest_23 rfl rfl ?_
  refine j_aload_n (q := 25) F dX0_dropOldest_24 rfl rfl 0 rfl ?_
  refine j_getR (q := 28) (z := 9) (index := 17) F hi8 rfl in_X0_dropOldest_0 1 (by decide) rfl fl_X0_dropOldest_17 dX0_dropOldest_25 rfl ?_
  refine j_iload_n (q := 29) F dX0_dropOldest_28 rfl rfl 2 rfl ?_
  refine j_aald (q := 30) (z := 10 + 7 * k1) F pa9 (by omega) (by omega) (by decide) (by rw [ hz1]) dX0_dropOldest_29 rfl ?_
  refine j_aast (q := 31) F pa9 (by omega) (by omega) (by decide) (pgH k1 hk1).1 dX0_dropOldest_30 rfl ?_
  refine j_iinc (q := 34) (lv' := [(0, vR X 8), (1, vR X (10 + 7 * k0)), (2, vI 2)]) F dX0_dropOldest_31 rfl 2 rfl (by decide) rfl rfl ?_
  refine j_goto (q := 8) F dX0_dropOldest_34 (by decide) ?_
  refine j_iload_n (q := 9) F dX0_dropOldest_8 rfl rfl 2 rfl ?_
  refine j_aload_n (q := 10) F dX0_dropOldest_9 rfl rfl 0 rfl ?_
  refine j_getR (q := 13) (z := 9) (index := 17) F hi8 rfl in_X0_dropOldest_0 1 (by decide) rfl fl_X0_dropOldest_17 dX0_dropOldest_10 rfl ?_
  refine j_alen (q := 14) F pa9 (by decide) dX0_dropOldest_13 rfl rfl ?_
  refine j_icmp_ge (q := 17) (tgt := 37) F dX0_dropOldest_14 (by decide) rfl ⟨by decide, by decide⟩ ⟨by decide, by decide⟩ (fun h => absurd h (by decide)) (fun _ => ?_)
  refine j_aload_n (q := 18) F dX0_dropOldest_17 rfl rfl 0 rfl ?_
  refine j_getR (q := 21) (z := 9) (index := 17) F hi8 rfl in_X0_dropOldest_0 1 (by decide) rfl fl_X0_dropOldest_17 dX0_dropOldest_18 rfl ?_
  refine j_iload_n (q := 22) F dX0_dropOldest_21 rfl rfl 2 rfl ?_
  refine j_iconst (q := 23) F dX0_dropOldest_22 rfl ?_
  refine j_isub (q := 24) (z := 1) F dX0_dropOldest_23 rfl rfl ?_
  refine j_aload_n (q := 25) F dX0_dropOldest_24 rfl rfl 0 rfl ?_
  refine j_getR (q := 28) (z := 9) (index := 17) F hi8 rfl in_X0_dropOldest_0 1 (by decide) rfl fl_X0_dropOldest_17 dX0_dropOldest_25 rfl ?_
  refine j_iload_n (q := 29) F dX0_dropOldest_28 rfl rfl 2 rfl ?_
  refine j_aald (q := 30) (z := 10 + 7 * k2) F pa9 (by omega) (by omega) (by decide) (by rw [mset_ne2 (by decide),  hz2]) dX0_dropOldest_29 rfl ?_
  refine j_aast (q := 31) F pa9 (by omega) (by omega) (by decide) (pgH k2 hk2).1 dX0_dropOldest_30 rfl ?_
  refine j_iinc (q := 34) (lv' := [(0, vR X 8), (1, vR X (10 + 7 * k0)), (2, vI 3)]) F dX0_dropOldest_31 rfl 2 rfl (by decide) rfl rfl ?_
  refine j_goto (q := 8) F dX0_dropOldest_34 (by decide) ?_
  refine j_iload_n (q := 9) F dX0_dropOldest_8 rfl rfl 2 rfl ?_
  refine j_aload_n (q := 10) F dX0_dropOldest_9 rfl rfl 0 rfl ?_
  refine j_getR (q := 13) (z := 9) (index := 17) F hi8 rfl in_X0_dropOldest_0 1 (by decide) rfl fl_X0_dropOldest_17 dX0_dropOldest_10 rfl ?_
  refine j_alen (q := 14) F pa9 (by decide) dX0_dropOldest_13 rfl rfl ?_
  refine j_icmp_ge (q := 17) (tgt := 37) F dX0_dropOldest_14 (by decide) rfl ⟨by decide, by decide⟩ ⟨by decide, by decide⟩ (fun h => absurd h (by decide)) (fun _ => ?_)
  refine j_aload_n (q := 18) F dX0_dropOldest_17 rfl rfl 0 rfl ?_
  refine j_getR (q := 21) (z := 9) (index := 17) F hi8 rfl in_X0_dropOldest_0 1 (by decide) rfl fl_X0_dropOldest_17 dX0_dropOldest_18 rfl ?_
  refine j_iload_n (q := 22) F dX0_dropOldest_21 rfl rfl 2 rfl ?_
  refine j_iconst (q := 23) F dX0_dropOldest_22 rfl ?_
  refine j_isub (q := 24) (z := 2) F dX0_dropOldest_23 rfl rfl ?_
  refine j_aload_n (q := 25) F dX0_dropOldest_24 rfl rfl 0 rfl ?_
  refine j_getR (q := 28) (z := 9) (index := 17) F hi8 rfl in_X0_dropOldest_0 1 (by decide) rfl fl_X0_dropOldest_17 dX0_dropOldest_25 rfl ?_
  refine j_iload_n (q := 29) F dX0_dropOldest_28 rfl rfl 2 rfl ?_
  refine j_aald (q := 30) (z := 10 + 7 * k3) F pa9 (by omega) (by omega) (by decide) (by rw [mset_ne2 (by decide), mset_ne2 (by decide),  hz3]) dX0_dropOldest_29 rfl ?_
  refine j_aast (q := 31) F pa9 (by omega) (by omega) (by decide) (pgH k3 hk3).1 dX0_dropOldest_30 rfl ?_
  refine j_iinc (q := 34) (lv' := [(0, vR X 8), (1, vR X (10 + 7 * k0)), (2, vI 4)]) F dX0_dropOldest_31 rfl 2 rfl (by decide) rfl rfl ?_
  refine j_goto (q := 8) F dX0_dropOldest_34 (by decide) ?_
  refine j_iload_n (q := 9) F dX0_dropOldest_8 rfl rfl 2 rfl ?_
  refine j_aload_n (q := 10) F dX0_dropOldest_9 rfl rfl 0 rfl ?_
  refine j_getR (q := 13) (z := 9) (index := 17) F hi8 rfl in_X0_dropOldest_0 1 (by decide) rfl fl_X0_dropOldest_17 dX0_dropOldest_10 rfl ?_
  refine j_alen (q := 14) F pa9 (by decide) dX0_dropOldest_13 rfl rfl ?_
  refine j_icmp_ge (q := 17) (tgt := 37) F dX0_dropOldest_14 (by decide) rfl ⟨by decide, by decide⟩ ⟨by decide, by decide⟩ (fun h => absurd h (by decide)) (fun _ => ?_)
  refine j_aload_n (q := 18) F dX0_dropOldest_17 rfl rfl 0 rfl ?_
  refine j_getR (q := 21) (z := 9) (index := 17) F hi8 rfl in_X0_dropOldest_0 1 (by decide) rfl fl_X0_dropOldest_17 dX0_dropOldest_18 rfl ?_
  refine j_iload_n (q := 22) F dX0_dropOldest_21 rfl rfl 2 rfl ?_
  refine j_iconst (q := 23) F dX0_dropOldest_22 rfl ?_
  refine j_isub (q := 24) (z := 3) F dX0_dropOldest_23 rfl rfl ?_
  refine j_aload_n (q := 25) F dX0_dropOldest_24 rfl rfl 0 rfl ?_
  refine j_getR (q := 28) (z := 9) (index := 17) F hi8 rfl in_X0_dropOldest_0 1 (by decide) rfl fl_X0_dropOldest_17 dX0_dropOldest_25 rfl ?_
  refine j_iload_n (q := 29) F dX0_dropOldest_28 rfl rfl 2 rfl ?_
  refine j_aald (q := 30) (z := 10 + 7 * k4) F pa9 (by omega) (by omega) (by decide) (by rw [mset_ne2 (by decide), mset_ne2 (by decide), mset_ne2 (by decide),  hz4]) dX0_dropOldest_29 rfl ?_
  refine j_aast (q := 31) F pa9 (by omega) (by omega) (by decide) (pgH k4 hk4).1 dX0_dropOldest_30 rfl ?_
  refine j_iinc (q := 34) (lv' := [(0, vR X 8), (1, vR X (10 + 7 * k0)), (2, vI 5)]) F dX0_dropOldest_31 rfl 2 rfl (by decide) rfl rfl ?_
  refine j_goto (q := 8) F dX0_dropOldest_34 (by decide) ?_
  refine j_iload_n (q := 9) F dX0_dropOldest_8 rfl rfl 2 rfl ?_
  refine j_aload_n (q := 10) F dX0_dropOldest_9 rfl rfl 0 rfl ?_
  refine j_getR (q := 13) (z := 9) (index := 17) F hi8 rfl in_X0_dropOldest_0 1 (by decide) rfl fl_X0_dropOldest_17 dX0_dropOldest_10 rfl ?_
  refine j_alen (q := 14) F pa9 (by decide) dX0_dropOldest_13 rfl rfl ?_
  refine j_icmp_ge (q := 17) (tgt := 37) F dX0_dropOldest_14 (by decide) rfl ⟨by decide, by decide⟩ ⟨by decide, by decide⟩ (fun _ => ?_) (fun h => absurd h (by decide))
  refine j_aload_n (q := 38) F dX0_dropOldest_37 rfl rfl 0 rfl ?_
  refine j_getR (q := 41) (z := 9) (index := 17) F hi8 rfl in_X0_dropOldest_0 1 (by decide) rfl fl_X0_dropOldest_17 dX0_dropOldest_38 rfl ?_
  refine j_alen (q := 42) F pa9 (by decide) dX0_dropOldest_41 rfl rfl ?_
  refine j_if_le (q := 45) (tgt := 58) F dX0_dropOldest_42 (by decide) rfl ⟨by decide, by decide⟩ (fun h => absurd h (by decide)) (fun _ => ?_)
  refine j_aload_n (q := 46) F dX0_dropOldest_45 rfl rfl 0 rfl ?_
  refine j_getR (q := 49) (z := 9) (index := 17) F hi8 rfl in_X0_dropOldest_0 1 (by decide) rfl fl_X0_dropOldest_17 dX0_dropOldest_46 rfl ?_
  refine j_aload_n (q := 50) F dX0_dropOldest_49 rfl rfl 0 rfl ?_
  refine j_getR (q := 53) (z := 9) (index := 17) F hi8 rfl in_X0_dropOldest_0 1 (by decide) rfl fl_X0_dropOldest_17 dX0_dropOldest_50 rfl ?_
  refine j_alen (q := 54) F pa9 (by decide) dX0_dropOldest_53 rfl rfl ?_
  refine j_iconst (q := 55) F dX0_dropOldest_54 rfl ?_
  refine j_isub (q := 56) (z := 4) F dX0_dropOldest_55 rfl rfl ?_
  refine j_aload_n (q := 57) F dX0_dropOldest_56 rfl rfl 1 rfl ?_
  refine j_aast (q := 58) F pa9 (by omega) (by omega) (by decide) (pgH k0 hk0).1 dX0_dropOldest_57 rfl ?_
  refine j_aload_n (q := 59) F dX0_dropOldest_58 rfl rfl 0 rfl ?_
  refine j_aload_n (q := 60) F dX0_dropOldest_59 rfl rfl 0 rfl ?_
  refine j_getR (q := 63) (z := 9) (index := 17) F hi8 rfl in_X0_dropOldest_0 1 (by decide) rfl fl_X0_dropOldest_17 dX0_dropOldest_60 rfl ?_
  refine j_alen (q := 64) F pa9 (by decide) dX0_dropOldest_63 rfl rfl ?_
  refine j_iconst (q := 65) F dX0_dropOldest_64 rfl ?_
  refine j_isub (q := 66) (z := 4) F dX0_dropOldest_65 rfl rfl ?_
  refine j_putI (q := 69) (i := 0) (index := 9) F hi8 rfl in_X0_dropOldest_0 0 (by decide) tyX0_ok nmX0 rfl rfl rfl rfl fl_X0_dropOldest_9 dX0_dropOldest_66 rfl ?_
  exact hret _ _ _ dX0_dropOldest_69 (by exact drop_ok M hz0 hz1 hz2 hz3 hz4)
theorem cd_X0_dropOldest : yX0_dropOldest.cls = RX0 ∧ yX0_dropOldest.cls ≠ "java/lang/invoke/MethodHandle" ∧ yX0_dropOldest.cls ≠ "java/lang/invoke/VarHandle" ∧ (parseMethodDescriptor yX0_dropOldest.desc).map (fun d => d.parameters.length) = some 0 := by decide +kernel
theorem cd_X1_copyFrom : yX1_copyFrom.cls = RX1 ∧ yX1_copyFrom.cls ≠ "java/lang/invoke/MethodHandle" ∧ yX1_copyFrom.cls ≠ "java/lang/invoke/VarHandle" ∧ (parseMethodDescriptor yX1_copyFrom.desc).map (fun d => d.parameters.length) = some 1 := by decide +kernel
theorem fl_X0_keep_17 : Cond.fieldLink RX0 17 "WhiteRivers$History" "pages" "[LWhiteRivers$Page;" ∈ wsX0_keep := by decide +kernel
theorem fl_X0_keep_9 : Cond.fieldLink RX0 9 "WhiteRivers$History" "states" "I" ∈ wsX0_keep := by decide +kernel
theorem in_X0_keep_0 : ∀ w ∈ u_ws RX0 TX0 2, w ∈ wsX0_keep := by decide +kernel
set_option maxRecDepth 100000 in
set_option maxHeartbeats 400000 in
theorem ct_X0_keep (l : Launch) (X : Cx) (hX : Inj X) (M : Mem) (hp : HPg M) (hst : 0 ≤ M 8 0 ∧ M 8 0 ≤ 5) : CtV l X yX0_keep wsX0_keep 3 [vR X 8, vR X 1] M (fun M' => KeepP M M') := by
  refine CtV_of (cc := cX0_keep) (maxL := 3) hX (by decide +kernel) rfl (Nat.le_of_ble_eq_true rfl) ?_
  intro zp ze zs zm zargs zbelow zmeth zc zQ F hret
  show J zp l ze (rm 3) zs zm zargs zbelow zmeth zc 0 0 zQ zs.heap X 3 M 0 [(0, vR X 8), (1, vR X 1)] []
  refine j_aload_n (q := 1) F dX0_keep_0 rfl rfl 0 rfl ?_
  refine j_getI (q := 4) (i := 0) (index := 9) F hi8 rfl in_X0_keep_0 0 (by decide) rfl rfl fl_X0_keep_9 dX0_keep_1 rfl ?_
  refine j_aload_n (q := 5) F dX0_keep_4 rfl rfl 0 rfl ?_
  refine j_getR (q := 8) (z := 9) (index := 17) F hi8 rfl in_X0_keep_0 1 (by decide) rfl fl_X0_keep_17 dX0_keep_5 rfl ?_
  refine j_alen (q := 9) F pa9 (by decide) dX0_keep_8 rfl rfl ?_
  refine j_icmp_lt (q := 12) (tgt := 16) F dX0_keep_9 (by decide) rfl ⟨by omega, by omega⟩ ⟨by decide, by decide⟩ (fun h9_1 => ?_) (fun h9_1 => ?_)
  · skip
    obtain ⟨kz, hkz5, hkz⟩ := (by assumption : HPg M) (M 8 0) (by omega) (by omega)
    refine j_aload_n (q := 17) F dX0_keep_16 rfl rfl 0 rfl ?_
    refine j_aload_n (q := 18) F dX0_keep_17 rfl rfl 0 rfl ?_
    refine j_getI (q := 21) (i := 0) (index := 9) F hi8 rfl in_X0_keep_0 0 (by decide) rfl rfl fl_X0_keep_9 dX0_keep_18 rfl ?_
    refine j_callVRE (q := 24) F [vI (M 8 0)] (ct_X0_pageAt l X hX M (M 8 0) (by omega) (10 + 7 * kz) hkz) gX0_keep_X0_pageAt rfl cd_X0_pageAt ⟨by first | exact Nat.le_of_ble_eq_true rfl | (simp only [rm]; omega) | (simp [rm, vI, vR, Value.category]; omega), by first | exact Nat.le_of_ble_eq_true rfl | (simp only [rm]; omega) | (simp [rm, vI, vR, Value.category]; omega), by first | exact Nat.le_of_ble_eq_true rfl | (simp only [rm]; omega) | (simp [rm, vI, vR, Value.category]; omega), by first | exact Nat.le_of_ble_eq_true rfl | (simp only [rm]; omega) | (simp [rm, vI, vR, Value.category]; omega)⟩ hi8 rfl rfl rfl (Nat.le_of_ble_eq_true rfl) dX0_keep_21 rfl ?_
    refine j_astore_n (q := 25) (lv' := [(0, vR X 8), (1, vR X 1), (2, vR X (10 + 7 * kz))]) F dX0_keep_24 rfl rfl (by decide) rfl rfl ?_
    refine j_aload_n (q := 26) F dX0_keep_25 rfl rfl 2 rfl ?_
    refine j_ifnull (q := 29) F dX0_keep_26 rfl ?_
    refine j_aload_n (q := 30) F dX0_keep_29 rfl rfl 2 rfl ?_
    refine j_aload_n (q := 31) F dX0_keep_30 rfl rfl 1 rfl ?_
    refine j_callVV (q := 34) F [vR X 1] (ct_X1_copyFrom l X hX M (10 + 7 * kz) (pgH kz hkz5) 1 (pg1) (by omega)) gX0_keep_X1_copyFrom rfl cd_X1_copyFrom ⟨by first | exact Nat.le_of_ble_eq_true rfl | (simp only [rm]; omega) | (simp [rm, vI, vR, Value.category]; omega), by first | exact Nat.le_of_ble_eq_true rfl | (simp only [rm]; omega) | (simp [rm, vI, vR, Value.category]; omega), by first | exact Nat.le_of_ble_eq_true rfl | (simp only [rm]; omega) | (simp [rm, vI, vR, Value.category]; omega), by first | exact Nat.le_of_ble_eq_true rfl | (simp only [rm]; omega) | (simp [rm, vI, vR, Value.category]; omega)⟩ (pgH kz hkz5).1 rfl rfl rfl (Nat.le_of_ble_eq_true rfl) dX0_keep_31 rfl (fun N2 hcp => ?_)
    have e82 : N2 8 = M 8 := hcp.2.2 8 (by omega) (by omega) (by omega) (by omega)
    refine j_aload_n (q := 35) F dX0_keep_34 rfl rfl 0 rfl ?_
    refine j_dup (q := 36) F dX0_keep_35 rfl rfl ?_
    refine j_getI (q := 39) (i := 0) (index := 9) F hi8 rfl in_X0_keep_0 0 (by decide) rfl rfl fl_X0_keep_9 dX0_keep_36 rfl ?_
    rw [show N2 8 0 = M 8 0 from by rw [e82]]
    refine j_iconst (q := 40) F dX0_keep_39 rfl ?_
    refine j_iadd (q := 41) (z := (M 8 0) + 1) F dX0_keep_40 rfl rfl ?_
    refine j_putI (q := 44) (i := 0) (index := 9) F hi8 rfl in_X0_keep_0 0 (by decide) tyX0_ok nmX0 rfl rfl rfl rfl fl_X0_keep_9 dX0_keep_41 rfl ?_
    exact hret _ _ _ dX0_keep_44 (by exact ⟨M, N2, _, Or.inl ⟨by omega, rfl⟩, hkz, hcp, rfl⟩)
  · skip
    refine j_aload_n (q := 13) F dX0_keep_12 rfl rfl 0 rfl ?_
    refine j_callVV (q := 16) F [] (ct_X0_dropOldest l X hX M hp) gX0_keep_X0_dropOldest rfl cd_X0_dropOldest ⟨by first | exact Nat.le_of_ble_eq_true rfl | (simp only [rm]; omega) | (simp [rm, vI, vR, Value.category]; omega), by first | exact Nat.le_of_ble_eq_true rfl | (simp only [rm]; omega) | (simp [rm, vI, vR, Value.category]; omega), by first | exact Nat.le_of_ble_eq_true rfl | (simp only [rm]; omega) | (simp [rm, vI, vR, Value.category]; omega), by first | exact Nat.le_of_ble_eq_true rfl | (simp only [rm]; omega) | (simp [rm, vI, vR, Value.category]; omega)⟩ hi8 rfl rfl rfl (Nat.le_of_ble_eq_true rfl) dX0_keep_13 rfl (fun Nq hdr => ?_)
    have e80 : Nq 8 0 = 4 := hdr.1
    have hpN := hdr.pg hp
    obtain ⟨kz, hkz5, hkz⟩ := (by assumption : HPg Nq) (Nq 8 0) (by omega) (by omega)
    refine j_aload_n (q := 17) F dX0_keep_16 rfl rfl 0 rfl ?_
    refine j_aload_n (q := 18) F dX0_keep_17 rfl rfl 0 rfl ?_
    refine j_getI (q := 21) (i := 0) (index := 9) F hi8 rfl in_X0_keep_0 0 (by decide) rfl rfl fl_X0_keep_9 dX0_keep_18 rfl ?_
    refine j_callVRE (q := 24) F [vI (Nq 8 0)] (ct_X0_pageAt l X hX Nq (Nq 8 0) (by omega) (10 + 7 * kz) hkz) gX0_keep_X0_pageAt rfl cd_X0_pageAt ⟨by first | exact Nat.le_of_ble_eq_true rfl | (simp only [rm]; omega) | (simp [rm, vI, vR, Value.category]; omega), by first | exact Nat.le_of_ble_eq_true rfl | (simp only [rm]; omega) | (simp [rm, vI, vR, Value.category]; omega), by first | exact Nat.le_of_ble_eq_true rfl | (simp only [rm]; omega) | (simp [rm, vI, vR, Value.category]; omega), by first | exact Nat.le_of_ble_eq_true rfl | (simp only [rm]; omega) | (simp [rm, vI, vR, Value.category]; omega)⟩ hi8 rfl rfl rfl (Nat.le_of_ble_eq_true rfl) dX0_keep_21 rfl ?_
    refine j_astore_n (q := 25) (lv' := [(0, vR X 8), (1, vR X 1), (2, vR X (10 + 7 * kz))]) F dX0_keep_24 rfl rfl (by decide) rfl rfl ?_
    refine j_aload_n (q := 26) F dX0_keep_25 rfl rfl 2 rfl ?_
    refine j_ifnull (q := 29) F dX0_keep_26 rfl ?_
    refine j_aload_n (q := 30) F dX0_keep_29 rfl rfl 2 rfl ?_
    refine j_aload_n (q := 31) F dX0_keep_30 rfl rfl 1 rfl ?_
    refine j_callVV (q := 34) F [vR X 1] (ct_X1_copyFrom l X hX Nq (10 + 7 * kz) (pgH kz hkz5) 1 (pg1) (by omega)) gX0_keep_X1_copyFrom rfl cd_X1_copyFrom ⟨by first | exact Nat.le_of_ble_eq_true rfl | (simp only [rm]; omega) | (simp [rm, vI, vR, Value.category]; omega), by first | exact Nat.le_of_ble_eq_true rfl | (simp only [rm]; omega) | (simp [rm, vI, vR, Value.category]; omega), by first | exact Nat.le_of_ble_eq_true rfl | (simp only [rm]; omega) | (simp [rm, vI, vR, Value.category]; omega), by first | exact Nat.le_of_ble_eq_true rfl | (simp only [rm]; omega) | (simp [rm, vI, vR, Value.category]; omega)⟩ (pgH kz hkz5).1 rfl rfl rfl (Nat.le_of_ble_eq_true rfl) dX0_keep_31 rfl (fun N2 hcp => ?_)
    have e82 : N2 8 = Nq 8 := hcp.2.2 8 (by omega) (by omega) (by omega) (by omega)
    refine j_aload_n (q := 35) F dX0_keep_34 rfl rfl 0 rfl ?_
    refine j_dup (q := 36) F dX0_keep_35 rfl rfl ?_
    refine j_getI (q := 39) (i := 0) (index := 9) F hi8 rfl in_X0_keep_0 0 (by decide) rfl rfl fl_X0_keep_9 dX0_keep_36 rfl ?_
    rw [show N2 8 0 = Nq 8 0 from by rw [e82]]
    refine j_iconst (q := 40) F dX0_keep_39 rfl ?_
    refine j_iadd (q := 41) (z := (Nq 8 0) + 1) F dX0_keep_40 rfl rfl ?_
    refine j_putI (q := 44) (i := 0) (index := 9) F hi8 rfl in_X0_keep_0 0 (by decide) tyX0_ok nmX0 rfl rfl rfl rfl fl_X0_keep_9 dX0_keep_41 rfl ?_
    exact hret _ _ _ dX0_keep_44 (by exact ⟨Nq, N2, _, Or.inr ⟨by omega, hdr⟩, hkz, hcp, rfl⟩)
theorem fl_X0_restoreLatest_9 : Cond.fieldLink RX0 9 "WhiteRivers$History" "states" "I" ∈ wsX0_restoreLatest := by decide +kernel
theorem in_X0_restoreLatest_0 : ∀ w ∈ u_ws RX0 TX0 2, w ∈ wsX0_restoreLatest := by decide +kernel
set_option maxRecDepth 100000 in
set_option maxHeartbeats 400000 in
theorem ct_X0_restoreLatest (l : Launch) (X : Cx) (hX : Inj X) (M : Mem) (hp : HPg M) (hst : 1 ≤ M 8 0 ∧ M 8 0 ≤ 5) : CtV l X yX0_restoreLatest wsX0_restoreLatest 3 [vR X 8, vR X 1] M (fun M' => RestP M M') := by
  refine CtV_of (cc := cX0_restoreLatest) (maxL := 3) hX (by decide +kernel) rfl (Nat.le_of_ble_eq_true rfl) ?_
  intro zp ze zs zm zargs zbelow zmeth zc zQ F hret
  show J zp l ze (rm 3) zs zm zargs zbelow zmeth zc 0 0 zQ zs.heap X 3 M 0 [(0, vR X 8), (1, vR X 1)] []
  obtain ⟨kz, hkz5, hkz⟩ := hp (M 8 0 - 1) (by omega) (by omega)
  refine j_aload_n (q := 1) F dX0_restoreLatest_0 rfl rfl 0 rfl ?_
  refine j_aload_n (q := 2) F dX0_restoreLatest_1 rfl rfl 0 rfl ?_
  refine j_getI (q := 5) (i := 0) (index := 9) F hi8 rfl in_X0_restoreLatest_0 0 (by decide) rfl rfl fl_X0_restoreLatest_9 dX0_restoreLatest_2 rfl ?_
  refine j_iconst (q := 6) F dX0_restoreLatest_5 rfl ?_
  refine j_isub (q := 7) (z := (M 8 0) - 1) F dX0_restoreLatest_6 rfl rfl ?_
  refine j_callVRE (q := 10) F [vI ((M 8 0) - 1)] (ct_X0_pageAt l X hX M ((M 8 0) - 1) (by omega) (10 + 7 * kz) hkz) gX0_restoreLatest_X0_pageAt rfl cd_X0_pageAt ⟨by first | exact Nat.le_of_ble_eq_true rfl | (simp only [rm]; omega) | (simp [rm, vI, vR, Value.category]; omega), by first | exact Nat.le_of_ble_eq_true rfl | (simp only [rm]; omega) | (simp [rm, vI, vR, Value.category]; omega), by first | exact Nat.le_of_ble_eq_true rfl | (simp only [rm]; omega) | (simp [rm, vI, vR, Value.category]; omega), by first | exact Nat.le_of_ble_eq_true rfl | (simp only [rm]; omega) | (simp [rm, vI, vR, Value.category]; omega)⟩ hi8 rfl rfl rfl (Nat.le_of_ble_eq_true rfl) dX0_restoreLatest_7 rfl ?_
  refine j_astore_n (q := 11) (lv' := [(0, vR X 8), (1, vR X 1), (2, vR X (10 + 7 * kz))]) F dX0_restoreLatest_10 rfl rfl (by decide) rfl rfl ?_
  refine j_aload_n (q := 12) F dX0_restoreLatest_11 rfl rfl 2 rfl ?_
  refine j_ifnull (q := 15) F dX0_restoreLatest_12 rfl ?_
  refine j_aload_n (q := 16) F dX0_restoreLatest_15 rfl rfl 1 rfl ?_
  refine j_aload_n (q := 17) F dX0_restoreLatest_16 rfl rfl 2 rfl ?_
  refine j_callVV (q := 20) F [vR X (10 + 7 * kz)] (ct_X1_copyFrom l X hX M 1 (pg1) (10 + 7 * kz) (pgH kz hkz5) (by omega)) gX0_restoreLatest_X1_copyFrom rfl cd_X1_copyFrom ⟨by first | exact Nat.le_of_ble_eq_true rfl | (simp only [rm]; omega) | (simp [rm, vI, vR, Value.category]; omega), by first | exact Nat.le_of_ble_eq_true rfl | (simp only [rm]; omega) | (simp [rm, vI, vR, Value.category]; omega), by first | exact Nat.le_of_ble_eq_true rfl | (simp only [rm]; omega) | (simp [rm, vI, vR, Value.category]; omega), by first | exact Nat.le_of_ble_eq_true rfl | (simp only [rm]; omega) | (simp [rm, vI, vR, Value.category]; omega)⟩ (pg1).1 rfl rfl rfl (Nat.le_of_ble_eq_true rfl) dX0_restoreLatest_17 rfl (fun N2 hcp => ?_)
  have e82 : N2 8 = M 8 := hcp.2.2 8 (by omega) (by omega) (by omega) (by omega)
  refine j_aload_n (q := 21) F dX0_restoreLatest_20 rfl rfl 0 rfl ?_
  refine j_dup (q := 22) F dX0_restoreLatest_21 rfl rfl ?_
  refine j_getI (q := 25) (i := 0) (index := 9) F hi8 rfl in_X0_restoreLatest_0 0 (by decide) rfl rfl fl_X0_restoreLatest_9 dX0_restoreLatest_22 rfl ?_
  rw [show N2 8 0 = M 8 0 from by rw [e82]]
  refine j_iconst (q := 26) F dX0_restoreLatest_25 rfl ?_
  refine j_isub (q := 27) (z := (M 8 0) - 1) F dX0_restoreLatest_26 rfl rfl ?_
  refine j_putI (q := 30) (i := 0) (index := 9) F hi8 rfl in_X0_restoreLatest_0 0 (by decide) tyX0_ok nmX0 rfl rfl rfl rfl fl_X0_restoreLatest_9 dX0_restoreLatest_27 rfl ?_
  exact hret _ _ _ dX0_restoreLatest_30 (by exact ⟨N2, _, hkz, hcp, rfl⟩)
