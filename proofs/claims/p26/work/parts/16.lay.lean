theorem cd_X4_layLine : yX4_layLine.cls = RX4 ∧ yX4_layLine.cls ≠ "java/lang/invoke/MethodHandle" ∧ yX4_layLine.cls ≠ "java/lang/invoke/VarHandle" ∧ (parseMethodDescriptor yX4_layLine.desc).map (fun d => d.parameters.length) = some 4 := by decide +kernel
theorem fl_X4_layAll_33 : Cond.fieldLink RX4 33 "WhiteRivers$Page" "words" "I" ∈ wsX4_layAll := by decide +kernel
theorem in_X4_layAll_1 : ∀ w ∈ u_ws RX1 TX1 6, w ∈ wsX4_layAll := by decide +kernel
set_option maxRecDepth 100000 in
set_option maxHeartbeats 1000000 in
theorem ct_X4_layAll (l : Launch) (X : Cx) (hX : Inj X) (M : Mem) (c : Nat) (hc : isSheet c) (u : Nat) (hu : isPage u) (huc : u + 7 ≤ c) (d : Int → Int) (hR : PRel M u d) (hD : DOK d) (hsb : SBd M c) : CtV l X yX4_layAll wsX4_layAll 4 [vR X c, vR X u] M (fun M' => AllL M' c d (d 3) ∧ (∀ q, q ≠ c + 2 → q ≠ c + 4 → q ≠ c + 6 → q ≠ c + 8 → M' q = M q) ∧ SBd M' c) := by
  refine CtV_of (cc := cX4_layAll) (maxL := 6) hX (by decide +kernel) rfl (Nat.le_of_ble_eq_true rfl) ?_
  intro zp ze zs zm zargs zbelow zmeth zc zQ F hret
  show J zp l ze (rm 4) zs zm zargs zbelow zmeth zc 0 0 zQ zs.heap X 6 M 0 [(0, vR X c), (1, vR X u)] []
  have hL24 := hD.L24
  have hnn := hD.1
  have hww := hD.2.1
  refine j_iconst (q := 1) F dX4_layAll_0 rfl ?_
  refine j_istore_n (q := 2) (lv' := [(0, vR X c), (1, vR X u), (2, vI 0)]) F dX4_layAll_1 rfl rfl (by decide) rfl rfl ?_
  refine j_iconst (q := 3) F dX4_layAll_2 rfl ?_
  refine j_istore_n (q := 4) (lv' := [(0, vR X c), (1, vR X u), (2, vI 0), (3, vI 0)]) F dX4_layAll_3 rfl rfl (by decide) rfl rfl ?_
  refine j_iconst (q := 5) F dX4_layAll_4 rfl ?_
  refine j_istore (q := 7) (lv' := [(0, vR X c), (1, vR X u), (2, vI 0), (3, vI 0), (4, vI 0)]) F dX4_layAll_5 rfl (by decide) rfl rfl ?_
  have LP7 : ∀ (nn : Nat) (pv fi k : Int) (Mq : Mem), (0 ≤ k) → (k ≤ d 3) → (fi = sd d k) → (pv = prv d k) → (AllL Mq c d k) → (∀ q, q ≠ c + 2 → q ≠ c + 4 → q ≠ c + 6 → q ≠ c + 8 → Mq q = M q) → (SBd Mq c) → (d 3 - k).toNat < nn → J zp l ze (rm 4) zs zm zargs zbelow zmeth zc 0 0 zQ zs.heap X 6 Mq 7 [(0, vR X c), (1, vR X u), (2, vI pv), (3, vI fi), (4, vI k)] [] := by
    intro nn
    induction nn with
    | zero => intro pv fi k Mq g0 g1 g2 g3 hA hfr hsq hm7; exact absurd hm7 (Nat.not_lt_zero _)
    | succ nn ih7 =>
      intro pv fi k Mq g0 g1 g2 g3 hA hfr hsq hm7
      have hRq : PRel Mq u d := hR.congr (hfr u (by omega) (by omega) (by omega) (by omega)) (hfr (u + 2) (by omega) (by omega) (by omega) (by omega)) (hfr (u + 4) (by omega) (by omega) (by omega) (by omega)) (hfr (u + 6) (by omega) (by omega) (by omega) (by omega))
      have hn : Mq u 2 = d 0 := hRq.2.2.1
      have hw0 : Mq u 0 = d 1 := hRq.1
      have hbd0 := hD.bdall (l := k) g0
      have hsL := sd_L (d := d) (l := d 3) (Int.le_refl _)
      have hlt : fi < d 0 → k < d 3 := fun z => Int.lt_iff_le_and_ne.mpr ⟨g1, fun e => by rw [g2, e, hsL] at z; omega⟩
      have hpv : k < d 3 → 0 ≤ prv d k ∧ prv d k ≤ sd d k := fun z => ⟨(hD.prvle g0 z).1, (hD.prvle g0 z).2.1⟩
      refine j_iload (q := 9) F dX4_layAll_7 rfl 4 rfl ?_
      refine j_bipush (q := 11) F dX4_layAll_9 rfl (by decide) ?_
      refine j_icmp_ge (q := 14) (tgt := 50) F dX4_layAll_11 (by decide) rfl ⟨by omega, by omega⟩ ⟨by decide, by decide⟩ (fun h11_1 => ?_) (fun h11_1 => ?_)
      · skip
        refine hret _ _ _ dX4_layAll_50 ?_
        · have hk : k = d 3 := by
            by_cases e : k < d 3
            · have := hD.le (x := k) (y := d 3) g0 (by omega) (by omega); rw [hsL] at this; omega
            · omega
          exact ⟨hk ▸ hA, hfr, hsq⟩
      · skip
        refine j_iload_n (q := 15) F dX4_layAll_14 rfl rfl 3 rfl ?_
        refine j_aload_n (q := 16) F dX4_layAll_15 rfl rfl 1 rfl ?_
        refine j_getI (q := 19) (i := 2) (index := 33) F (hu).1 rfl in_X4_layAll_1 2 (by decide) rfl rfl fl_X4_layAll_33 dX4_layAll_16 rfl ?_
        refine j_icmp_ge (q := 22) (tgt := 50) F dX4_layAll_19 (by decide) rfl ⟨by omega, by omega⟩ ⟨by omega, by omega⟩ (fun h19_2 => ?_) (fun h19_2 => ?_)
        · skip
          refine hret _ _ _ dX4_layAll_50 ?_
          · have hk : k = d 3 := by
              by_cases e : k < d 3
              · have := hD.le (x := k) (y := d 3) g0 (by omega) (by omega); rw [hsL] at this; omega
              · omega
            exact ⟨hk ▸ hA, hfr, hsq⟩
        · skip
          refine j_aload_n (q := 23) F dX4_layAll_22 rfl rfl 1 rfl ?_
          refine j_iload_n (q := 24) F dX4_layAll_23 rfl rfl 3 rfl ?_
          refine j_callVP (q := 27) F [vI fi] (ct_X1_endOf l X hX Mq u (hu) (by omega) fi ⟨by omega, by omega⟩ (fun w' q0 q1 => by have := hRq.2.2.2.1.bin q0 (show w' < d 0 by omega); exact ⟨by omega, by omega⟩)) gX4_layAll_X1_endOf rfl cd_X1_endOf ⟨by first | exact Nat.le_of_ble_eq_true rfl | (simp only [rm]; omega) | (simp [rm, vI, vR, Value.category]; omega), by first | exact Nat.le_of_ble_eq_true rfl | (simp only [rm]; omega) | (simp [rm, vI, vR, Value.category]; omega), by first | exact Nat.le_of_ble_eq_true rfl | (simp only [rm]; omega) | (simp [rm, vI, vR, Value.category]; omega), by first | exact Nat.le_of_ble_eq_true rfl | (simp only [rm]; omega) | (simp [rm, vI, vR, Value.category]; omega)⟩ (hu).1 rfl rfl rfl (Nat.le_of_ble_eq_true rfl) dX4_layAll_24 rfl (fun en hen => ?_)
          rw [hn, g2] at hen
          have hk3 : k < d 3 := hlt (by omega)
          have he : en = sd d (k + 1) := hRq.2.2.2.1.end g0 hk3 hen
          have hst1 := hD.2.2.2.2.2.2 k g0 hk3
          have hbd1 := hD.bdall (l := k + 1) (by omega)
          have hfit : 0 ≤ exF (Mq (u + 2)) (Mq u 0) fi en := by rw [hRq.1, g2, he, exF_congr hRq.2.2.2.2.2.1 (by omega) (by omega)]; exact hst1.2.2
          refine j_istore (q := 29) (lv' := [(0, vR X c), (1, vR X u), (2, vI pv), (3, vI fi), (4, vI k), (5, vI en)]) F dX4_layAll_27 rfl (by decide) rfl rfl ?_
          refine j_aload_n (q := 30) F dX4_layAll_29 rfl rfl 0 rfl ?_
          refine j_aload_n (q := 31) F dX4_layAll_30 rfl rfl 1 rfl ?_
          refine j_iload_n (q := 32) F dX4_layAll_31 rfl rfl 2 rfl ?_
          refine j_iload_n (q := 33) F dX4_layAll_32 rfl rfl 3 rfl ?_
          refine j_iload (q := 35) F dX4_layAll_33 rfl 5 rfl ?_
          refine j_callVI (q := 38) F [vR X u, vI pv, vI fi, vI en] (ct_X4_layLine l X hX Mq c (hc) u (hu) (by omega) fi en (by omega) hRq.2.2.2.2.1 (by omega) (Or.inr hfit) hsq pv (by omega) (fun w q0 q1 => by rw [hA.2 w (by omega) (by omega)]; have := RD_bd d (by omega) w; omega)) gX4_layAll_X4_layLine rfl cd_X4_layLine ⟨by first | exact Nat.le_of_ble_eq_true rfl | (simp only [rm]; omega) | (simp [rm, vI, vR, Value.category]; omega), by first | exact Nat.le_of_ble_eq_true rfl | (simp only [rm]; omega) | (simp [rm, vI, vR, Value.category]; omega), by first | exact Nat.le_of_ble_eq_true rfl | (simp only [rm]; omega) | (simp [rm, vI, vR, Value.category]; omega), by first | exact Nat.le_of_ble_eq_true rfl | (simp only [rm]; omega) | (simp [rm, vI, vR, Value.category]; omega)⟩ (hc).1 rfl rfl rfl (Nat.le_of_ble_eq_true rfl) dX4_layAll_35 rfl (fun r_4 Nq hlp => ?_)
          have hsN : SBd Nq c := hlp.bd hsq (lexF_bd hRq.2.2.2.2.1 (by omega) (by omega) (by omega) (by omega) (Or.inr hfit)) hRq.2.2.2.2.1 (by omega)
          rw [g2, g3, he] at hlp
          have hst := hA.step hD hRq g0 hk3 hlp
          refine j_pop (q := 39) F dX4_layAll_38 rfl rfl ?_
          refine j_iload_n (q := 40) F dX4_layAll_39 rfl rfl 3 rfl ?_
          refine j_istore_n (q := 41) (lv' := [(0, vR X c), (1, vR X u), (2, vI fi), (3, vI fi), (4, vI k), (5, vI en)]) F dX4_layAll_40 rfl rfl (by decide) rfl rfl ?_
          refine j_iload (q := 43) F dX4_layAll_41 rfl 5 rfl ?_
          refine j_istore_n (q := 44) (lv' := [(0, vR X c), (1, vR X u), (2, vI fi), (3, vI en), (4, vI k), (5, vI en)]) F dX4_layAll_43 rfl rfl (by decide) rfl rfl ?_
          refine j_iinc (q := 47) (lv' := [(0, vR X c), (1, vR X u), (2, vI fi), (3, vI en), (4, vI (k + 1)), (5, vI en)]) F dX4_layAll_44 rfl 4 rfl (by decide) rfl rfl ?_
          refine j_goto (q := 7) F dX4_layAll_47 (by decide) ?_
          refine j_sub (lv' := [(0, vR X c), (1, vR X u), (2, vI fi), (3, vI en), (4, vI (k + 1))]) [0, 1, 2, 3, 4] rfl ?_
          exact ih7 fi en (k + 1) Nq (by omega) (by omega) (by exact he) (by rw [prv, if_neg (by omega), show k + 1 - 1 = k by omega]; exact g2) (by exact hst.1) (by exact fun q q2 q4 q6 q8 => (hst.2 q q2 q4 q6 q8).trans (hfr q q2 q4 q6 q8)) (by exact hsN) (by omega)
  exact LP7 _ 0 0 0 M (by omega) (by omega) (by exact hD.2.2.2.2.2.1.symm) (by exact (if_pos rfl).symm) (by exact ⟨fun l q0 q1 => by omega, fun w q0 q1 => by rw [hD.2.2.2.2.2.1] at q1; omega⟩) (by exact fun _ _ _ _ _ => rfl) (by exact hsb) (by exact Nat.lt_succ_self _)
theorem cd_X1_firstOf : yX1_firstOf.cls = RX1 ∧ yX1_firstOf.cls ≠ "java/lang/invoke/MethodHandle" ∧ yX1_firstOf.cls ≠ "java/lang/invoke/VarHandle" ∧ (parseMethodDescriptor yX1_firstOf.desc).map (fun d => d.parameters.length) = some 1 := by decide +kernel
theorem cd_X1_lineOf : yX1_lineOf.cls = RX1 ∧ yX1_lineOf.cls ≠ "java/lang/invoke/MethodHandle" ∧ yX1_lineOf.cls ≠ "java/lang/invoke/VarHandle" ∧ (parseMethodDescriptor yX1_lineOf.desc).map (fun d => d.parameters.length) = some 1 := by decide +kernel
theorem cd_X4_gapsThatMeet : yX4_gapsThatMeet.cls = RX4 ∧ yX4_gapsThatMeet.cls ≠ "java/lang/invoke/MethodHandle" ∧ yX4_gapsThatMeet.cls ≠ "java/lang/invoke/VarHandle" ∧ (parseMethodDescriptor yX4_gapsThatMeet.desc).map (fun d => d.parameters.length) = some 3 := by decide +kernel
theorem fl_X4_joints_33 : Cond.fieldLink RX4 33 "WhiteRivers$Page" "words" "I" ∈ wsX4_joints := by decide +kernel
theorem in_X4_joints_1 : ∀ w ∈ u_ws RX1 TX1 6, w ∈ wsX4_joints := by decide +kernel
set_option maxRecDepth 100000 in
set_option maxHeartbeats 1000000 in
theorem ct_X4_joints (l : Launch) (X : Cx) (hX : Inj X) (M : Mem) (c : Nat) (hc : isSheet c) (u : Nat) (hu : isPage u) (huc : u + 7 ≤ c) (d : Int → Int) (hR : PRel M u d) (hD : DOK d) (hsb : SBd M c) : CtI l X yX4_joints wsX4_joints 3 [vR X c, vR X u] M (fun x M' => M' = M ∧ x = cnt (fun w => if 2 ≤ (cnt (fun q => if mtB (M (c + 4) q) (M (c + 6) q) (M (c + 4) w) (M (c + 6) w) = true then 1 else 0) (sd d (lnD d w)) - cnt (fun q => if mtB (M (c + 4) q) (M (c + 6) q) (M (c + 4) w) (M (c + 6) w) = true then 1 else 0) (prv d (lnD d w))) then 1 else 0) (d 0)) := by
  refine CtI_of (cc := cX4_joints) (maxL := 5) hX (by decide +kernel) rfl (Nat.le_of_ble_eq_true rfl) ?_
  intro zp ze zs zm zargs zbelow zmeth zc zQ F hret
  show J zp l ze (rm 3) zs zm zargs zbelow zmeth zc 0 0 zQ zs.heap X 5 M 0 [(0, vR X c), (1, vR X u)] []
  have hL24 := hD.L24
  have hnn := hD.1
  have hn : M u 2 = d 0 := hR.2.2.1
  refine j_iconst (q := 1) F dX4_joints_0 rfl ?_
  refine j_istore_n (q := 2) (lv' := [(0, vR X c), (1, vR X u), (2, vI 0)]) F dX4_joints_1 rfl rfl (by decide) rfl rfl ?_
  refine j_iconst (q := 3) F dX4_joints_2 rfl ?_
  refine j_istore_n (q := 4) (lv' := [(0, vR X c), (1, vR X u), (2, vI 0), (3, vI 0)]) F dX4_joints_3 rfl rfl (by decide) rfl rfl ?_
  have LP4 : ∀ (nn : Nat) (acc k : Int), (0 ≤ k) → (k ≤ d 0) → (acc = cnt (fun w => if 2 ≤ (cnt (fun q => if mtB (M (c + 4) q) (M (c + 6) q) (M (c + 4) w) (M (c + 6) w) = true then 1 else 0) (sd d (lnD d w)) - cnt (fun q => if mtB (M (c + 4) q) (M (c + 6) q) (M (c + 4) w) (M (c + 6) w) = true then 1 else 0) (prv d (lnD d w))) then 1 else 0) k) → (d 0 - k).toNat < nn → J zp l ze (rm 3) zs zm zargs zbelow zmeth zc 0 0 zQ zs.heap X 5 M 4 [(0, vR X c), (1, vR X u), (2, vI acc), (3, vI k)] [] := by
    intro nn
    induction nn with
    | zero => intro acc k g0 g1 g2 hm4; exact absurd hm4 (Nat.not_lt_zero _)
    | succ nn ih4 =>
      intro acc k g0 g1 g2 hm4
      refine j_iload_n (q := 5) F dX4_joints_4 rfl rfl 3 rfl ?_
      refine j_aload_n (q := 6) F dX4_joints_5 rfl rfl 1 rfl ?_
      refine j_getI (q := 9) (i := 2) (index := 33) F (hu).1 rfl in_X4_joints_1 2 (by decide) rfl rfl fl_X4_joints_33 dX4_joints_6 rfl ?_
      refine j_icmp_ge (q := 12) (tgt := 51) F dX4_joints_9 (by decide) rfl ⟨by omega, by omega⟩ ⟨by omega, by omega⟩ (fun h9_1 => ?_) (fun h9_1 => ?_)
      · skip
        refine j_iload_n (q := 52) F dX4_joints_51 rfl rfl 2 rfl ?_
        exact hret _ _ _ _ dX4_joints_52 (by refine ⟨rfl, ?_⟩; rw [g2, show k = d 0 by omega])
      · skip
        obtain ⟨l0, a1, a2, a3, a4⟩ := hD.seg (w := k) g0 (by omega)
        have el := lnD_eq hD a1 a2 a3 a4
        have hb0 := hD.bdall (l := l0) a1
        have hb1 := hD.bdall (l := l0 + 1) (by omega)
        refine j_aload_n (q := 13) F dX4_joints_12 rfl rfl 1 rfl ?_
        refine j_iload_n (q := 14) F dX4_joints_13 rfl rfl 3 rfl ?_
        refine j_callVE (q := 17) F [vI k] (ct_X1_lineOf l X hX M u (hu) (by omega) k (by omega) (by omega)) gX4_joints_X1_lineOf rfl cd_X1_lineOf ⟨by first | exact Nat.le_of_ble_eq_true rfl | (simp only [rm]; omega) | (simp [rm, vI, vR, Value.category]; omega), by first | exact Nat.le_of_ble_eq_true rfl | (simp only [rm]; omega) | (simp [rm, vI, vR, Value.category]; omega), by first | exact Nat.le_of_ble_eq_true rfl | (simp only [rm]; omega) | (simp [rm, vI, vR, Value.category]; omega), by first | exact Nat.le_of_ble_eq_true rfl | (simp only [rm]; omega) | (simp [rm, vI, vR, Value.category]; omega)⟩ (hu).1 rfl rfl rfl (Nat.le_of_ble_eq_true rfl) dX4_joints_14 rfl ?_
        rw [show cnt (M (u + 4)) (k + 1) - 1 = lnD d k from by rw [hR.2.2.2.1.cnt1 a1 a2 a3 a4, lnD_eq hD a1 a2 a3 a4]; omega]
        refine j_istore (q := 19) (lv' := [(0, vR X c), (1, vR X u), (2, vI acc), (3, vI k), (4, vI (lnD d k))]) F dX4_joints_17 rfl (by decide) rfl rfl ?_
        refine j_aload_n (q := 20) F dX4_joints_19 rfl rfl 0 rfl ?_
        refine j_iload_n (q := 21) F dX4_joints_20 rfl rfl 3 rfl ?_
        refine j_aload_n (q := 22) F dX4_joints_21 rfl rfl 1 rfl ?_
        refine j_iload (q := 24) F dX4_joints_22 rfl 4 rfl ?_
        refine j_iconst (q := 25) F dX4_joints_24 rfl ?_
        refine j_isub (q := 26) (z := (lnD d k) - 1) F dX4_joints_25 rfl rfl ?_
        refine j_callVP (q := 29) F [vI ((lnD d k) - 1)] (ct_X1_firstOf l X hX M u (hu) (by omega) ((lnD d k) - 1) ⟨by omega, by omega⟩ (fun w' q0 q1 => by have := hR.2.2.2.1.cntbd q0 (show w' < d 0 by omega); exact ⟨by omega, by omega⟩)) gX4_joints_X1_firstOf rfl cd_X1_firstOf ⟨by first | exact Nat.le_of_ble_eq_true rfl | (simp only [rm]; omega) | (simp [rm, vI, vR, Value.category]; omega), by first | exact Nat.le_of_ble_eq_true rfl | (simp only [rm]; omega) | (simp [rm, vI, vR, Value.category]; omega), by first | exact Nat.le_of_ble_eq_true rfl | (simp only [rm]; omega) | (simp [rm, vI, vR, Value.category]; omega), by first | exact Nat.le_of_ble_eq_true rfl | (simp only [rm]; omega) | (simp [rm, vI, vR, Value.category]; omega)⟩ (hu).1 rfl rfl rfl (Nat.le_of_ble_eq_true rfl) dX4_joints_26 rfl (fun f1 hf1 => ?_)
        rw [hn, el] at hf1
        have e1 : f1 = prv d l0 := prv_fst hR.2.2.2.1 a1 a2 hf1
        refine j_aload_n (q := 30) F dX4_joints_29 rfl rfl 1 rfl ?_
        refine j_iload (q := 32) F dX4_joints_30 rfl 4 rfl ?_
        refine j_callVP (q := 35) F [vI (lnD d k)] (ct_X1_firstOf l X hX M u (hu) (by omega) (lnD d k) ⟨by omega, by omega⟩ (fun w' q0 q1 => by have := hR.2.2.2.1.cntbd q0 (show w' < d 0 by omega); exact ⟨by omega, by omega⟩)) gX4_joints_X1_firstOf rfl cd_X1_firstOf ⟨by first | exact Nat.le_of_ble_eq_true rfl | (simp only [rm]; omega) | (simp [rm, vI, vR, Value.category]; omega), by first | exact Nat.le_of_ble_eq_true rfl | (simp only [rm]; omega) | (simp [rm, vI, vR, Value.category]; omega), by first | exact Nat.le_of_ble_eq_true rfl | (simp only [rm]; omega) | (simp [rm, vI, vR, Value.category]; omega), by first | exact Nat.le_of_ble_eq_true rfl | (simp only [rm]; omega) | (simp [rm, vI, vR, Value.category]; omega)⟩ (hu).1 rfl rfl rfl (Nat.le_of_ble_eq_true rfl) dX4_joints_32 rfl (fun f2 hf2 => ?_)
        rw [hn, el] at hf2
        have e2 : f2 = sd d l0 := hR.2.2.2.1.fst a1 a2 hf2
        have hpr := hD.prvle a1 a2
        refine j_callVE (q := 38) F [vI k, vI f1, vI f2] (ct_X4_gapsThatMeet l X hX M c (hc) hsb k f1 f2 (by omega) (by omega)) gX4_joints_X4_gapsThatMeet rfl cd_X4_gapsThatMeet ⟨by first | exact Nat.le_of_ble_eq_true rfl | (simp only [rm]; omega) | (simp [rm, vI, vR, Value.category]; omega), by first | exact Nat.le_of_ble_eq_true rfl | (simp only [rm]; omega) | (simp [rm, vI, vR, Value.category]; omega), by first | exact Nat.le_of_ble_eq_true rfl | (simp only [rm]; omega) | (simp [rm, vI, vR, Value.category]; omega), by first | exact Nat.le_of_ble_eq_true rfl | (simp only [rm]; omega) | (simp [rm, vI, vR, Value.category]; omega)⟩ (hc).1 rfl rfl rfl (Nat.le_of_ble_eq_true rfl) dX4_joints_35 rfl ?_
        rw [show cnt (fun q => if (fun q => mtB (M (c + 4) q) (M (c + 6) q) (M (c + 4) k) (M (c + 6) k)) q = true then 1 else 0) f2 - cnt (fun q => if (fun q => mtB (M (c + 4) q) (M (c + 6) q) (M (c + 4) k) (M (c + 6) k)) q = true then 1 else 0) f1 = (cnt (fun q => if mtB (M (c + 4) q) (M (c + 6) q) (M (c + 4) k) (M (c + 6) k) = true then 1 else 0) (sd d (lnD d k)) - cnt (fun q => if mtB (M (c + 4) q) (M (c + 6) q) (M (c + 4) k) (M (c + 6) k) = true then 1 else 0) (prv d (lnD d k))) from by rw [el, e1, e2]]
        refine j_iconst (q := 39) F dX4_joints_38 rfl ?_
        refine j_icmp_lt (q := 42) (tgt := 45) F dX4_joints_39 (by decide) rfl (by have q1 := cnt_ind (f := fun q => mtB (M (c + 4) q) (M (c + 6) q) (M (c + 4) k) (M (c + 6) k)) (a := prv d (lnD d k)) (b := sd d (lnD d k)) (by rw [el]; omega) (by rw [el]; omega); rw [el] at q1 ⊢; exact ⟨by omega, by omega⟩) ⟨by decide, by decide⟩ (fun h39_6 => ?_) (fun h39_6 => ?_)
        · skip
          refine j_iinc (q := 48) (lv' := [(0, vR X c), (1, vR X u), (2, vI acc), (3, vI (k + 1)), (4, vI (lnD d k))]) F dX4_joints_45 rfl 3 rfl (by decide) rfl rfl ?_
          refine j_goto (q := 4) F dX4_joints_48 (by decide) ?_
          refine j_sub (lv' := [(0, vR X c), (1, vR X u), (2, vI acc), (3, vI (k + 1))]) [0, 1, 2, 3] rfl ?_
          exact ih4 acc (k + 1) (by omega) (by omega) (by rw [cnt_s _ g0]; split <;> omega) (by omega)
        · skip
          refine j_iinc (q := 45) (lv' := [(0, vR X c), (1, vR X u), (2, vI (acc + 1)), (3, vI k), (4, vI (lnD d k))]) F dX4_joints_42 rfl 2 rfl (by decide) rfl rfl ?_
          refine j_iinc (q := 48) (lv' := [(0, vR X c), (1, vR X u), (2, vI (acc + 1)), (3, vI (k + 1)), (4, vI (lnD d k))]) F dX4_joints_45 rfl 3 rfl (by decide) rfl rfl ?_
          refine j_goto (q := 4) F dX4_joints_48 (by decide) ?_
          refine j_sub (lv' := [(0, vR X c), (1, vR X u), (2, vI (acc + 1)), (3, vI (k + 1))]) [0, 1, 2, 3] rfl ?_
          exact ih4 (acc + 1) (k + 1) (by omega) (by omega) (by rw [cnt_s _ g0]; split <;> omega) (by omega)
  exact LP4 _ 0 0 (by omega) (by omega) (by exact (cnt_0 _).symm) (by exact Nat.lt_succ_self _)
