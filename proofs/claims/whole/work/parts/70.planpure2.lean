/-! ===== the reference's search: what its rows hold ===== -/
def FRM (d : Int → Int) (N : Mem) (k : Int) : Prop :=
  (0 ≤ N 90 k ∧ k ≤ N 90 k ∧ N 90 k ≤ d 0) ∧ (0 ≤ N 91 k ∧ N 90 k + N 91 k ≤ d 0 ∧ ∀ x, 0 ≤ x → x < N 91 k → 0 ≤ exD d (N 90 k) (N 90 k + x + 1)) ∧ (0 ≤ N 92 k ∧ N 92 k ≤ k) ∧ (0 ≤ N 93 k ∧ N 93 k ≤ 1681 * k) ∧ (0 ≤ N 94 k ∧ N 94 k ≤ 24) ∧
  (pvQ (N 90) k ≤ N 90 k ∧ 0 ≤ pvQ (N 90) k ∧ (pvQ (N 90) k < N 90 k → 0 ≤ exD d (pvQ (N 90) k) (N 90 k))) ∧ GpAt N d (pvQ (N 90) k) (N 90 k) (RSN d (N 90) k.toNat)
theorem pvQ_cg {Q Q' : Int → Int} {k : Int} (h0 : 0 ≤ k) (h : ∀ x : Int, 0 ≤ x → x ≤ k → Q' x = Q x) : pvQ Q' k = pvQ Q k := by
  unfold pvQ
  by_cases z : k = 0
  · rw [if_pos z, if_pos z]
  · rw [if_neg z, if_neg z]; exact h _ (by omega) (by omega)
theorem FRM.of {d : Int → Int} {N N' : Mem} {k : Int} (h : FRM d N k) (h0 : 0 ≤ k) (e90 : ∀ x, 0 ≤ x → x ≤ k → N' 90 x = N 90 x) (e92 : N' 92 k = N 92 k) (e93 : N' 93 k = N 93 k) (e94 : N' 94 k = N 94 k) (h91 : N' 91 k = N 91 k ∨ 0 < N 91 k ∧ N' 91 k = N 91 k - 1) (eg : ∀ g, g < N 90 k - 1 → N' 87 g = N 87 g ∧ N' 88 g = N 88 g ∧ N' 89 g = N 89 g) : FRM d N' k := by
  obtain ⟨g1, g2, g3, g4, g5, g6, g7⟩ := h
  have ek := e90 k h0 (Int.le_refl _)
  have ep := pvQ_cg h0 e90
  have er : RSN d (N' 90) k.toNat = RSN d (N 90) k.toNat := RSN_congr k.toNat (fun x a b => e90 x a (by omega))
  refine ⟨by rw [ek]; exact g1, ?_, by rw [e92]; exact g3, by rw [e93]; exact g4, by rw [e94]; exact g5, by rw [ep, ek]; exact g6, ?_⟩
  · rw [ek]
    rcases h91 with z | ⟨z0, z⟩
    · rw [z]; exact g2
    · refine ⟨by omega, by omega, fun x a b => g2.2.2 x a (by omega)⟩
  · rw [ep, ek, er]
    intro g a b
    have := eg g b
    rw [this.1, this.2.1, this.2.2]
    exact g7 g a b
def BM (N : Mem) (b : Bst) : Prop := (b.1 = 1000000000 ∧ N 82 16 = -1) ∨ ((0 ≤ N 82 16 ∧ N 82 16 ≤ 24) ∧ (0 ≤ N 82 17 ∧ N 82 17 < 100000) ∧ b.1 = N 82 16 * 100000 + N 82 17 ∧ b.2.1 = N 82 15 ∧ b.2.2.1 = N 82 18 ∧ ∀ k, 0 ≤ k → k ≤ b.2.1 → N 95 k = b.2.2.2 k)
theorem BM.congr {N N' : Mem} {b : Bst} (h : BM N b) (e82 : N' 82 = N 82) (e95 : N' 95 = N 95) : BM N' b := by
  unfold BM
  rw [e82, e95]
  exact h
def SI (M N : Mem) (D dep : Int) (b : Bst) : Prop :=
  (∀ q, q < 82 ∨ q = 83 ∨ q = 84 ∨ q = 85 → N q = M q) ∧ (∀ j, j < 15 → N 82 j = M 82 j) ∧ (N 90 0 = 0 ∧ N 92 0 = 0 ∧ N 93 0 = 0 ∧ N 94 0 = 0) ∧ (-1 ≤ dep ∧ dep ≤ 24) ∧ (∀ k, 0 ≤ k → k ≤ dep → FRM (M 83) N k) ∧ (∀ x y, 0 ≤ x → x < y → y ≤ dep → N 90 x < N 90 y) ∧ BM N b ∧
  KF (M 83) D (N 90) (N 91) (N 92) (N 93) (N 94) (dep + 1).toNat b = SOL (M 83) D
theorem SI.start {M N : Mem} {D x : Int} (hD : DOK (M 83)) (hz : M 90 0 = 0 ∧ M 92 0 = 0 ∧ M 93 0 = 0 ∧ M 94 0 = 0) (hx : MfP (M 83) 0 x) (hN : N = mset (mset M 82 16 (-1)) 91 0 x) : SI M N D 0 (1000000000, 0, 0, fun _ => 0) := by
  obtain ⟨z0, z2, z3, z4⟩ := hz
  have hn := hD.1
  have e : ∀ q, q ≠ 82 → q ≠ 91 → N q = M q := fun q a b => by rw [hN, mset_nef b, mset_nef a]
  have e90 := e 90 (by decide) (by decide)
  have e92 := e 92 (by decide) (by decide)
  have e93 := e 93 (by decide) (by decide)
  have e94 := e 94 (by decide) (by decide)
  have x0 : N 91 0 = x := by rw [hN, mset_at]
  have hp : pvQ (N 90) 0 = 0 := if_pos rfl
  refine ⟨fun q hq => e q (by omega) (by omega), fun j hj => by rw [hN, mset_nef (by decide), mset_ne2 (by omega)], by rw [e90, e92, e93, e94]; exact ⟨z0, z2, z3, z4⟩, by omega, fun k k0 k1 => ?_, fun a b a0 a1 a2 => by omega, Or.inl ⟨rfl, by rw [hN, mset_nef (by decide), mset_at]⟩, ?_⟩
  · rw [show k = 0 by omega]
    unfold FRM
    rw [hp, x0, e90, e92, e93, e94, z0, z2, z3, z4]
    refine ⟨by omega, ⟨hx.1, hx.2.1, fun y a b => hx.2.2.1 y a b⟩, by omega, by omega, by omega, ⟨by omega, by omega, fun z => by omega⟩, fun g a b => by omega⟩
  · show KF (M 83) D (N 90) (N 91) (N 92) (N 93) (N 94) 0 (TOPF (M 83) D (N 90) (N 91) (N 92) (N 93) (N 94) 0 _) = _
    have e0 : N 90 ((0 : Nat) : Int) = 0 := by rw [e90]; exact z0
    have h := TOPF_fresh hD (D := D) (Q := N 90) (C := N 91) (H := N 92) (B := N 93) (R := N 94) (k := 0) (by decide) (by omega) (by omega) (by rw [e0]; show MfP (M 83) 0 (N 91 0); rw [x0]; exact hx) (1000000000, 0, 0, fun _ => 0)
    show TOPF (M 83) D (N 90) (N 91) (N 92) (N 93) (N 94) 0 _ = _
    rw [← h]
    have eq : QFN (N 90) ((0 : Nat) : Int) = fun _ => 0 := by
      funext y
      unfold QFN
      rw [if_neg (by omega)]
    have h2 : N 92 ((0 : Nat) : Int) = 0 := by rw [e92]; exact z2
    have h3 : N 93 ((0 : Nat) : Int) = 0 := by rw [e93]; exact z3
    have h4 : N 94 ((0 : Nat) : Int) = 0 := by rw [e94]; exact z4
    have h5 : pvQ (N 90) ((0 : Nat) : Int) = 0 := if_pos rfl
    rw [eq, e0, h2, h3, h4, h5]
    rfl
theorem SI.less {M N N' : Mem} {D dep : Int} {b b' : Bst} (h : SI M N D dep b) (h0 : 0 ≤ dep) (e : ∀ q, q ≠ 82 → q ≠ 95 → N' q = N q) (e82 : ∀ j, j < 15 → N' 82 j = N 82 j) (hb : BM N' b') (hK : TOPF (M 83) D (N 90) (N 91) (N 92) (N 93) (N 94) dep.toNat b = b') : SI M N' D (dep - 1) b' := by
  obtain ⟨g1, g2, g3, g4, g5, g6, g7, g8⟩ := h
  have e90 := e 90 (by decide) (by decide)
  refine ⟨fun q hq => by rw [e q (by omega) (by omega)]; exact g1 q hq, fun j hj => by rw [e82 j hj]; exact g2 j hj, ?_, by omega, fun k k0 k1 => ?_, fun x y x0 xy y1 => by rw [e90]; exact g6 x y x0 xy (by omega), hb, ?_⟩
  · rw [e90, e 92 (by decide) (by decide), e 93 (by decide) (by decide), e 94 (by decide) (by decide)]; exact g3
  · refine (g5 k k0 (by omega)).of k0 (fun x _ _ => by rw [e90]) ?_ ?_ ?_ (Or.inl ?_) (fun g _ => ?_)
    · rw [e 92 (by decide) (by decide)]
    · rw [e 93 (by decide) (by decide)]
    · rw [e 94 (by decide) (by decide)]
    · rw [e 91 (by decide) (by decide)]
    · rw [e 87 (by decide) (by decide), e 88 (by decide) (by decide), e 89 (by decide) (by decide)]; exact ⟨rfl, rfl, rfl⟩
  · rw [e90, e 91 (by decide) (by decide), e 92 (by decide) (by decide), e 93 (by decide) (by decide), e 94 (by decide) (by decide), ← hK, ← g8, show (dep - 1 + 1).toNat = dep.toNat by omega, show (dep + 1).toNat = dep.toNat + 1 by omega]
    rfl
theorem SI.pop {M N : Mem} {D dep : Int} {b : Bst} (h : SI M N D dep b) (h0 : 0 ≤ dep) (hc : M 83 0 ≤ N 90 dep ∧ ¬ N 92 dep * 100000 + N 93 dep < b.1 ∨ N 90 dep < M 83 0 ∧ N 91 dep = 0) : SI M N D (dep - 1) b := by
  refine h.less h0 (fun _ _ _ => rfl) (fun _ _ => rfl) h.2.2.2.2.2.2.1 ?_
  unfold TOPF
  rw [Int.toNat_of_nonneg h0]
  rcases hc with ⟨a, c⟩ | ⟨a, c⟩
  · rw [if_pos a, if_neg c]
  · rw [if_neg (by omega), c]; rfl
theorem SI.take {M N N' : Mem} {D dep : Int} {b : Bst} (h : SI M N D dep b) (h0 : 0 ≤ dep) (hl : M 83 0 ≤ N 90 dep) (hb : N 92 dep * 100000 + N 93 dep < b.1) (ht : (∀ q, q ≠ 82 → q ≠ 95 → N' q = N q) ∧ (∀ j, j < 15 → N' 82 j = N 82 j) ∧ N' 82 15 = dep ∧ N' 82 16 = N 92 dep ∧ N' 82 17 = N 93 dep ∧ N' 82 18 = N 94 dep ∧ ∀ k, 0 ≤ k → k ≤ dep → N' 95 k = N 90 k) : ∃ b', SI M N' D (dep - 1) b' := by
  obtain ⟨t1, t2, t3, t4, t5, t6, t7⟩ := ht
  have hf := h.2.2.2.2.1 dep h0 (Int.le_refl _)
  have hd := h.2.2.2.1
  refine ⟨(N 92 dep * 100000 + N 93 dep, dep, N 94 dep, QFN (N 90) dep), h.less h0 t1 t2 (Or.inr ⟨?_, ?_, ?_, ?_, ?_, ?_⟩) ?_⟩
  · rw [t4]; have := hf.2.2.1; omega
  · rw [t5]; have := hf.2.2.2.1; omega
  · show N 92 dep * 100000 + N 93 dep = _; rw [t4, t5]
  · exact t3.symm
  · exact t6.symm
  · intro k k0 k1
    show N' 95 k = QFN (N 90) dep k
    unfold QFN
    by_cases hk : k = 0
    · rw [if_neg (by omega), t7 k k0 k1, hk]; exact h.2.2.1.1
    · rw [if_pos ⟨by omega, k1⟩]; exact t7 k k0 k1
  · unfold TOPF
    rw [Int.toNat_of_nonneg h0, if_pos hl, if_pos hb]
theorem SI.lay {M N N' : Mem} {D dep i : Int} {b : Bst} (h : SI M N D dep b) (h0 : 0 ≤ dep) (hi : i = N 90 dep) {L F : Int → Int} {x j w : Int} (hI : LaI N N' L x i j F w) : SI M N' D dep b := by
  subst hi
  obtain ⟨g1, g2, g3, g4, g5, g6, g7, g8⟩ := h
  have e : ∀ q, q < 86 ∨ 89 < q → N' q = N q := hI.1
  have e90 := e 90 (by decide)
  have e91 := e 91 (by decide)
  have e92 := e 92 (by decide)
  have e93 := e 93 (by decide)
  have e94 := e 94 (by decide)
  refine ⟨fun q hq => by rw [e q (by omega)]; exact g1 q hq, fun j hj => by rw [e 82 (by decide)]; exact g2 j hj, by rw [e90, e92, e93, e94]; exact g3, g4, fun k k0 k1 => ?_, by rw [e90]; exact g6, g7.congr (e 82 (by decide)) (e 95 (by decide)), by rw [e90, e91, e92, e93, e94]; exact g8⟩
  refine (g5 k k0 k1).of k0 (fun x _ _ => by rw [e90]) (by rw [e92]) (by rw [e93]) (by rw [e94]) (Or.inl (by rw [e91])) (fun g hg => ?_)
  have hk : N 90 k ≤ N 90 dep := by
    by_cases z : k = dep
    · rw [z]; exact Int.le_refl _
    · have := g6 k dep k0 (by omega) (Int.le_refl _); omega
  exact hI.2.2.2 g (Or.inl (by omega))
theorem SI.dec {M N : Mem} {D dep : Int} {b : Bst} (h : SI M N D dep b) (h0 : 0 ≤ dep) (hl : N 90 dep < M 83 0) (hc : 0 < N 91 dep) : KF (M 83) D (N 90) (dset (N 91) dep (N 91 dep - 1)) (N 92) (N 93) (N 94) (dep + 1).toNat (stepF (M 83) D (24 - dep.toNat) (pvQ (N 90) dep) (N 90 dep) (RSN (M 83) (N 90) dep.toNat) (N 92 dep * 100000 + N 93 dep) (N 94 dep) dep (QFN (N 90) dep) (N 90 dep + N 91 dep) b) = SOL (M 83) D := by
  obtain ⟨k, rfl⟩ := Int.eq_ofNat_of_zero_le h0
  have g8 := h.2.2.2.2.2.2.2
  rw [show ((k : Int) + 1).toNat = k + 1 by omega] at g8 ⊢
  rw [← g8, Int.toNat_natCast]
  show KF _ _ _ _ _ _ _ k (TOPF _ _ _ _ _ _ _ k _) = KF _ _ _ _ _ _ _ k (TOPF _ _ _ _ _ _ _ k _)
  rw [TOPF_step hl hc b]
  exact KF_congr k _ (fun x a c => ⟨rfl, dset_ne (by omega), rfl, rfl, rfl⟩)
theorem SI.skip {M N N' : Mem} {D dep : Int} {b : Bst} (h : SI M N D dep b) (h0 : 0 ≤ dep) (hl : N 90 dep < M 83 0) (hc : 0 < N 91 dep) (hs : ¬ mayD (M 83) (N 90 dep) (N 90 dep + N 91 dep) ∨ D < mostD (M 83) (pvQ (N 90) dep) (N 90 dep) (N 90 dep + N 91 dep) (RSN (M 83) (N 90) dep.toNat)) (hN : N' = mset N 91 dep (N 91 dep - 1)) : SI M N' D dep b := by
  have hk := h.dec h0 hl hc
  have hid : stepF (M 83) D (24 - dep.toNat) (pvQ (N 90) dep) (N 90 dep) (RSN (M 83) (N 90) dep.toNat) (N 92 dep * 100000 + N 93 dep) (N 94 dep) dep (QFN (N 90) dep) (N 90 dep + N 91 dep) b = b := by
    rcases hs with z | z
    · exact step_no (fun y => z (okB_iff.mp y).2)
    · exact step_far z
  rw [hid] at hk
  obtain ⟨g1, g2, g3, g4, g5, g6, g7, g8⟩ := h
  have e : ∀ q, q ≠ 91 → N' q = N q := fun q a => by rw [hN, mset_nef a]
  have e90 := e 90 (by decide)
  have e92 := e 92 (by decide)
  have e93 := e 93 (by decide)
  have e94 := e 94 (by decide)
  refine ⟨fun q hq => by rw [e q (by omega)]; exact g1 q hq, fun j hj => by rw [e 82 (by decide)]; exact g2 j hj, by rw [e90, e92, e93, e94]; exact g3, g4, fun k k0 k1 => ?_, by rw [e90]; exact g6, g7.congr (e 82 (by decide)) (e 95 (by decide)), by rw [e90, e92, e93, e94, hN, mset_d]; exact hk⟩
  refine (g5 k k0 k1).of k0 (fun x _ _ => by rw [e90]) (by rw [e92]) (by rw [e93]) (by rw [e94]) ?_ (fun g hg => by rw [e 87 (by decide), e 88 (by decide), e 89 (by decide)]; exact ⟨rfl, rfl, rfl⟩)
  by_cases z : k = dep
  · rw [z, hN, mset_at]; exact Or.inr ⟨hc, rfl⟩
  · rw [hN, mset_ne2 z]; exact Or.inl rfl
theorem chD_bd (d : Int → Int) (i j : Int) : 0 ≤ chD d i j ∧ chD d i j ≤ 1 := by
  unfold chD
  split <;> omega
theorem prD_ch (d : Int → Int) (i j : Int) : prD d i j = chD d i j * 100000 + bdD d i j := by
  unfold prD chD
  split <;> omega
theorem SI.push {M N N1 Ml N2 : Mem} {D dep j x : Int} {b : Bst} (h : SI M N D dep b) (hD : DOK (M 83)) (hDD : 1 ≤ D ∧ D ≤ 24) (h0 : 0 ≤ dep) (hl : N 90 dep < M 83 0) (hc : 0 < N 91 dep) (hj : j = N 90 dep + N 91 dep) (hN1 : N1 = mset N 91 dep (N 91 dep - 1)) {p i : Int} {r : Int → Int} (hp : p = pvQ (N 90) dep) (hi : i = N 90 dep) (hr : r = RSN (M 83) (N 90) dep.toNat)
    (hI : LaI N1 Ml (lenD (M 83)) (lexF (lenD (M 83)) (M 83 1) (M 83 0) i j) i j (rlF (lenD (M 83)) (M 83 1) (M 83 0) p i j r) j) (hm : mayD (M 83) i j) (hmost : mostD (M 83) p i j r ≤ D)
    (f : ∀ q, q < 90 ∨ 94 < q → N2 q = Ml q) (f0 : N2 90 = dset (Ml 90) (dep + 1) j) (f1 : N2 91 = dset (Ml 91) (dep + 1) x) (f2 : N2 92 = dset (Ml 92) (dep + 1) (N 92 dep + chD (M 83) i j)) (f3 : N2 93 = dset (Ml 93) (dep + 1) (N 93 dep + bdD (M 83) i j)) (f4 : N2 94 = dset (Ml 94) (dep + 1) (max (N 94 dep) (mostD (M 83) p i j r))) (hx : MfP (M 83) j x) : SI M N2 D (dep + 1) b := by
  have hk := h.dec h0 hl hc
  have hcopy := h
  obtain ⟨g1, g2, g3, g4, g5, g6, g7, g8⟩ := h
  have hf := g5 dep h0 (Int.le_refl _)
  have hn := hD.1
  have hx0 := hf.2.1.2.2 (N 91 dep - 1) (by omega) (by omega)
  rw [show N 90 dep + (N 91 dep - 1) + 1 = j by omega, ← hi] at hx0
  have hok : okD (M 83) i j := ⟨hx0, hm⟩
  have e1 : ∀ q, q < 86 ∨ 89 < q → q ≠ 91 → Ml q = N q := fun q a c => by rw [hI.1 q a, hN1, mset_nef c]
  have m91 : Ml 91 = dset (N 91) dep (N 91 dep - 1) := by rw [hI.1 91 (by decide), hN1, mset_d]
  have m90 := e1 90 (by decide) (by decide)
  have m92 := e1 92 (by decide) (by decide)
  have m93 := e1 93 (by decide) (by decide)
  have m94 := e1 94 (by decide) (by decide)
  rw [m90] at f0
  rw [m91] at f1
  rw [m92] at f2
  rw [m93] at f3
  rw [m94] at f4
  have a90 : ∀ y, y ≤ dep → N2 90 y = N 90 y := fun y a => by rw [f0, dset_ne (by omega)]
  have t90 : N2 90 (dep + 1) = j := by rw [f0, dset_at]
  have hij : i < j := by omega
  have hjn : j ≤ M 83 0 := by have := hf.2.1.2.1; omega
  have hcb := chD_bd (M 83) i j
  have hbb := bdD_bd hD (show 0 ≤ i by have := hf.1; omega) hij hjn hok.1
  have hmn : 0 ≤ mostD (M 83) p i j r := mx_nn
  have hpv : pvQ (N2 90) (dep + 1) = i := by
    unfold pvQ
    rw [if_neg (by omega), show dep + 1 - 1 = dep by omega, a90 dep (Int.le_refl _), hi]
  have hrs : RSN (M 83) (N2 90) (dep + 1).toNat = rlF (lenD (M 83)) (M 83 1) (M 83 0) p i j r := by
    rw [show (dep + 1).toNat = dep.toNat + 1 by omega]
    show rlF _ _ _ (pvQ (N2 90) (dep.toNat : Int)) (N2 90 (dep.toNat : Int)) (N2 90 ((dep.toNat : Int) + 1)) (RSN (M 83) (N2 90) dep.toNat) = _
    rw [Int.toNat_of_nonneg h0, t90, a90 dep (Int.le_refl _), RSN_congr (d := M 83) (Q := N2 90) (Q' := N 90) dep.toNat (fun y a c => a90 y (by omega)), pvQ_cg (Q := N 90) h0 (fun y _ c => a90 y c), ← hp, ← hi, ← hr]
  refine ⟨fun q hq => by rw [f q (by omega), e1 q (by omega) (by omega)]; exact g1 q hq, fun y hy => by rw [f 82 (by decide), e1 82 (by decide) (by decide)]; exact g2 y hy, ?_, by have := hf.1; omega, fun k k0 k1 => ?_, fun a c a0 ac c1 => ?_, g7.congr (by rw [f 82 (by decide), e1 82 (by decide) (by decide)]) (by rw [f 95 (by decide), e1 95 (by decide) (by decide)]), ?_⟩
  · rw [f0, f2, f3, f4, dset_ne (by omega), dset_ne (by omega), dset_ne (by omega), dset_ne (by omega)]; exact g3
  · by_cases hkd : k = dep + 1
    · subst hkd
      unfold FRM
      rw [hpv, hrs, t90, f1, f2, f3, f4, dset_at, dset_at, dset_at, dset_at]
      refine ⟨by have := hf.1; omega, ⟨hx.1, hx.2.1, fun y a c => hx.2.2.1 y a c⟩, by have := hf.2.2.1; omega, by have := hf.2.2.2.1; omega, by have := hf.2.2.2.2.1; omega, ⟨by omega, by have := hf.1; omega, fun _ => hok.1⟩, fun g a c => ?_⟩
      have hg := (hI.2.1 g a (by omega)).2 c
      rw [f 87 (by decide), f 88 (by decide), f 89 (by decide)]
      refine ⟨hg.1, hg.2.1, hg.2.2, ?_, ?_⟩
      · unfold rlF
        rw [if_pos ⟨a, c⟩]
        have : 0 ≤ mx (fun q => gmt (lenD (M 83)) (M 83 1) (M 83 0) p i j q g) r p (i - 1) := mx_nn
        omega
      · have : rlF (lenD (M 83)) (M 83 1) (M 83 0) p i j r g ≤ mostD (M 83) p i j r := mx_ge (f := fun _ => true) a c rfl
        omega
    · refine (g5 k k0 (by omega)).of k0 (fun y _ c => a90 y (by omega)) (by rw [f2, dset_ne hkd]) (by rw [f3, dset_ne hkd]) (by rw [f4, dset_ne hkd]) ?_ (fun g hg => ?_)
      · rw [f1, dset_ne hkd]
        by_cases z : k = dep
        · rw [z, dset_at]; exact Or.inr ⟨hc, rfl⟩
        · rw [dset_ne z]; exact Or.inl rfl
      · have hki : N 90 k ≤ i := by
          by_cases z : k = dep
          · rw [z, hi]; exact Int.le_refl _
          · have := g6 k dep k0 (by omega) (Int.le_refl _); omega
        have h2 := hI.2.2.2 g (Or.inl (by omega))
        rw [f 87 (by decide), f 88 (by decide), f 89 (by decide), h2.1, h2.2.1, h2.2.2, hN1, mset_nef (by decide), mset_nef (by decide), mset_nef (by decide)]
        exact ⟨rfl, rfl, rfl⟩
  · by_cases z : c = dep + 1
    · rw [z, t90, a90 a (by omega)]
      by_cases z2 : a = dep
      · rw [z2]; omega
      · have := g6 a dep a0 (by omega) (Int.le_refl _); omega
    · rw [a90 a (by omega), a90 c (by omega)]; exact g6 a c a0 ac (by omega)
  · rw [← hj, ← hi, ← hp, ← hr, step_go hmost hok] at hk
    rw [show (dep + 1 + 1).toNat = (dep + 1).toNat + 1 by omega, ← hk]
    show KF _ _ _ _ _ _ _ (dep + 1).toNat (TOPF _ _ _ _ _ _ _ (dep + 1).toNat b) = _
    have ec : (((dep + 1).toNat : Nat) : Int) = dep + 1 := Int.toNat_of_nonneg (by omega)
    have hfr := TOPF_fresh hD (D := D) (Q := N2 90) (C := N2 91) (H := N2 92) (B := N2 93) (R := N2 94) (k := (dep + 1).toNat) (by have := hf.1; omega) (by rw [ec, t90]; have := hf.1; omega) (by rw [ec, t90]; exact hjn) (by rw [ec, t90, f1, dset_at]; exact hx) b
    rw [← hfr, ec, hpv, hrs, t90, f2, f3, f4, dset_at, dset_at, dset_at, show 25 - (dep + 1).toNat = 24 - dep.toNat by omega]
    have eq : QFN (N2 90) (dep + 1) = qset (QFN (N 90) dep) (dep + 1) j := by
      funext y
      show (if 1 ≤ y ∧ y ≤ dep + 1 then N2 90 y else 0) = if y = dep + 1 then j else (if 1 ≤ y ∧ y ≤ dep then N 90 y else 0)
      by_cases z : y = dep + 1
      · rw [if_pos ⟨by omega, by omega⟩, if_pos z, z, t90]
      · rw [if_neg z]
        by_cases z2 : 1 ≤ y ∧ y ≤ dep
        · rw [if_pos ⟨z2.1, by omega⟩, if_pos z2, a90 y z2.2]
        · rw [if_neg (fun q => z2 ⟨q.1, by omega⟩), if_neg z2]
    have ep : (N 92 dep + chD (M 83) i j) * 100000 + (N 93 dep + bdD (M 83) i j) = N 92 dep * 100000 + N 93 dep + prD (M 83) i j := by
      rw [prD_ch]; omega
    rw [eq, ep, f0, f1]
    exact KF_congr _ _ (fun y y0 y1 => by
      rw [ec] at y1
      exact ⟨dset_ne (by omega), dset_ne (by omega), dset_ne (by omega), dset_ne (by omega), dset_ne (by omega)⟩)
theorem SI.done {M N : Mem} {D : Int} {b : Bst} (h : SI M N D (-1) b) : SI M N D (-1) (SOL (M 83) D) := by
  have e : KF (M 83) D (N 90) (N 91) (N 92) (N 93) (N 94) 0 b = SOL (M 83) D := h.2.2.2.2.2.2.2
  have e2 : b = SOL (M 83) D := e
  rw [← e2]
  exact h
theorem SI.yes {M N : Mem} {D : Int} (h : SI M N D (-1) (SOL (M 83) D)) (hne : N 82 16 ≠ -1) : (SOL (M 83) D).1 < 1000000000 ∧ (SOL (M 83) D).1 / 100000 = N 82 16 ∧ (SOL (M 83) D).1 % 100000 = N 82 17 ∧ (SOL (M 83) D).2.1 = N 82 15 ∧ (SOL (M 83) D).2.2.1 = N 82 18 ∧ ∀ k, 0 ≤ k → k ≤ (SOL (M 83) D).2.1 → N 95 k = (SOL (M 83) D).2.2.2 k := by
  rcases h.2.2.2.2.2.2.1 with ⟨-, z⟩ | ⟨y1, y2, y3, y4, y5, y6⟩
  · exact absurd z hne
  · exact ⟨by omega, by omega, by omega, y4, y5, y6⟩
theorem SI.no {M N : Mem} {D : Int} (h : SI M N D (-1) (SOL (M 83) D)) (he : N 82 16 = -1) : (SOL (M 83) D).1 = 1000000000 := by
  rcases h.2.2.2.2.2.2.1 with ⟨z, -⟩ | ⟨y1, -⟩
  · exact z
  · omega
def PF (M N : Mem) : Prop := (∀ q, q < 82 ∨ q = 83 ∨ q = 84 ∨ q = 85 → N q = M q) ∧ (∀ j, j < 15 → N 82 j = M 82 j) ∧ (N 90 0 = 0 ∧ N 92 0 = 0 ∧ N 93 0 = 0 ∧ N 94 0 = 0)
theorem SI.pf {M N : Mem} {D dep : Int} {b : Bst} (h : SI M N D dep b) : PF M N := ⟨h.1, h.2.1, h.2.2.1⟩
theorem PF.rf {M : Mem} (hz : M 90 0 = 0 ∧ M 92 0 = 0 ∧ M 93 0 = 0 ∧ M 94 0 = 0) : PF M M := ⟨fun _ _ => rfl, fun _ _ => rfl, hz⟩
theorem PF.trans {M N O : Mem} (h : PF M N) (g : PF N O) : PF M O := ⟨fun q hq => (g.1 q hq).trans (h.1 q hq), fun j hj => (g.2.1 j hj).trans (h.2.1 j hj), g.2.2⟩
theorem PF.mpo {M N : Mem} {O : Int → Mem → Prop} {r : Int} (h : PF M N) (hz : M 90 0 = 0 ∧ M 92 0 = 0 ∧ M 93 0 = 0 ∧ M 94 0 = 0) (hO : SM M N → O r N) : MPO M O r N := by
  obtain ⟨z0, z2, z3, z4⟩ := hz
  obtain ⟨n0, n2, n3, n4⟩ := h.2.2
  exact ⟨fun q hq => h.1 q (by omega), ⟨by rw [n0, z0], by rw [n2, z2], by rw [n3, z3], by rw [n4, z4]⟩, hO ⟨h.1 83 (by decide), h.1 84 (by decide), h.1 85 (by decide), h.2.1 2 (by decide), h.2.1 4 (by decide)⟩⟩
theorem RecP.cg {M N P Q : Mem} (h : RecP N P) (e2 : N 82 2 = M 82 2) (e3 : N 83 = M 83) (e4 : N 84 = M 84) (f2 : Q 82 2 = P 82 2) (f4 : Q 84 = P 84) : RecP M Q := by
  unfold RecP at h ⊢
  rw [e2, e3, e4, ← f2, ← f4] at h
  exact h
theorem frM_none {d : Int → Int} {i j nl : Int} (h : NlP d i j nl) (hn : nl = -1) : frM d i j = 0 := by
  refine frM_no (fun ⟨l, a0, a1, a2, a3, a4⟩ => ?_)
  rcases h with ⟨q0, -⟩ | ⟨-, q⟩
  · omega
  · exact q ⟨l, a0, a1, a2, a3⟩
theorem frM_some {d : Int → Int} (hD : DOK d) {i j nl : Int} (h : NlP d i j nl) (hn : nl ≠ -1) : frM d i j = d (53 + nl) := by
  rcases h with ⟨q0, q1, q2, q3⟩ | ⟨q, -⟩
  · have hl := hD.2.2.2.2.2.2 nl q0 q1
    by_cases hf : d (53 + nl) = 1
    · rw [hf]; exact frM_yes ⟨nl, q0, q1, q2, q3, hf⟩
    · have hno : ¬ frLn d i j := fun ⟨l, a0, a1, a2, a3, a4⟩ => by
        have hl2 := hD.2.2.2.2.2.2 l a0 a1
        have e := hD.segu (w := i) a0 a1 (by omega) (by omega) q0 q1 (by omega) (by omega)
        rw [e] at a4
        exact hf a4
      rw [frM_no hno]
      omega
  · exact absurd q hn
noncomputable def damK (d : Int → Int) (m k : Int) (Q : Int → Int) : Int → Int := fun j => if j = 3 then m else if 28 ≤ j ∧ j < 28 + k then Q (j - 28) else if 53 ≤ j ∧ j < 53 + k then frM d (Q (j - 53)) (Q (j - 53 + 1)) else d j
theorem damK_0 (d : Int → Int) (m : Int) (Q : Int → Int) : damK d m 0 Q = dset d 3 m := by
  funext j
  unfold damK dset
  by_cases h : j = 3
  · rw [if_pos h, if_pos h]
  · rw [if_neg h, if_neg h, if_neg (by omega), if_neg (by omega)]
theorem damK_s {d : Int → Int} {m k : Int} {Q e : Int → Int} (hk : 0 ≤ k) (h : ∀ j, 0 ≤ j → j < 77 → e j = damK d m k Q j) (hk2 : k < 24) : ∀ j, 0 ≤ j → j < 77 → dset (dset e (28 + k) (Q k)) (53 + k) (frM d (Q k) (Q (k + 1))) j = damK d m (k + 1) Q j := by
  intro j a b
  by_cases h1 : j = 53 + k
  · rw [h1, dset_at]
    unfold damK
    rw [if_neg (by omega), if_neg (by omega), if_pos (by omega), show 53 + k - 53 = k by omega]
  · rw [dset_ne h1]
    by_cases h2 : j = 28 + k
    · rw [h2, dset_at]
      unfold damK
      rw [if_neg (by omega), if_pos (by omega), show 28 + k - 28 = k by omega]
    · rw [dset_ne h2, h j a b]
      unfold damK
      by_cases h3 : j = 3
      · rw [if_pos h3, if_pos h3]
      · rw [if_neg h3, if_neg h3]
        by_cases h4 : 28 ≤ j ∧ j < 28 + k
        · rw [if_pos h4, if_pos (show 28 ≤ j ∧ j < 28 + (k + 1) by omega)]
        · rw [if_neg h4, if_neg (show ¬ (28 ≤ j ∧ j < 28 + (k + 1)) by omega)]
          by_cases h5 : 53 ≤ j ∧ j < 53 + k
          · rw [if_pos h5, if_pos (show 53 ≤ j ∧ j < 53 + (k + 1) by omega)]
          · rw [if_neg h5, if_neg (show ¬ (53 ≤ j ∧ j < 53 + (k + 1)) by omega)]
