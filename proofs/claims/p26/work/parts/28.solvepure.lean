/-! ===== the search, from its first to its last ===== -/
theorem solve_start {M Mc Ms : Mem} {d : Int → Int} {D : Int} (hR : PRel M 1 d) (hD : DOK d) (hB : SBd M 62) (hcp : PgCopy (mset M 54 3 D) Mc 55 1) (hsp : PrOK Ms d ∧ ∀ q, q ≠ 72 → q ≠ 74 → Ms q = Mc q) : TP (mset (mset (mset Ms 54 2 1000000000) 54 0 0) 54 1 0) d D 0 0 (fun _ => 0) 0 (fun _ => 0) (1000000000, 0, 0, fun _ => 0) := by
  have hRc : PRel Mc 55 d := (hR.congr (N := mset M 54 3 D) (mset_nef (by decide)) (mset_nef (by decide)) (mset_nef (by decide)) (mset_nef (by decide))).copy hD hcp
  have fr : ∀ q, q ≠ 54 → q ≠ 72 → q ≠ 74 → mset (mset (mset Ms 54 2 1000000000) 54 0 0) 54 1 0 q = Mc q := fun q h1 h2 h3 => by rw [mset_nef h1, mset_nef h1, mset_nef h1, hsp.2 q h2 h3]
  refine ⟨hRc.congr (fr _ (by decide) (by decide) (by decide)) (fr _ (by decide) (by decide) (by decide)) (fr _ (by decide) (by decide) (by decide)) (fr _ (by decide) (by decide) (by decide)), ⟨?_, ?_⟩, ?_, ?_, ?_, fun w a b => by omega, fun w a b => by omega, fun k a b => by omega, rfl, ⟨?_, ?_, ?_, fun k a b => absurd b (by show ¬ k < 0; omega)⟩, Int.le_refl _⟩
  · rw [mset_nef (by decide), mset_nef (by decide), mset_nef (by decide)]; exact hsp.1.1
  · rw [mset_nef (by decide), mset_nef (by decide), mset_nef (by decide)]; exact hsp.1.2
  · rw [mset_ne2 (by decide), mset_ne2 (by decide), mset_ne2 (by decide), hsp.2 54 (by decide) (by decide), hcp.2.2 54 (by decide) (by decide) (by decide) (by decide), mset_at]
  · refine hB.congr ?_ ?_
    · rw [fr _ (by decide) (by decide) (by decide), hcp.2.2 _ (by decide) (by decide) (by decide) (by decide), mset_nef (by decide)]
    · rw [fr _ (by decide) (by decide) (by decide), hcp.2.2 _ (by decide) (by decide) (by decide) (by decide), mset_nef (by decide)]
  · exact fun w a b => absurd a (by omega)
  · rw [mset_ne2 (by decide), mset_ne2 (by decide), mset_at]
  · rw [mset_ne2 (by decide), mset_at]
  · rw [mset_at]
def SolP (M M' : Mem) (d : Int → Int) (D : Int) : Prop := (∀ q, q < 54 ∨ 78 < q → M' q = M q) ∧ M' 54 3 = D ∧ BRel M' (SOL d D) ∧ SBd M' 62
theorem solve_end {M Mc Ms Mt : Mem} {d : Int → Int} {D : Int} (hcp : PgCopy (mset M 54 3 D) Mc 55 1) (hsp : PrOK Ms d ∧ ∀ q, q ≠ 72 → q ≠ 74 → Ms q = Mc q) (ht : TF (mset (mset (mset Ms 54 2 1000000000) 54 0 0) 54 1 0) Mt 0 0 ∧ SBd Mt 62 ∧ BRel Mt (SOL d D)) : SolP M Mt d D := by
  refine ⟨fun q hq => ?_, ?_, ht.2.2, ht.2.1⟩
  · rw [ht.1.1 q (by omega) (by omega) (by omega) (by omega) (by omega) (by omega) (by omega), mset_nef (by omega), mset_nef (by omega), mset_nef (by omega), hsp.2 q (by omega) (by omega), hcp.2.2 q (by omega) (by omega) (by omega) (by omega), mset_nef (by omega)]
  · rw [ht.1.2.1 3 (by decide) (by decide) (by decide), mset_ne2 (by decide), mset_ne2 (by decide), mset_ne2 (by decide), hsp.2 54 (by decide) (by decide), hcp.2.2 54 (by decide) (by decide) (by decide) (by decide), mset_at]
theorem solve_same {M : Mem} {d : Int → Int} {D : Int} (hS : SRel M d) (hB : SBd M 62) (hDD : 1 ≤ D) (h : M 54 3 = D) : SolP M M d D := by
  refine ⟨fun _ _ => rfl, h, ?_, hB⟩
  rcases hS with z | ⟨-, -, z⟩
  · omega
  · rw [h] at z; exact z
theorem sol_bd {d : Int → Int} (hD : DOK d) (D : Int) : 0 ≤ (SOL d D).1 ∧ (SOL d D).1 ≤ 1000000000 := ⟨srF_nn hD _ _ _ _ _ _ _ _ _ (Int.le_refl _) hD.1.1 (by decide) (Int.le_refl _), srF_le d D _ _ _ _ _ _ _ _ _⟩
/-- a search changes no cell that the reference has a part in -/
theorem SolP.crel {M M' N : Mem} {d : Int → Int} {D : Int} (h : SolP M M' d D) (hC : CRel M M) (hd : d = M 83) (hDD : 1 ≤ D ∧ D ≤ 24) (hN : SM M N) : CRel M' N := by
  obtain ⟨n1, n2, n3, n4, n5⟩ := hN
  obtain ⟨h1, h2, h3, h4, h5, h6, h7⟩ := hC
  have hf : ∀ q, q < 54 ∨ 78 < q → M' q = M q := h.1
  unfold CRel
  rw [n1, n2, n3, n4, n5]
  refine ⟨h1.congr (hf _ (by decide)) (hf _ (by decide)) (hf _ (by decide)) (hf _ (by decide)), h2, h3.congr (fun q _ q2 => hf q (by omega)), h4.congr (hf _ (by decide)) (hf _ (by decide)), Or.inr ?_, h6.congr (hf _ (by decide)) (hf _ (by decide)), h.2.2.2⟩
  rw [h.2.1, ← hd]
  exact ⟨hDD.1, hDD.2, h.2.2.1⟩
/-! what the other calls do to the reference's cells -/
def Oundo (M : Mem) (r : Int) (N : Mem) : Prop := (M 82 2 = 0 ∧ r = -2 ∧ SM M N) ∨ (M 82 2 ≠ 0 ∧ UndP M N ∧ TS M N ∧ r = M 82 2 - 1)
def DS (M N : Mem) : Prop := N 83 = M 83 ∧ N 84 = M 84 ∧ N 82 2 = M 82 2
def Otype (M : Mem) (v r : Int) (N : Mem) : Prop := (¬ (32 ≤ v ∧ v ≤ 126) ∧ r = -1 ∧ SM M N) ∨ ((32 ≤ v ∧ v ≤ 126) ∧ 100 ≤ M 82 4 ∧ r = -3 ∧ SM M N) ∨ ((32 ≤ v ∧ v ≤ 126) ∧ M 82 4 < 100 ∧ DS M N ∧ (∀ j, 0 ≤ j → j < 100 → N 85 j = if j = M 82 4 then v else M 85 j) ∧ N 82 4 = M 82 4 + 1 ∧ r = M 82 4 + 1)
def Oclear (M : Mem) (r : Int) (N : Mem) : Prop := DS M N ∧ N 85 = M 85 ∧ N 82 4 = 0 ∧ r = M 82 4
def Ofault (M : Mem) (r : Int) (N : Mem) : Prop := SM M N ∧ FltP (M 85) (M 82 4) r
def rdD (d t : Int → Int) (ty : Int) : Int → Int := fun j => if j = 0 then twd t ty else if 4 ≤ j ∧ j < 4 + twd t ty then wln t ty (j - 4) else d j
def Oread (M : Mem) (r : Int) (N : Mem) : Prop := ((∃ x, FltP (M 85) (M 82 4) x ∧ x ≠ -4) ∧ r = -2 ∧ SM M N) ∨ (FltP (M 85) (M 82 4) (-4) ∧ RecP M N ∧ TS M N ∧ FillP (rdD (M 83) (M 85) (M 82 4)) (N 83) ∧ r = N 83 0)
def isD (D : Int) : Prop := 1 ≤ D ∧ D ≤ 24
def Oplan (M : Mem) (D w r : Int) (N : Mem) : Prop := SM M N ∧ ((¬ (isD D ∧ 0 ≤ w ∧ w ≤ 3) ∧ r = -1) ∨ ((isD D ∧ 0 ≤ w ∧ w ≤ 3) ∧ (SOL (M 83) D).1 = 1000000000 ∧ r = -4) ∨
  ((isD D ∧ 0 ≤ w ∧ w ≤ 3) ∧ (SOL (M 83) D).1 < 1000000000 ∧ (w = 0 → r = (SOL (M 83) D).1 / 100000) ∧ (w = 1 → r = (SOL (M 83) D).2.1) ∧ (w = 2 → r = (SOL (M 83) D).1 % 100000) ∧ (w = 3 → r = (SOL (M 83) D).2.2.1)))
def Oplanned (M : Mem) (D k r : Int) (N : Mem) : Prop := SM M N ∧ ((¬ (isD D ∧ 0 ≤ k) ∧ r = -1) ∨ ((isD D ∧ 0 ≤ k) ∧ ((SOL (M 83) D).1 = 1000000000 ∨ (SOL (M 83) D).2.1 ≤ k) ∧ r = -4) ∨
  ((isD D ∧ 0 ≤ k) ∧ (SOL (M 83) D).1 < 1000000000 ∧ k < (SOL (M 83) D).2.1 ∧ r = (SOL (M 83) D).2.2.2 (k + 1) - (SOL (M 83) D).2.2.2 k))
def Oleast (M : Mem) (r : Int) (N : Mem) : Prop := SM M N ∧ ((1 ≤ r ∧ r ≤ 24 ∧ (SOL (M 83) r).1 < 1000000000 ∧ ∀ D, 1 ≤ D → D < r → (SOL (M 83) D).1 = 1000000000) ∨ (r = -4 ∧ ∀ D, 1 ≤ D → D ≤ 24 → (SOL (M 83) D).1 = 1000000000))
theorem trn_congr {s t : Int → Int} : ∀ (k : Nat), (∀ j, 0 ≤ j → j < (k : Int) → s j = t j) → trN s k = trN t k ∧ twN s k = twN t k ∧ ∀ w, wlN s k w = wlN t k w := by
  intro k
  induction k with
  | zero => intro _; exact ⟨rfl, rfl, fun _ => rfl⟩
  | succ k ih =>
    intro h
    obtain ⟨h1, h2, h3⟩ := ih (fun j a b => h j a (by omega))
    have hk := h k (by omega) (by omega)
    have e1 : trN s (k + 1) = trN t (k + 1) := by show (if s k = 32 then 0 else trN s k + 1) = (if t k = 32 then 0 else trN t k + 1); rw [hk, h1]
    have e2 : twN s (k + 1) = twN t (k + 1) := by show (if s k ≠ 32 ∧ trN s k = 0 then twN s k + 1 else twN s k) = (if t k ≠ 32 ∧ trN t k = 0 then twN t k + 1 else twN t k); rw [hk, h1, h2]
    refine ⟨e1, e2, fun w => ?_⟩
    show (if s k ≠ 32 ∧ w = twN s (k + 1) - 1 then trN s (k + 1) else wlN s k w) = (if t k ≠ 32 ∧ w = twN t (k + 1) - 1 then trN t (k + 1) else wlN t k w)
    rw [hk, e1, e2, h3]
theorem trw_congr {s t : Int → Int} {n : Int} (h : ∀ j, 0 ≤ j → j < n → s j = t j) {k : Int} (h0 : 0 ≤ k) (h1 : k ≤ n) : trn s k = trn t k ∧ twd s k = twd t k ∧ ∀ w, wln s k w = wln t k w := trn_congr k.toNat (fun j a b => h j a (by omega))
theorem badT_congr {s t : Int → Int} {n k : Int} (h : ∀ j, 0 ≤ j → j < n → s j = t j) (h0 : 0 ≤ k) (h1 : k < n) : badT s n k ↔ badT t n k := by
  have e1 := trw_congr h h0 (by omega)
  have e2 := trw_congr h (show 0 ≤ k + 1 by omega) (by omega)
  unfold badT
  rw [h k h0 h1, e1.1, e2.2.1]
theorem und_crel {M M1 M2 N : Mem} (hC : CRel M M) (hk : RestP M M1) (h1 : 1 ≤ M 82 2) (h2 : M2 = mset M1 54 3 0) (hN : UndP M N) (hT : TS M N) : CRel M2 N := by
  obtain ⟨a1, a2, a3, a4, a5, a6, a7⟩ := hC
  obtain ⟨b1, b2, b3, b4⟩ := rest_rel hk a3 h1 hN
  subst h2
  have fr : ∀ q, q ≠ 54 → 45 ≤ q → mset M1 54 3 0 q = M q := fun q g0 g1 => by rw [mset_nef g0, b4 q g1]
  refine ⟨b1.congr (mset_nef (by decide)) (mset_nef (by decide)) (mset_nef (by decide)) (mset_nef (by decide)), b2, b3.congr (fun q q1 q2 => mset_nef (by omega)), ?_, Or.inl mset_at, a6.congr (fr _ (by decide) (by decide)) (fr _ (by decide) (by decide)), a7.congr (fr _ (by decide) (by decide)) (fr _ (by decide) (by decide))⟩
  rw [hT.1, hT.2]
  exact a4.congr (fr _ (by decide) (by decide)) (fr _ (by decide) (by decide))
