/-! ===== dam, texts: what the cells are behind them ===== -/
theorem crel_search {M M' N : Mem} (hf : ∀ q, q < 54 ∨ 78 < q → M' q = M q) (hS : SRel M' (M 83)) (hB : SBd M' 62) (hC : CRel M M) (hN : SM M N) : CRel M' N := by
  obtain ⟨n1, n2, n3, n4, n5⟩ := hN
  obtain ⟨h1, h2, h3, h4, h5, h6, h7⟩ := hC
  unfold CRel
  rw [n1, n2, n3, n4, n5]
  exact ⟨h1.congr (hf _ (by decide)) (hf _ (by decide)) (hf _ (by decide)) (hf _ (by decide)), h2, h3.congr (fun q _ q2 => hf q (by omega)), h4.congr (hf _ (by decide)) (hf _ (by decide)), hS, h6.congr (hf _ (by decide)) (hf _ (by decide)), hB⟩
theorem SolP.srel {M M' : Mem} {d : Int → Int} {D : Int} (h : SolP M M' d D) (hDD : 1 ≤ D ∧ D ≤ 24) : SRel M' d := by
  refine Or.inr ?_
  rw [h.2.1]
  exact ⟨hDD.1, hDD.2, h.2.2.1⟩
theorem crel_text {M M' N : Mem} (hC : CRel M M) (hf : ∀ q, q ≠ 79 → q ≠ 81 → q < 82 → M' q = M q) (hN : DS M N) (hT : TRel M' (N 85) (N 82 4)) : CRel M' N := by
  obtain ⟨n1, n2, n4⟩ := hN
  obtain ⟨h1, h2, h3, h4, h5, h6, h7⟩ := hC
  unfold CRel
  rw [n1, n2, n4]
  refine ⟨h1.congr (hf _ (by decide) (by decide) (by decide)) (hf _ (by decide) (by decide) (by decide)) (hf _ (by decide) (by decide) (by decide)) (hf _ (by decide) (by decide) (by decide)), h2, h3.congr (fun q _ q2 => hf q (by omega) (by omega) (by omega)), hT, ?_, h6.congr (hf _ (by decide) (by decide) (by decide)) (hf _ (by decide) (by decide) (by decide)), h7.congr (hf _ (by decide) (by decide) (by decide)) (hf _ (by decide) (by decide) (by decide))⟩
  unfold SRel BRel
  rw [hf 54 (by decide) (by decide) (by decide), hf 78 (by decide) (by decide) (by decide)]
  exact h5
theorem type_crel {M N : Mem} {v : Int} (hC : CRel M M) (hv : 32 ≤ v ∧ v ≤ 126) (ht : M 82 4 < 100) (hD : DS M N) (h1 : ∀ j, 0 ≤ j → j < 100 → N 85 j = if j = M 82 4 then v else M 85 j) (h2 : N 82 4 = M 82 4 + 1) : CRel (mset (mset M 81 (M 79 0) v) 79 0 (M 79 0 + 1)) N := by
  obtain ⟨t0, t1, t2, t3, t4, t5⟩ := hC.2.2.2.1
  refine crel_text hC (fun q a b _ => by rw [mset_nef a, mset_nef b]) hD ?_
  rw [h2]
  refine ⟨by omega, by omega, by rw [mset_at, t2], fun j a b => ?_, fun j a b => ?_, fun j a b => ?_⟩
  · rw [mset_nef (by decide), mset_if, t2, h1 j a (by omega)]
    by_cases hj : j = M 82 4
    · rw [if_pos hj, if_pos hj]
    · rw [if_neg hj, if_neg hj]; exact t3 j a (by omega)
  · rw [mset_nef (by decide), mset_if]
    split
    · omega
    · exact t4 j a b
  · rw [h1 j a b]
    split
    · omega
    · exact t5 j a b
theorem clear_crel {M N : Mem} (hC : CRel M M) (hD : DS M N) (h1 : N 85 = M 85) (h2 : N 82 4 = 0) : CRel (mset M 79 0 0) N := by
  obtain ⟨t0, t1, t2, t3, t4, t5⟩ := hC.2.2.2.1
  refine crel_text hC (fun q a b _ => by rw [mset_nef a]) hD ?_
  rw [h1, h2]
  exact ⟨by omega, by omega, mset_at, fun j a b => by omega, fun j a b => by rw [mset_nef (by decide)]; exact t4 j a b, t5⟩
noncomputable def frM (d : Int → Int) (i j : Int) : Int := @ite Int (frLn d i j) (Classical.propDecidable _) 1 0
theorem frM_yes {d : Int → Int} {i j : Int} (h : frLn d i j) : frM d i j = 1 := if_pos h
theorem frM_no {d : Int → Int} {i j : Int} (h : ¬ frLn d i j) : frM d i j = 0 := if_neg h
noncomputable def damD (d : Int → Int) (m : Int) (Q : Int → Int) : Int → Int := fun j => if j = 3 then m else if 28 ≤ j ∧ j < 28 + m then Q (j - 28) else if 53 ≤ j ∧ j < 53 + m then frM d (Q (j - 53)) (Q (j - 53 + 1)) else d j
def Odam (M : Mem) (D r : Int) (N : Mem) : Prop := (¬ isD D ∧ r = -1 ∧ SM M N) ∨ (isD D ∧ (SOL (M 83) D).1 = 1000000000 ∧ r = -2 ∧ SM M N) ∨
  (isD D ∧ (SOL (M 83) D).1 < 1000000000 ∧ RecP M N ∧ TS M N ∧ Ag (damD (M 83) (SOL (M 83) D).2.1 (SOL (M 83) D).2.2.2) (N 83) ∧ r = (SOL (M 83) D).1 / 100000)
def DivP (M M' : Mem) (Q : Int → Int) (m : Int) : Prop := (∀ q, q ≠ 5 → M' q = M q) ∧ (∀ j, 0 ≤ j → j < m → M' 5 (Q j) = 1) ∧ ∀ w, 0 ≤ w → w < 24 → (∀ j, 0 ≤ j → j < m → Q j ≠ w) → M' 5 w = 0
theorem dam_ok {M P : Mem} {d e Q : Int → Int} {m pr : Int} (hR : PRel M 1 d) (hD : DOK d) (hp : PathOK d Q m (d 0) pr) (hv : DivP M P Q m) (hA : Ag (damD d m Q) e) : PRel P 1 e ∧ DOK e := by
  have hn := hD.1
  have hL := hD.L24
  have hmono : ∀ x y, 0 ≤ x → x ≤ y → y ≤ m → Q x + (y - x) ≤ Q y := fun x y a b c => hp.mono a b c
  have hm0 := hp.1
  have q0 : Q 0 = 0 := hp.2.1
  have qm : Q m = d 0 := hp.2.2.1
  have hm24 : m ≤ 24 := by have := hmono 0 m (by omega) hm0 (by omega); omega
  have E : ∀ j, 0 ≤ j → j < 77 → e j = damD d m Q j := fun j a b => (hA j a b).symm
  have elo : ∀ j, 0 ≤ j → j < 28 → j ≠ 3 → e j = d j := fun j a b c => by
    rw [E j a (by omega)]
    unfold damD
    rw [if_neg c, if_neg (by omega), if_neg (by omega)]
  have hl5 : Lines (P 5) (d 0) m Q := by
    refine ⟨hm0, q0, qm, fun l a b => ⟨(hp.2.2.2.1 l a b).1, hv.2.1 l a b, fun w r1 r2 => ?_⟩⟩
    have b0 := hmono 0 l (by omega) a (by omega)
    have b1 := hmono (l + 1) m (by omega) (by omega) (by omega)
    refine hv.2.2 w (by omega) (by omega) (fun j j0 j1 z => ?_)
    by_cases hj : j ≤ l
    · have := hmono j l j0 hj (by omega); omega
    · have := hmono (l + 1) j (by omega) (by omega) (by omega); omega
  have p1 : P 1 = M 1 := hv.1 1 (by decide)
  have p3 : P 3 = M 3 := hv.1 3 (by decide)
  have p7 : P 7 = M 7 := hv.1 7 (by decide)
  have key : ∀ w, 0 ≤ w → w < d 0 → M 7 w = 1 → ∃ k, 0 ≤ k ∧ k < m ∧ Q k = w ∧ frLn d (Q k) (Q (k + 1)) := by
    intro w a b c
    obtain ⟨x, x0, x1, x2, x3⟩ := (fzat_iff hR hD a b).mp c
    obtain ⟨k, k0, k1, k2, k3⟩ := hl5.seg a b
    have hx := (hD.2.2.2.2.2.2 x x0 x1).1
    have ho := (hp.2.2.2.1 k k0 k1).2
    rcases ho.2 with hfr | ⟨hno, -⟩
    · obtain ⟨y, y0, y1, y2, y3, y4⟩ := hfr
      have exy : x = y := hD.segu (w := w) x0 x1 (by omega) (by omega) y0 y1 (by omega) (by omega)
      subst exy
      exact ⟨k, k0, k1, by omega, x, x0, x1, y2, y3, y4⟩
    · exact absurd ⟨x, x0, x1, x2, by omega, by omega⟩ hno
  have hfz8 : ∀ w, 0 ≤ w → w < 24 → 0 ≤ M 7 w ∧ M 7 w ≤ 1 := fun w a b => hR.fz hD a b
  refine page_mk (P := P) (e := e) (n := d 0) (W := d 1) (S := d 2) (L := m) (s := Q) (fz := fun k => frM d (Q k) (Q (k + 1))) (elo 0 (by omega) (by omega) (by omega)) (elo 1 (by omega) (by omega) (by omega)) (elo 2 (by omega) (by omega) (by omega)) ?_ hn hD.2.1 hD.2.2.1 ?_ ?_ ?_ hl5 ?_ (by rw [p1]; exact hR.1) (by rw [p1]; exact hR.2.1) (by rw [p1]; exact hR.2.2.1) (by rw [p3]; exact hR.2.2.2.2.1) ?_ ?_ ?_ ?_
  · rw [E 3 (by omega) (by omega)]; exact if_pos rfl
  · intro w a b; rw [elo (4 + w) (by omega) (by omega) (by omega)]; exact hD.2.2.2.2.1 w a b
  · intro k a b
    rw [E _ (by omega) (by omega)]
    unfold damD
    rw [if_neg (by omega), if_pos (by omega), show 28 + k - 28 = k by omega]
  · intro k a b
    rw [E _ (by omega) (by omega)]
    unfold damD
    rw [if_neg (by omega), if_neg (by omega), if_pos (by omega), show 53 + k - 53 = k by omega]
    refine ⟨rfl, ?_⟩
    by_cases hf : frLn d (Q k) (Q (k + 1))
    · exact Or.inr (frM_yes hf)
    · exact Or.inl (frM_no hf)
  · intro k a b
    have b0 := hmono 0 k (by omega) a (by omega)
    have b1 := hmono (k + 1) m (by omega) (by omega) (by omega)
    have b2 := hmono k (k + 1) a (by omega) (by omega)
    rw [exF_congr (L := lenD e) (K := lenD d) (n := d 0) (fun w r1 r2 => elo (4 + w) (by omega) (by omega) (by omega)) (by omega) (by omega)]
    exact (hp.2.2.2.1 k a b).2.1
  · intro w a b; rw [p3, elo (4 + w) (by omega) (by omega) (by omega)]; exact hR.2.2.2.2.2.1 w a b
  · intro k a b
    have b0 := hmono 0 k (by omega) a (by omega)
    have b1 := hmono k m (by omega) (by omega) (by omega)
    rw [p7]
    show M 7 (Q k) = frM d (Q k) (Q (k + 1))
    by_cases hf : frLn d (Q k) (Q (k + 1))
    · rw [frM_yes hf]
      obtain ⟨y, y0, y1, y2, y3, y4⟩ := hf
      rw [← y2, ← y4]
      exact hR.2.2.2.2.2.2.1 y y0 y1
    · rw [frM_no hf]
      by_cases h7 : M 7 (Q k) = 1
      · obtain ⟨k2, c0, c1, c2, c3⟩ := key (Q k) (by omega) (by omega) h7
        have : k2 = k := by
          by_cases h1 : k2 < k
          · have := hmono k2 k c0 (by omega) (by omega); omega
          · by_cases h2 : k < k2
            · have := hmono k k2 a (by omega) (by omega); omega
            · omega
        subst this
        exact absurd c3 hf
      · have := hfz8 (Q k) (by omega) (by omega); omega
  · intro w a b c
    rw [p7]
    by_cases h7 : M 7 w = 1
    · by_cases hw : w < d 0
      · obtain ⟨k, k0, k1, k2, -⟩ := key w a hw h7
        exact absurd (by rw [← k2]; exact hv.2.1 k k0 k1) c
      · have z5 : M 5 w = 0 := hR.2.2.2.2.2.2.2.2 w (by omega) b
        exact hR.2.2.2.2.2.2.2.1 w a b (by show M 5 w ≠ 1; omega)
    · have := hfz8 w a b; omega
  · intro w a b
    refine hv.2.2 w (by omega) b (fun j j0 j1 z => ?_)
    have := hmono j m j0 (by omega) (by omega)
    omega
theorem wln_pos (t : Int → Int) : ∀ (k : Nat) (w : Int), 0 ≤ w → w < twd t k → 1 ≤ wln t k w := by
  intro k
  induction k with
  | zero => intro w a b; have : twd t ((0 : Nat) : Int) = 0 := rfl; omega
  | succ k ih =>
    intro w a b
    rw [show ((k + 1 : Nat) : Int) = (k : Int) + 1 by omega] at b ⊢
    have hn := trn_nn t (show (0 : Int) ≤ k by omega)
    rw [wln_s t (by omega)]
    by_cases h : t k ≠ 32 ∧ w = twd t ((k : Int) + 1) - 1
    · rw [if_pos h, trn_s t (by omega), if_neg h.1]; omega
    · rw [if_neg h]
      refine ih w a ?_
      rw [twd_s t (by omega)] at b h
      by_cases h2 : t k ≠ 32 ∧ trn t k = 0
      · rw [if_pos h2] at b h
        by_cases h3 : w = twd t k + 1 - 1
        · exact absurd ⟨h2.1, h3⟩ h
        · omega
      · rw [if_neg h2] at b
        exact b
theorem rdD_w {d t : Int → Int} {ty w : Int} (a : 0 ≤ w) (b : w < twd t ty) : rdD d t ty (4 + w) = wln t ty w := by
  unfold rdD
  rw [if_neg (by omega), if_pos (by omega), show 4 + w - 4 = w by omega]
