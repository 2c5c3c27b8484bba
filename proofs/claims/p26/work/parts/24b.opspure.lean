theorem exF_fmono {L : Int → Int} {W f g t : Int} (hf : 0 ≤ f) (hfg : f ≤ g) (h : ∀ j, f ≤ j → j < g → 0 ≤ L j ∧ L j ≤ 8) : exF L W f t ≤ exF L W g t := by
  have hc := cnt_bd (f := L) hf hfg h
  unfold exF
  omega
theorem mset_if {M : Mem} {c : Nat} {i v j : Int} : mset M c i v c j = if j = i then v else M c j := by
  by_cases h : j = i
  · rw [if_pos h, h, mset_at]
  · rw [if_neg h, mset_ne2 h]
theorem page_mk {P : Mem} {e s fz : Int → Int} {n W S L : Int} (e0 : e 0 = n) (e1 : e 1 = W) (e2 : e 2 = S) (e3 : e 3 = L) (hn : 0 ≤ n ∧ n ≤ 24) (hW : 16 ≤ W ∧ W ≤ 40) (hS : 0 ≤ S ∧ S ≤ 8) (hlen : ∀ w, 0 ≤ w → w < n → 1 ≤ e (4 + w) ∧ e (4 + w) ≤ 8)
    (hs : ∀ l, 0 ≤ l → l < L → e (28 + l) = s l) (hf : ∀ l, 0 ≤ l → l < L → e (53 + l) = fz l ∧ (fz l = 0 ∨ fz l = 1)) (hl : Lines (P 5) n L s) (hx : ∀ l, 0 ≤ l → l < L → 0 ≤ exF (lenD e) W (s l) (s (l + 1)))
    (m0 : P 1 0 = W) (m1 : P 1 1 = S) (m2 : P 1 2 = n) (h8 : ∀ w, 0 ≤ w → w < 24 → 0 ≤ P 3 w ∧ P 3 w ≤ 8) (hle : ∀ w, 0 ≤ w → w < n → P 3 w = e (4 + w)) (hfz : ∀ l, 0 ≤ l → l < L → P 7 (s l) = fz l) (hz : ∀ w, 0 ≤ w → w < 24 → P 5 w ≠ 1 → P 7 w = 0) (ho : ∀ w, n ≤ w → w < 24 → P 5 w = 0) : PRel P 1 e ∧ DOK e := by
  have hL0 := hl.1
  have hLn := hl.Lle
  have es : ∀ l, 0 ≤ l → l ≤ L → sd e l = s l := by
    intro l a b
    unfold sd
    rw [e3]
    by_cases h : l < L
    · rw [if_pos h, hs l a h]
    · rw [if_neg h, e0, show l = L by omega, hl.2.2.1]
  refine ⟨?_, ?_⟩
  · unfold PRel
    rw [e0, e1, e2, e3]
    refine ⟨m0, m1, m2, hl.scongr (fun l a b => (es l a b).symm), h8, hle, fun l a b => ?_, hz, ho⟩
    rw [es l a (by omega), (hf l a b).1]
    exact hfz l a b
  · refine ⟨by rw [e0]; exact hn, by rw [e1]; exact hW, by rw [e2]; exact hS, by rw [e3]; exact hL0, fun w a b => hlen w a (by rw [e0] at b; exact b), by rw [es 0 (by omega) hL0]; exact hl.2.1, fun l a b => ?_⟩
    rw [e3] at b
    rw [es l a (by omega), es (l + 1) (by omega) (by omega), e1, (hf l a b).1]
    exact ⟨(hl.2.2.2 l a b).1, (hf l a b).2, hx l a b⟩

theorem freeze_ok {M P : Mem} {d e : Int → Int} (hR : PRel M 1 d) (hD : DOK d) {l v : Int} (h0 : 0 ≤ l) (h1 : l < d 3) (hv : v = 0 ∨ v = 1) (p0 : P 1 0 = M 1 0) (p1 : P 1 1 = M 1 1) (p2 : P 1 2 = M 1 2) (p3 : P 3 = M 3) (p5 : P 5 = M 5) (p7 : ∀ w, P 7 w = if w = sd d l then v else M 7 w) (hA : Ag (dset d (53 + l) v) e) : PRel P 1 e ∧ DOK e := by
  have hL := hD.L24
  have hn := hD.1
  have hW := hD.2.1
  have hS := hD.2.2.1
  have m0 : M 1 0 = d 1 := hR.1
  have m1 : M 1 1 = d 2 := hR.2.1
  have m2 : M 1 2 = d 0 := hR.2.2.1
  have hl : Lines (M 5) (d 0) (d 3) (sd d) := hR.2.2.2.1
  have h8 : ∀ w, 0 ≤ w → w < 24 → 0 ≤ M 3 w ∧ M 3 w ≤ 8 := hR.2.2.2.2.1
  have hle : ∀ w, 0 ≤ w → w < d 0 → M 3 w = d (4 + w) := hR.2.2.2.2.2.1
  have hfz : ∀ l, 0 ≤ l → l < d 3 → M 7 (sd d l) = d (53 + l) := hR.2.2.2.2.2.2.1
  have hz : ∀ w, 0 ≤ w → w < 24 → M 5 w ≠ 1 → M 7 w = 0 := hR.2.2.2.2.2.2.2.1
  have ho : ∀ w, d 0 ≤ w → w < 24 → M 5 w = 0 := hR.2.2.2.2.2.2.2.2
  have hln := hD.2.2.2.2.1
  have hD7 := hD.2.2.2.2.2.2
  have sL : sd d (d 3) = d 0 := sd_L (Int.le_refl _)
  have s0 : sd d 0 = 0 := hD.2.2.2.2.2.1
  have hb : ∀ k, 0 ≤ k → k ≤ d 3 → k ≤ sd d k ∧ sd d k ≤ d 0 - (d 3 - k) := fun k a b => hD.bd a b
  have h9 : ∀ j, 0 ≤ j → j < d 0 → 0 ≤ lenD d j ∧ lenD d j ≤ 8 := fun j a b => by have := hln j a b; unfold lenD; omega
  have E : ∀ j, 0 ≤ j → j < 77 → e j = (dset d (53 + l) v) j := fun j a b => (hA j a b).symm
  refine page_mk (P := P) (e := e) (n := d 0) (W := d 1) (S := d 2) (L := d 3) (s := sd d) (fz := fun k => if k = l then v else d (53 + k)) (by rw [E _ (by omega) (by omega)]; simp only [addW, dset, shiftD]; (repeat first | rw [if_pos (by omega)] | rw [if_neg (by omega)] | rw [if_pos trivial])) (by rw [E _ (by omega) (by omega)]; simp only [addW, dset, shiftD]; (repeat first | rw [if_pos (by omega)] | rw [if_neg (by omega)] | rw [if_pos trivial])) (by rw [E _ (by omega) (by omega)]; simp only [addW, dset, shiftD]; (repeat first | rw [if_pos (by omega)] | rw [if_neg (by omega)] | rw [if_pos trivial])) (by rw [E _ (by omega) (by omega)]; simp only [addW, dset, shiftD]; (repeat first | rw [if_pos (by omega)] | rw [if_neg (by omega)] | rw [if_pos trivial])) (by omega) hW hS ?_ ?_ ?_ ?_ ?_ (by rw [p0]; exact m0) (by rw [p1]; exact m1) (by rw [p2]; exact m2) ?_ ?_ ?_ ?_ ?_
  · intro w a b
    rw [show e (4 + w) = d (4 + w) from by rw [E _ (by omega) (by omega)]; simp only [addW, dset, shiftD]; (repeat first | rw [if_pos (by omega)] | rw [if_neg (by omega)] | rw [if_pos trivial])]
    exact hln w a (by omega)
  · intro k a b
    rw [E _ (by omega) (by omega), sd_in b]; simp only [dset]; (repeat first | rw [if_pos (by omega)] | rw [if_neg (by omega)] | rw [if_pos trivial])
  · intro k a b
    have := (hD7 k a b).2.1
    rw [E _ (by omega) (by omega)]
    simp only [dset]
    by_cases hk : k = l
    · (repeat first | rw [if_pos (by omega)] | rw [if_neg (by omega)] | rw [if_pos trivial])
      exact ⟨rfl, hv⟩
    · (repeat first | rw [if_pos (by omega)] | rw [if_neg (by omega)] | rw [if_pos trivial])
      exact ⟨rfl, this⟩
  · rw [p5]; exact hl
  · intro k a b
    have hk := hb k a (by omega)
    have hk1 := hb (k + 1) (by omega) (by omega)
    rw [exF_congr (L := lenD e) (K := lenD d) (n := d 0) (fun w q r => by unfold lenD; rw [E _ (by omega) (by omega)]; simp only [addW, dset, shiftD]; (repeat first | rw [if_pos (by omega)] | rw [if_neg (by omega)] | rw [if_pos trivial])) (by omega) (by omega)]
    exact (hD7 k a b).2.2
  · rw [p3]; exact h8
  · intro w a b
    rw [p3, show e (4 + w) = d (4 + w) from by rw [E _ (by omega) (by omega)]; simp only [addW, dset, shiftD]; (repeat first | rw [if_pos (by omega)] | rw [if_neg (by omega)] | rw [if_pos trivial])]
    exact hle w a (by omega)
  · intro k a b
    rw [p7]
    by_cases hk : k = l
    · subst hk
      show (if sd d k = sd d k then v else _) = if k = k then v else _
      rw [if_pos rfl, if_pos rfl]
    · have hne : sd d k ≠ sd d l := by
        rcases Int.lt_or_gt_of_ne hk with g | g
        · have := hl.le a (show k ≤ l by omega) (by omega); omega
        · have := hl.le h0 (show l ≤ k by omega) (by omega); omega
      show (if sd d k = sd d l then v else _) = if k = l then v else _
      rw [if_neg hne, if_neg hk]
      exact hfz k a b
  · intro w a b c
    rw [p7, if_neg (fun z => c (by rw [p5, z]; exact (hl.2.2.2 l h0 h1).2.1))]
    exact hz w a b (by rw [← p5]; exact c)
  · rw [p5]; exact ho

theorem add_new {M P : Mem} {d e : Int → Int} (hR : PRel M 1 d) (hD : DOK d) {k : Int} (hw : d 0 < 24) (hk : 1 ≤ k ∧ k ≤ 8) (p0 : P 1 0 = M 1 0) (p1 : P 1 1 = M 1 1) (p2 : P 1 2 = M 1 2 + 1) (p3 : ∀ w, P 3 w = if w = d 0 then k else M 3 w) (p5 : ∀ w, P 5 w = if w = d 0 then 1 else M 5 w) (p7 : P 7 = M 7) (hA : Ag (dset (dset (dset (addW d k) (28 + d 3) (d 0)) (53 + d 3) 0) 3 (d 3 + 1)) e) : PRel P 1 e ∧ DOK e := by
  have hL := hD.L24
  have hn := hD.1
  have hW := hD.2.1
  have hS := hD.2.2.1
  have m0 : M 1 0 = d 1 := hR.1
  have m1 : M 1 1 = d 2 := hR.2.1
  have m2 : M 1 2 = d 0 := hR.2.2.1
  have hl : Lines (M 5) (d 0) (d 3) (sd d) := hR.2.2.2.1
  have h8 : ∀ w, 0 ≤ w → w < 24 → 0 ≤ M 3 w ∧ M 3 w ≤ 8 := hR.2.2.2.2.1
  have hle : ∀ w, 0 ≤ w → w < d 0 → M 3 w = d (4 + w) := hR.2.2.2.2.2.1
  have hfz : ∀ l, 0 ≤ l → l < d 3 → M 7 (sd d l) = d (53 + l) := hR.2.2.2.2.2.2.1
  have hz : ∀ w, 0 ≤ w → w < 24 → M 5 w ≠ 1 → M 7 w = 0 := hR.2.2.2.2.2.2.2.1
  have ho : ∀ w, d 0 ≤ w → w < 24 → M 5 w = 0 := hR.2.2.2.2.2.2.2.2
  have hln := hD.2.2.2.2.1
  have hD7 := hD.2.2.2.2.2.2
  have sL : sd d (d 3) = d 0 := sd_L (Int.le_refl _)
  have s0 : sd d 0 = 0 := hD.2.2.2.2.2.1
  have hb : ∀ k, 0 ≤ k → k ≤ d 3 → k ≤ sd d k ∧ sd d k ≤ d 0 - (d 3 - k) := fun k a b => hD.bd a b
  have h9 : ∀ j, 0 ≤ j → j < d 0 → 0 ≤ lenD d j ∧ lenD d j ≤ 8 := fun j a b => by have := hln j a b; unfold lenD; omega
  have E : ∀ j, 0 ≤ j → j < 77 → e j = (dset (dset (dset (addW d k) (28 + d 3) (d 0)) (53 + d 3) 0) 3 (d 3 + 1)) j := fun j a b => (hA j a b).symm
  have hz0 := ho (d 0) (Int.le_refl _) hw
  refine page_mk (P := P) (e := e) (n := d 0 + 1) (W := d 1) (S := d 2) (L := d 3 + 1) (s := fun j => if j ≤ d 3 then sd d j else d 0 + 1) (fz := fun j => if j < d 3 then d (53 + j) else 0) (by rw [E _ (by omega) (by omega)]; simp only [addW, dset, shiftD]; (repeat first | rw [if_pos (by omega)] | rw [if_neg (by omega)] | rw [if_pos trivial])) (by rw [E _ (by omega) (by omega)]; simp only [addW, dset, shiftD]; (repeat first | rw [if_pos (by omega)] | rw [if_neg (by omega)] | rw [if_pos trivial])) (by rw [E _ (by omega) (by omega)]; simp only [addW, dset, shiftD]; (repeat first | rw [if_pos (by omega)] | rw [if_neg (by omega)] | rw [if_pos trivial])) (by rw [E _ (by omega) (by omega)]; simp only [addW, dset, shiftD]; (repeat first | rw [if_pos (by omega)] | rw [if_neg (by omega)] | rw [if_pos trivial])) (by omega) hW hS ?_ ?_ ?_ ?_ ?_ (by rw [p0]; exact m0) (by rw [p1]; exact m1) (by rw [p2, m2]) ?_ ?_ ?_ ?_ ?_
  · intro w a b
    rw [E _ (by omega) (by omega)]; simp only [addW, dset]
    by_cases hwn : w = d 0
    · subst hwn
      (repeat first | rw [if_pos (by omega)] | rw [if_neg (by omega)] | rw [if_pos trivial]); exact hk
    · (repeat first | rw [if_pos (by omega)] | rw [if_neg (by omega)] | rw [if_pos trivial]); exact hln w a (by omega)
  · intro j a b
    rw [E _ (by omega) (by omega)]; simp only [addW, dset]
    by_cases hj : j < d 3
    · (repeat first | rw [if_pos (by omega)] | rw [if_neg (by omega)] | rw [if_pos trivial]); exact (sd_in hj).symm
    · rw [show j = d 3 by omega]; (repeat first | rw [if_pos (by omega)] | rw [if_neg (by omega)] | rw [if_pos trivial]); exact sL.symm
  · intro j a b
    rw [E _ (by omega) (by omega)]; simp only [addW, dset]
    by_cases hj : j < d 3
    · (repeat first | rw [if_pos (by omega)] | rw [if_neg (by omega)] | rw [if_pos trivial]); exact ⟨rfl, (hD7 j a hj).2.1⟩
    · rw [show j = d 3 by omega]; (repeat first | rw [if_pos (by omega)] | rw [if_neg (by omega)] | rw [if_pos trivial]); exact ⟨rfl, Or.inl rfl⟩
  · refine ⟨by omega, ?_, ?_, fun j a b => ?_⟩
    · show (if (0 : Int) ≤ d 3 then sd d 0 else _) = 0; rw [if_pos (by omega)]; exact s0
    · show (if d 3 + 1 ≤ d 3 then _ else _) = _; rw [if_neg (by omega)]
    · show (if j ≤ d 3 then sd d j else d 0 + 1) < (if j + 1 ≤ d 3 then sd d (j + 1) else d 0 + 1) ∧ P 5 (if j ≤ d 3 then sd d j else d 0 + 1) = 1 ∧ ∀ w, (if j ≤ d 3 then sd d j else d 0 + 1) < w → w < (if j + 1 ≤ d 3 then sd d (j + 1) else d 0 + 1) → P 5 w = 0
      rw [if_pos (show j ≤ d 3 by omega), p5]
      by_cases hj : j < d 3
      · have h3 := hl.2.2.2 j a hj
        have h4 := hb (j + 1) (by omega) (by omega)
        rw [if_pos (show j + 1 ≤ d 3 by omega), if_neg (by omega)]
        exact ⟨h3.1, h3.2.1, fun w q r => by rw [p5, if_neg (by omega)]; exact h3.2.2 w q r⟩
      · rw [if_neg (show ¬ j + 1 ≤ d 3 by omega), show j = d 3 by omega, sL, if_pos rfl]
        exact ⟨by omega, rfl, fun w q r => by omega⟩
  · intro j a b
    show 0 ≤ exF (lenD e) (d 1) (if j ≤ d 3 then sd d j else d 0 + 1) (if j + 1 ≤ d 3 then sd d (j + 1) else d 0 + 1)
    rw [if_pos (show j ≤ d 3 by omega)]
    by_cases hj : j < d 3
    · have h4 := hb (j + 1) (by omega) (by omega)
      have h5 := hb j (by omega) (by omega)
      rw [if_pos (show j + 1 ≤ d 3 by omega)]
      rw [exF_congr (L := lenD e) (K := lenD d) (n := d 0) (fun w q r => by unfold lenD; rw [E _ (by omega) (by omega)]; simp only [addW, dset, shiftD]; (repeat first | rw [if_pos (by omega)] | rw [if_neg (by omega)] | rw [if_pos trivial])) (by omega) (by omega)]
      exact (hD7 j a hj).2.2
    · rw [if_neg (show ¬ j + 1 ≤ d 3 by omega), show j = d 3 by omega, sL]
      have he : e (4 + d 0) = k := by rw [E _ (by omega) (by omega)]; simp only [addW, dset, shiftD]; (repeat first | rw [if_pos (by omega)] | rw [if_neg (by omega)] | rw [if_pos trivial])
      unfold exF lenD
      rw [cnt_s _ (by omega)]
      show 0 ≤ d 1 - (d 0 + 1 - d 0 - 1) - (_ + e (4 + d 0) - _)
      omega
  · intro w a b
    rw [p3]
    split
    · omega
    · exact h8 w a b
  · intro w a b
    rw [p3, E _ (by omega) (by omega)]; simp only [addW, dset]
    by_cases hwn : w = d 0
    · subst hwn
      (repeat first | rw [if_pos (by omega)] | rw [if_neg (by omega)] | rw [if_pos trivial])
    · (repeat first | rw [if_pos (by omega)] | rw [if_neg (by omega)] | rw [if_pos trivial]); exact hle w a (by omega)
  · intro j a b
    show P 7 (if j ≤ d 3 then sd d j else d 0 + 1) = if j < d 3 then d (53 + j) else 0
    rw [if_pos (show j ≤ d 3 by omega), p7]
    by_cases hj : j < d 3
    · rw [if_pos hj]; exact hfz j a hj
    · rw [if_neg hj, show j = d 3 by omega, sL]; exact hz _ (by omega) hw (by omega)
  · intro w a b c
    rw [p7]
    rw [p5] at c
    by_cases hwn : w = d 0
    · rw [if_pos hwn] at c; exact absurd rfl c
    · rw [if_neg hwn] at c; exact hz w a b c
  · intro w a b
    rw [p5, if_neg (by omega)]; exact ho w (by omega) b

theorem add_old {M P : Mem} {d e : Int → Int} (hR : PRel M 1 d) (hD : DOK d) {k : Int} (hw : d 0 < 24) (hk : 1 ≤ k ∧ k ≤ 8) (p0 : P 1 0 = M 1 0) (p1 : P 1 1 = M 1 1) (p2 : P 1 2 = M 1 2 + 1) (p3 : ∀ w, P 3 w = if w = d 0 then k else M 3 w) (p5 : P 5 = M 5) (p7 : P 7 = M 7) (hnl : ¬ newL d k) (hA : Ag (addW d k) e) : PRel P 1 e ∧ DOK e := by
  have hL := hD.L24
  have hn := hD.1
  have hW := hD.2.1
  have hS := hD.2.2.1
  have m0 : M 1 0 = d 1 := hR.1
  have m1 : M 1 1 = d 2 := hR.2.1
  have m2 : M 1 2 = d 0 := hR.2.2.1
  have hl : Lines (M 5) (d 0) (d 3) (sd d) := hR.2.2.2.1
  have h8 : ∀ w, 0 ≤ w → w < 24 → 0 ≤ M 3 w ∧ M 3 w ≤ 8 := hR.2.2.2.2.1
  have hle : ∀ w, 0 ≤ w → w < d 0 → M 3 w = d (4 + w) := hR.2.2.2.2.2.1
  have hfz : ∀ l, 0 ≤ l → l < d 3 → M 7 (sd d l) = d (53 + l) := hR.2.2.2.2.2.2.1
  have hz : ∀ w, 0 ≤ w → w < 24 → M 5 w ≠ 1 → M 7 w = 0 := hR.2.2.2.2.2.2.2.1
  have ho : ∀ w, d 0 ≤ w → w < 24 → M 5 w = 0 := hR.2.2.2.2.2.2.2.2
  have hln := hD.2.2.2.2.1
  have hD7 := hD.2.2.2.2.2.2
  have sL : sd d (d 3) = d 0 := sd_L (Int.le_refl _)
  have s0 : sd d 0 = 0 := hD.2.2.2.2.2.1
  have hb : ∀ k, 0 ≤ k → k ≤ d 3 → k ≤ sd d k ∧ sd d k ≤ d 0 - (d 3 - k) := fun k a b => hD.bd a b
  have h9 : ∀ j, 0 ≤ j → j < d 0 → 0 ≤ lenD d j ∧ lenD d j ≤ 8 := fun j a b => by have := hln j a b; unfold lenD; omega
  have E : ∀ j, 0 ≤ j → j < 77 → e j = (addW d k) j := fun j a b => (hA j a b).symm
  have hz0 := ho (d 0) (Int.le_refl _) hw
  have hL1 : 1 ≤ d 3 := by by_cases z : 1 ≤ d 3; exact z; exact absurd (Or.inl (by omega)) hnl
  refine page_mk (P := P) (e := e) (n := d 0 + 1) (W := d 1) (S := d 2) (L := d 3) (s := fun j => if j < d 3 then sd d j else d 0 + 1) (fz := fun j => d (53 + j)) (by rw [E _ (by omega) (by omega)]; simp only [addW, dset, shiftD]; (repeat first | rw [if_pos (by omega)] | rw [if_neg (by omega)] | rw [if_pos trivial])) (by rw [E _ (by omega) (by omega)]; simp only [addW, dset, shiftD]; (repeat first | rw [if_pos (by omega)] | rw [if_neg (by omega)] | rw [if_pos trivial])) (by rw [E _ (by omega) (by omega)]; simp only [addW, dset, shiftD]; (repeat first | rw [if_pos (by omega)] | rw [if_neg (by omega)] | rw [if_pos trivial])) (by rw [E _ (by omega) (by omega)]; simp only [addW, dset, shiftD]; (repeat first | rw [if_pos (by omega)] | rw [if_neg (by omega)] | rw [if_pos trivial])) (by omega) hW hS ?_ ?_ ?_ ?_ ?_ (by rw [p0]; exact m0) (by rw [p1]; exact m1) (by rw [p2, m2]) ?_ ?_ ?_ ?_ ?_
  · intro w a b
    rw [E _ (by omega) (by omega)]; simp only [addW, dset]
    by_cases hwn : w = d 0
    · subst hwn
      (repeat first | rw [if_pos (by omega)] | rw [if_neg (by omega)] | rw [if_pos trivial]); exact hk
    · (repeat first | rw [if_pos (by omega)] | rw [if_neg (by omega)] | rw [if_pos trivial]); exact hln w a (by omega)
  · intro j a b
    rw [E _ (by omega) (by omega)]; simp only [addW, dset]
    (repeat first | rw [if_pos (by omega)] | rw [if_neg (by omega)] | rw [if_pos trivial]); exact (sd_in b).symm
  · intro j a b
    rw [E _ (by omega) (by omega)]; simp only [addW, dset]
    (repeat first | rw [if_pos (by omega)] | rw [if_neg (by omega)] | rw [if_pos trivial]); exact ⟨rfl, (hD7 j a b).2.1⟩
  · refine ⟨by omega, ?_, ?_, fun j a b => ?_⟩
    · show (if (0 : Int) < d 3 then sd d 0 else _) = 0; rw [if_pos (by omega)]; exact s0
    · show (if d 3 < d 3 then _ else _) = _; rw [if_neg (by omega)]
    · show (if j < d 3 then sd d j else d 0 + 1) < (if j + 1 < d 3 then sd d (j + 1) else d 0 + 1) ∧ P 5 (if j < d 3 then sd d j else d 0 + 1) = 1 ∧ ∀ w, (if j < d 3 then sd d j else d 0 + 1) < w → w < (if j + 1 < d 3 then sd d (j + 1) else d 0 + 1) → P 5 w = 0
      rw [if_pos b, p5]
      have h3 := hl.2.2.2 j a b
      by_cases hj : j + 1 < d 3
      · rw [if_pos hj]
        exact ⟨h3.1, h3.2.1, h3.2.2⟩
      · rw [if_neg hj]
        rw [show j + 1 = d 3 by omega, sL] at h3
        exact ⟨by omega, h3.2.1, fun w q r => by by_cases hwn : w = d 0; rw [hwn]; exact hz0; exact h3.2.2 w q (by omega)⟩
  · intro j a b
    show 0 ≤ exF (lenD e) (d 1) (if j < d 3 then sd d j else d 0 + 1) (if j + 1 < d 3 then sd d (j + 1) else d 0 + 1)
    rw [if_pos b]
    have h5 := hb j (by omega) (by omega)
    by_cases hj : j + 1 < d 3
    · have h4 := hb (j + 1) (by omega) (by omega)
      rw [if_pos hj]
      rw [exF_congr (L := lenD e) (K := lenD d) (n := d 0) (fun w q r => by unfold lenD; rw [E _ (by omega) (by omega)]; simp only [addW, dset, shiftD]; (repeat first | rw [if_pos (by omega)] | rw [if_neg (by omega)] | rw [if_pos trivial])) (by omega) (by omega)]
      exact (hD7 j a b).2.2
    · rw [if_neg hj]
      have hq : ¬ exF (lenD (addW d k)) (d 1) (d (28 + (d 3 - 1))) (d 0 + 1) < 0 := fun z => hnl (Or.inr (Or.inr z))
      rw [exF_congr (L := lenD e) (K := lenD (addW d k)) (n := d 0 + 1) (fun w q r => by unfold lenD; exact E _ (by omega) (by omega)) (by omega) (by omega), sd_in b, show j = d 3 - 1 by omega]
      omega
  · intro w a b
    rw [p3]
    split
    · omega
    · exact h8 w a b
  · intro w a b
    rw [p3, E _ (by omega) (by omega)]; simp only [addW, dset]
    by_cases hwn : w = d 0
    · subst hwn
      (repeat first | rw [if_pos (by omega)] | rw [if_neg (by omega)] | rw [if_pos trivial])
    · (repeat first | rw [if_pos (by omega)] | rw [if_neg (by omega)] | rw [if_pos trivial]); exact hle w a (by omega)
  · intro j a b
    show P 7 (if j < d 3 then sd d j else d 0 + 1) = d (53 + j)
    rw [if_pos b, p7]
    exact hfz j a b
  · rw [p5, p7]; exact hz
  · intro w a b
    rw [p5]; exact ho w (by omega) b

theorem rem_one {M P : Mem} {d e : Int → Int} (hR : PRel M 1 d) (hD : DOK d) (hs1 : d (28 + (d 3 - 1)) = d 0 - 1) (hfr : d (53 + (d 3 - 1)) ≠ 1) (hL1 : 1 ≤ d 3) (p0 : P 1 0 = M 1 0) (p1 : P 1 1 = M 1 1) (p2 : P 1 2 = M 1 2 - 1) (p3 : P 3 = M 3) (p5 : ∀ w, P 5 w = if w = d 0 - 1 then 0 else M 5 w) (p7 : P 7 = M 7)  (hA : Ag (dset (dset d 0 (d 0 - 1)) 3 (d 3 - (if d (28 + (d 3 - 1)) = d 0 - 1 then 1 else 0))) e) : PRel P 1 e ∧ DOK e := by
  have hL := hD.L24
  have hn := hD.1
  have hW := hD.2.1
  have hS := hD.2.2.1
  have m0 : M 1 0 = d 1 := hR.1
  have m1 : M 1 1 = d 2 := hR.2.1
  have m2 : M 1 2 = d 0 := hR.2.2.1
  have hl : Lines (M 5) (d 0) (d 3) (sd d) := hR.2.2.2.1
  have h8 : ∀ w, 0 ≤ w → w < 24 → 0 ≤ M 3 w ∧ M 3 w ≤ 8 := hR.2.2.2.2.1
  have hle : ∀ w, 0 ≤ w → w < d 0 → M 3 w = d (4 + w) := hR.2.2.2.2.2.1
  have hfz : ∀ l, 0 ≤ l → l < d 3 → M 7 (sd d l) = d (53 + l) := hR.2.2.2.2.2.2.1
  have hz : ∀ w, 0 ≤ w → w < 24 → M 5 w ≠ 1 → M 7 w = 0 := hR.2.2.2.2.2.2.2.1
  have ho : ∀ w, d 0 ≤ w → w < 24 → M 5 w = 0 := hR.2.2.2.2.2.2.2.2
  have hln := hD.2.2.2.2.1
  have hD7 := hD.2.2.2.2.2.2
  have sL : sd d (d 3) = d 0 := sd_L (Int.le_refl _)
  have s0 : sd d 0 = 0 := hD.2.2.2.2.2.1
  have hb : ∀ k, 0 ≤ k → k ≤ d 3 → k ≤ sd d k ∧ sd d k ≤ d 0 - (d 3 - k) := fun k a b => hD.bd a b
  have h9 : ∀ j, 0 ≤ j → j < d 0 → 0 ≤ lenD d j ∧ lenD d j ≤ 8 := fun j a b => by have := hln j a b; unfold lenD; omega
  have E : ∀ j, 0 ≤ j → j < 77 → e j = (dset (dset d 0 (d 0 - 1)) 3 (d 3 - (if d (28 + (d 3 - 1)) = d 0 - 1 then 1 else 0))) j := fun j a b => (hA j a b).symm
  have hlast := hl.2.2.2 (d 3 - 1) (by omega) (by omega)
  rw [show d 3 - 1 + 1 = d 3 by omega, sL] at hlast
  have hbl := hb (d 3 - 1) (by omega) (by omega)
  have hsl : d (28 + (d 3 - 1)) = sd d (d 3 - 1) := (sd_in (by omega)).symm
  have hfl := hfz (d 3 - 1) (by omega) (by omega)
  have hz1 : M 7 (d 0 - 1) = 0 := by have := (hD7 (d 3 - 1) (by omega) (by omega)).2.1; rw [← hs1, hsl, hfl]; omega
  refine page_mk (P := P) (e := e) (n := d 0 - 1) (W := d 1) (S := d 2) (L := d 3 - 1) (s := sd d) (fz := fun j => d (53 + j)) (by rw [E _ (by omega) (by omega)]; simp only [addW, dset, shiftD]; (repeat first | rw [if_pos (by omega)] | rw [if_neg (by omega)] | rw [if_pos trivial])) (by rw [E _ (by omega) (by omega)]; simp only [addW, dset, shiftD]; (repeat first | rw [if_pos (by omega)] | rw [if_neg (by omega)] | rw [if_pos trivial])) (by rw [E _ (by omega) (by omega)]; simp only [addW, dset, shiftD]; (repeat first | rw [if_pos (by omega)] | rw [if_neg (by omega)] | rw [if_pos trivial])) (by rw [E _ (by omega) (by omega)]; simp only [dset]; rw [if_pos trivial, if_pos hs1]) (by omega) hW hS ?_ ?_ ?_ ?_ ?_ (by rw [p0]; exact m0) (by rw [p1]; exact m1) (by rw [p2, m2]) ?_ ?_ ?_ ?_ ?_
  · intro w a b
    rw [show e (4 + w) = d (4 + w) from by rw [E _ (by omega) (by omega)]; simp only [addW, dset, shiftD]; (repeat first | rw [if_pos (by omega)] | rw [if_neg (by omega)] | rw [if_pos trivial])]
    exact hln w a (by omega)
  · intro j a b
    rw [E _ (by omega) (by omega)]; simp only [dset]; (repeat first | rw [if_pos (by omega)] | rw [if_neg (by omega)] | rw [if_pos trivial]); exact (sd_in (by omega)).symm
  · intro j a b
    rw [E _ (by omega) (by omega)]; simp only [dset]; (repeat first | rw [if_pos (by omega)] | rw [if_neg (by omega)] | rw [if_pos trivial]); exact ⟨rfl, (hD7 j a (by omega)).2.1⟩
  · refine ⟨by omega, s0, by rw [← hsl]; exact hs1, fun j a b => ?_⟩
    have h3 := hl.2.2.2 j a (by omega)
    have h4 := hb (j + 1) (by omega) (by omega)
    rw [p5, if_neg (by omega)]
    exact ⟨h3.1, h3.2.1, fun w q r => by rw [p5, if_neg (by omega)]; exact h3.2.2 w q r⟩
  · intro j a b
    have hk := hb j a (by omega)
    have hk1 := hb (j + 1) (by omega) (by omega)
    rw [exF_congr (L := lenD e) (K := lenD d) (n := d 0) (fun w q r => by unfold lenD; rw [E _ (by omega) (by omega)]; simp only [addW, dset, shiftD]; (repeat first | rw [if_pos (by omega)] | rw [if_neg (by omega)] | rw [if_pos trivial])) (by omega) (by omega)]
    exact (hD7 j a (by omega)).2.2
  · rw [p3]; exact h8
  · intro w a b
    rw [p3, show e (4 + w) = d (4 + w) from by rw [E _ (by omega) (by omega)]; simp only [addW, dset, shiftD]; (repeat first | rw [if_pos (by omega)] | rw [if_neg (by omega)] | rw [if_pos trivial])]
    exact hle w a (by omega)
  · intro j a b
    rw [p7]; exact hfz j a (by omega)
  · intro w a b c
    rw [p7]
    rw [p5] at c
    by_cases hwn : w = d 0 - 1
    · rw [hwn]; exact hz1
    · rw [if_neg hwn] at c; exact hz w a b c
  · intro w a b
    rw [p5]
    by_cases hwn : w = d 0 - 1
    · rw [if_pos hwn]
    · rw [if_neg hwn]; exact ho w (by omega) b

theorem rem_more {M P : Mem} {d e : Int → Int} (hR : PRel M 1 d) (hD : DOK d) (hs1 : d (28 + (d 3 - 1)) ≠ d 0 - 1) (hL1 : 1 ≤ d 3) (p0 : P 1 0 = M 1 0) (p1 : P 1 1 = M 1 1) (p2 : P 1 2 = M 1 2 - 1) (p3 : P 3 = M 3) (p5 : ∀ w, P 5 w = if w = d 0 - 1 then 0 else M 5 w) (p7 : P 7 = M 7)  (hA : Ag (dset (dset d 0 (d 0 - 1)) 3 (d 3 - (if d (28 + (d 3 - 1)) = d 0 - 1 then 1 else 0))) e) : PRel P 1 e ∧ DOK e := by
  have hL := hD.L24
  have hn := hD.1
  have hW := hD.2.1
  have hS := hD.2.2.1
  have m0 : M 1 0 = d 1 := hR.1
  have m1 : M 1 1 = d 2 := hR.2.1
  have m2 : M 1 2 = d 0 := hR.2.2.1
  have hl : Lines (M 5) (d 0) (d 3) (sd d) := hR.2.2.2.1
  have h8 : ∀ w, 0 ≤ w → w < 24 → 0 ≤ M 3 w ∧ M 3 w ≤ 8 := hR.2.2.2.2.1
  have hle : ∀ w, 0 ≤ w → w < d 0 → M 3 w = d (4 + w) := hR.2.2.2.2.2.1
  have hfz : ∀ l, 0 ≤ l → l < d 3 → M 7 (sd d l) = d (53 + l) := hR.2.2.2.2.2.2.1
  have hz : ∀ w, 0 ≤ w → w < 24 → M 5 w ≠ 1 → M 7 w = 0 := hR.2.2.2.2.2.2.2.1
  have ho : ∀ w, d 0 ≤ w → w < 24 → M 5 w = 0 := hR.2.2.2.2.2.2.2.2
  have hln := hD.2.2.2.2.1
  have hD7 := hD.2.2.2.2.2.2
  have sL : sd d (d 3) = d 0 := sd_L (Int.le_refl _)
  have s0 : sd d 0 = 0 := hD.2.2.2.2.2.1
  have hb : ∀ k, 0 ≤ k → k ≤ d 3 → k ≤ sd d k ∧ sd d k ≤ d 0 - (d 3 - k) := fun k a b => hD.bd a b
  have h9 : ∀ j, 0 ≤ j → j < d 0 → 0 ≤ lenD d j ∧ lenD d j ≤ 8 := fun j a b => by have := hln j a b; unfold lenD; omega
  have E : ∀ j, 0 ≤ j → j < 77 → e j = (dset (dset d 0 (d 0 - 1)) 3 (d 3 - (if d (28 + (d 3 - 1)) = d 0 - 1 then 1 else 0))) j := fun j a b => (hA j a b).symm
  have hlast := hl.2.2.2 (d 3 - 1) (by omega) (by omega)
  rw [show d 3 - 1 + 1 = d 3 by omega, sL] at hlast
  have hbl := hb (d 3 - 1) (by omega) (by omega)
  have hsl : d (28 + (d 3 - 1)) = sd d (d 3 - 1) := (sd_in (by omega)).symm
  have hfl := hfz (d 3 - 1) (by omega) (by omega)
  have hm5 : M 5 (d 0 - 1) = 0 := hlast.2.2 _ (by omega) (by omega)
  have hz1 : M 7 (d 0 - 1) = 0 := hz _ (by omega) (by omega) (by omega)
  refine page_mk (P := P) (e := e) (n := d 0 - 1) (W := d 1) (S := d 2) (L := d 3) (s := fun j => if j < d 3 then sd d j else d 0 - 1) (fz := fun j => d (53 + j)) (by rw [E _ (by omega) (by omega)]; simp only [addW, dset, shiftD]; (repeat first | rw [if_pos (by omega)] | rw [if_neg (by omega)] | rw [if_pos trivial])) (by rw [E _ (by omega) (by omega)]; simp only [addW, dset, shiftD]; (repeat first | rw [if_pos (by omega)] | rw [if_neg (by omega)] | rw [if_pos trivial])) (by rw [E _ (by omega) (by omega)]; simp only [addW, dset, shiftD]; (repeat first | rw [if_pos (by omega)] | rw [if_neg (by omega)] | rw [if_pos trivial])) (by rw [E _ (by omega) (by omega)]; simp only [dset]; rw [if_pos trivial, if_neg hs1]; omega) (by omega) hW hS ?_ ?_ ?_ ?_ ?_ (by rw [p0]; exact m0) (by rw [p1]; exact m1) (by rw [p2, m2]) ?_ ?_ ?_ ?_ ?_
  · intro w a b
    rw [show e (4 + w) = d (4 + w) from by rw [E _ (by omega) (by omega)]; simp only [addW, dset, shiftD]; (repeat first | rw [if_pos (by omega)] | rw [if_neg (by omega)] | rw [if_pos trivial])]
    exact hln w a (by omega)
  · intro j a b
    rw [E _ (by omega) (by omega)]; simp only [dset]; (repeat first | rw [if_pos (by omega)] | rw [if_neg (by omega)] | rw [if_pos trivial]); exact (sd_in (by omega)).symm
  · intro j a b
    rw [E _ (by omega) (by omega)]; simp only [dset]; (repeat first | rw [if_pos (by omega)] | rw [if_neg (by omega)] | rw [if_pos trivial]); exact ⟨rfl, (hD7 j a (by omega)).2.1⟩
  · refine ⟨by omega, ?_, ?_, fun j a b => ?_⟩
    · show (if (0 : Int) < d 3 then sd d 0 else _) = 0; rw [if_pos (by omega)]; exact s0
    · show (if d 3 < d 3 then _ else _) = _; rw [if_neg (by omega)]
    · show (if j < d 3 then sd d j else d 0 - 1) < (if j + 1 < d 3 then sd d (j + 1) else d 0 - 1) ∧ P 5 (if j < d 3 then sd d j else d 0 - 1) = 1 ∧ ∀ w, (if j < d 3 then sd d j else d 0 - 1) < w → w < (if j + 1 < d 3 then sd d (j + 1) else d 0 - 1) → P 5 w = 0
      have h3 := hl.2.2.2 j a b
      have h5 := hb j a (by omega)
      have hne : sd d j < d 0 - 1 := by
        by_cases hj : j = d 3 - 1
        · rw [hj]; omega
        · omega
      rw [if_pos b, p5, if_neg (show ¬ sd d j = d 0 - 1 by omega)]
      by_cases hj : j + 1 < d 3
      · have h4 := hb (j + 1) (by omega) (by omega)
        rw [if_pos hj]
        exact ⟨h3.1, h3.2.1, fun w q r => by rw [p5, if_neg (by omega)]; exact h3.2.2 w q r⟩
      · rw [if_neg hj]
        rw [show j + 1 = d 3 by omega, sL] at h3
        exact ⟨by omega, h3.2.1, fun w q r => by rw [p5, if_neg (by omega)]; exact h3.2.2 w q (by omega)⟩
  · intro j a b
    show 0 ≤ exF (lenD e) (d 1) (if j < d 3 then sd d j else d 0 - 1) (if j + 1 < d 3 then sd d (j + 1) else d 0 - 1)
    have hk := hb j a (by omega)
    have h7 := (hD7 j a b).2.2
    rw [if_pos b]
    by_cases hj : j + 1 < d 3
    · have hk1 := hb (j + 1) (by omega) (by omega)
      rw [if_pos hj]
      rw [exF_congr (L := lenD e) (K := lenD d) (n := d 0) (fun w q r => by unfold lenD; rw [E _ (by omega) (by omega)]; simp only [addW, dset, shiftD]; (repeat first | rw [if_pos (by omega)] | rw [if_neg (by omega)] | rw [if_pos trivial])) (by omega) (by omega)]
      exact h7
    · rw [if_neg hj]
      rw [exF_congr (L := lenD e) (K := lenD d) (n := d 0) (fun w q r => by unfold lenD; rw [E _ (by omega) (by omega)]; simp only [addW, dset, shiftD]; (repeat first | rw [if_pos (by omega)] | rw [if_neg (by omega)] | rw [if_pos trivial])) (by omega) (by omega)]
      rw [show j + 1 = d 3 by omega, sL] at h7
      have hjl : j = d 3 - 1 := by omega
      have := exF_anti (L := lenD d) (W := d 1) (f := sd d j) (t := d 0 - 1) (u := d 0) (by omega) (by omega) (fun i q r => h9 i (by omega) (by omega))
      omega
  · rw [p3]; exact h8
  · intro w a b
    rw [p3, show e (4 + w) = d (4 + w) from by rw [E _ (by omega) (by omega)]; simp only [addW, dset, shiftD]; (repeat first | rw [if_pos (by omega)] | rw [if_neg (by omega)] | rw [if_pos trivial])]
    exact hle w a (by omega)
  · intro j a b
    show P 7 (if j < d 3 then sd d j else d 0 - 1) = _
    rw [p7, if_pos b]; exact hfz j a (by omega)
  · intro w a b c
    rw [p7]
    rw [p5] at c
    by_cases hwn : w = d 0 - 1
    · rw [hwn]; exact hz1
    · rw [if_neg hwn] at c; exact hz w a b c
  · intro w a b
    rw [p5]
    by_cases hwn : w = d 0 - 1
    · rw [if_pos hwn]
    · rw [if_neg hwn]; exact ho w (by omega) b

theorem pull_one {M P : Mem} {d e : Int → Int} (hR : PRel M 1 d) (hD : DOK d) {l : Int} (h0 : 0 ≤ l) (h1 : l + 1 < d 3) (hf0 : d (53 + l) ≠ 1) (hf1 : d (53 + (l + 1)) ≠ 1) (hxx : 0 ≤ exD d (sd d l) (sd d (l + 1) + 1)) (hc : sd d (l + 1) + 1 = sd d (l + 2)) (p0 : P 1 0 = M 1 0) (p1 : P 1 1 = M 1 1) (p2 : P 1 2 = M 1 2) (p3 : P 3 = M 3) (p5 : ∀ w, P 5 w = if w = sd d (l + 1) + 1 ∧ w < d 0 then 1 else if w = sd d (l + 1) then 0 else M 5 w) (p7 : P 7 = M 7)  (hA : ∀ j, 0 ≤ j → j < 77 → j ≠ 28 + (d 3 - 1) → shiftD d l j = e j) : PRel P 1 e ∧ DOK e := by
  have hL := hD.L24
  have hn := hD.1
  have hW := hD.2.1
  have hS := hD.2.2.1
  have m0 : M 1 0 = d 1 := hR.1
  have m1 : M 1 1 = d 2 := hR.2.1
  have m2 : M 1 2 = d 0 := hR.2.2.1
  have hl : Lines (M 5) (d 0) (d 3) (sd d) := hR.2.2.2.1
  have h8 : ∀ w, 0 ≤ w → w < 24 → 0 ≤ M 3 w ∧ M 3 w ≤ 8 := hR.2.2.2.2.1
  have hle : ∀ w, 0 ≤ w → w < d 0 → M 3 w = d (4 + w) := hR.2.2.2.2.2.1
  have hfz : ∀ l, 0 ≤ l → l < d 3 → M 7 (sd d l) = d (53 + l) := hR.2.2.2.2.2.2.1
  have hz : ∀ w, 0 ≤ w → w < 24 → M 5 w ≠ 1 → M 7 w = 0 := hR.2.2.2.2.2.2.2.1
  have ho : ∀ w, d 0 ≤ w → w < 24 → M 5 w = 0 := hR.2.2.2.2.2.2.2.2
  have hln := hD.2.2.2.2.1
  have hD7 := hD.2.2.2.2.2.2
  have sL : sd d (d 3) = d 0 := sd_L (Int.le_refl _)
  have s0 : sd d 0 = 0 := hD.2.2.2.2.2.1
  have hb : ∀ k, 0 ≤ k → k ≤ d 3 → k ≤ sd d k ∧ sd d k ≤ d 0 - (d 3 - k) := fun k a b => hD.bd a b
  have h9 : ∀ j, 0 ≤ j → j < d 0 → 0 ≤ lenD d j ∧ lenD d j ≤ 8 := fun j a b => by have := hln j a b; unfold lenD; omega
  have E : ∀ j, 0 ≤ j → j < 77 → j ≠ 28 + (d 3 - 1) → e j = (shiftD d l) j := fun j a b c => (hA j a b c).symm
  have q0 := hl.2.2.2 l h0 (by omega)
  have q1 := hl.2.2.2 (l + 1) (by omega) (by omega)
  have eq2 : l + 1 + 1 = l + 2 := by omega
  rw [eq2] at q1
  have b0 := hb l h0 (by omega)
  have b1 := hb (l + 1) (by omega) (by omega)
  have b2 := hb (l + 2) (by omega) (by omega)
  have z1 : M 7 (sd d (l + 1)) = 0 := by have := (hD7 (l + 1) (by omega) (by omega)).2.1; rw [hfz (l + 1) (by omega) (by omega)]; omega
  have lo : ∀ k, 0 ≤ k → k ≤ l → sd d k + (l - k) ≤ sd d l := fun k a b => hl.le a b (by omega)
  have hi : ∀ k, l + 2 ≤ k → k ≤ d 3 → sd d (l + 2) + (k - (l + 2)) ≤ sd d k := fun k a b => hl.le (by omega) a b
  refine page_mk (P := P) (e := e) (n := d 0) (W := d 1) (S := d 2) (L := d 3 - 1) (s := fun k => if k ≤ l then sd d k else sd d (k + 1)) (fz := fun k => if k ≤ l then d (53 + k) else d (53 + (k + 1))) (by rw [E _ (by omega) (by omega) (by omega)]; simp only [addW, dset, shiftD]; (repeat first | rw [if_pos (by omega)] | rw [if_neg (by omega)] | rw [if_pos trivial])) (by rw [E _ (by omega) (by omega) (by omega)]; simp only [addW, dset, shiftD]; (repeat first | rw [if_pos (by omega)] | rw [if_neg (by omega)] | rw [if_pos trivial])) (by rw [E _ (by omega) (by omega) (by omega)]; simp only [addW, dset, shiftD]; (repeat first | rw [if_pos (by omega)] | rw [if_neg (by omega)] | rw [if_pos trivial])) (by rw [E _ (by omega) (by omega) (by omega)]; simp only [addW, dset, shiftD]; (repeat first | rw [if_pos (by omega)] | rw [if_neg (by omega)] | rw [if_pos trivial])) (by omega) hW hS ?_ ?_ ?_ ?_ ?_ (by rw [p0]; exact m0) (by rw [p1]; exact m1) (by rw [p2]; exact m2) ?_ ?_ ?_ ?_ ?_
  · intro w a b
    rw [show e (4 + w) = d (4 + w) from by rw [E _ (by omega) (by omega) (by omega)]; simp only [addW, dset, shiftD]; (repeat first | rw [if_pos (by omega)] | rw [if_neg (by omega)] | rw [if_pos trivial])]
    exact hln w a (by omega)
  · intro k a b
    rw [E _ (by omega) (by omega) (by omega)]; simp only [shiftD]
    by_cases hk : k ≤ l
    · (repeat first | rw [if_pos (by omega)] | rw [if_neg (by omega)] | rw [if_pos trivial]); exact (sd_in (by omega)).symm
    · (repeat first | rw [if_pos (by omega)] | rw [if_neg (by omega)] | rw [if_pos trivial]); rw [show (28 : Int) + k + 1 = 28 + (k + 1) by omega]; exact (sd_in (by omega)).symm
  · intro k a b
    rw [E _ (by omega) (by omega) (by omega)]; simp only [shiftD]
    by_cases hk : k ≤ l
    · (repeat first | rw [if_pos (by omega)] | rw [if_neg (by omega)] | rw [if_pos trivial]); exact ⟨rfl, (hD7 k a (by omega)).2.1⟩
    · (repeat first | rw [if_pos (by omega)] | rw [if_neg (by omega)] | rw [if_pos trivial]); rw [show (53 : Int) + k + 1 = 53 + (k + 1) by omega]; exact ⟨rfl, (hD7 (k + 1) (by omega) (by omega)).2.1⟩
  · refine ⟨by omega, ?_, ?_, fun k a b => ?_⟩
    · show (if (0 : Int) ≤ l then sd d 0 else _) = 0; rw [if_pos h0]; exact s0
    · show (if d 3 - 1 ≤ l then _ else sd d (d 3 - 1 + 1)) = d 0; rw [if_neg (by omega), show d 3 - 1 + 1 = d 3 by omega]; exact sL
    · show (if k ≤ l then sd d k else sd d (k + 1)) < (if (k + 1) ≤ l then sd d (k + 1) else sd d ((k + 1) + 1)) ∧ P 5 (if k ≤ l then sd d k else sd d (k + 1)) = 1 ∧ ∀ w, (if k ≤ l then sd d k else sd d (k + 1)) < w → w < (if (k + 1) ≤ l then sd d (k + 1) else sd d ((k + 1) + 1)) → P 5 w = 0
      by_cases hk : k ≤ l
      · have h3 := hl.2.2.2 k a (by omega)
        have hk1 := lo k a hk
        have v5 : P 5 (sd d k) = M 5 (sd d k) := by rw [p5, if_neg (fun z => by omega), if_neg (fun z => by omega)]
        rw [if_pos hk, v5]
        by_cases hk2 : k = l
        · rw [if_neg (by omega), hk2, eq2]
          refine ⟨by omega, q0.2.1, fun w r1 r2 => ?_⟩
          rw [p5, if_neg (by omega)]
          by_cases w2 : w = sd d (l + 1)
          · rw [if_pos w2]
          · rw [if_neg w2]; exact q0.2.2 w r1 (by omega)
        · have := lo (k + 1) (by omega) (by omega)
          rw [if_pos (show k + 1 ≤ l by omega)]
          exact ⟨h3.1, h3.2.1, fun w r1 r2 => by rw [p5, if_neg (by omega), if_neg (by omega)]; exact h3.2.2 w r1 r2⟩
      · have h3 := hl.2.2.2 (k + 1) (by omega) (by omega)
        have hk1 := hi (k + 1) (by omega) (by omega)
        have hb3 := hb (k + 1) (by omega) (by omega)
        rw [if_neg hk, if_neg (show ¬ k + 1 ≤ l by omega)]
        refine ⟨h3.1, ?_, fun w r1 r2 => by rw [p5, if_neg (by omega), if_neg (by omega)]; exact h3.2.2 w r1 r2⟩
        rw [p5]
        by_cases w1 : sd d (k + 1) = sd d (l + 1) + 1
        · rw [if_pos ⟨w1, by omega⟩]
        · rw [if_neg (fun z => w1 z.1), if_neg (by omega)]; exact h3.2.1
  · intro k a b
    show 0 ≤ exF (lenD e) (d 1) (if k ≤ l then sd d k else sd d (k + 1)) (if (k + 1) ≤ l then sd d (k + 1) else sd d ((k + 1) + 1))
    by_cases hk : k ≤ l
    · have hk0 := hb k a (by omega)
      have hk1 := hb (k + 1) (by omega) (by omega)
      have h7 := (hD7 k a (by omega)).2.2
      rw [if_pos hk]
      by_cases hk2 : k = l
      · rw [if_neg (by omega), hk2, eq2]
        rw [exF_congr (L := lenD e) (K := lenD d) (n := d 0) (fun w q r => by unfold lenD; rw [E _ (by omega) (by omega) (by omega)]; simp only [addW, dset, shiftD]; (repeat first | rw [if_pos (by omega)] | rw [if_neg (by omega)] | rw [if_pos trivial])) (by omega) (by omega)]
        rw [← hc]; exact hxx
      · rw [if_pos (show k + 1 ≤ l by omega)]
        rw [exF_congr (L := lenD e) (K := lenD d) (n := d 0) (fun w q r => by unfold lenD; rw [E _ (by omega) (by omega) (by omega)]; simp only [addW, dset, shiftD]; (repeat first | rw [if_pos (by omega)] | rw [if_neg (by omega)] | rw [if_pos trivial])) (by omega) (by omega)]
        exact h7
    · have hk0 := hb (k + 1) (by omega) (by omega)
      have hk1 := hb (k + 1 + 1) (by omega) (by omega)
      rw [if_neg hk, if_neg (show ¬ k + 1 ≤ l by omega)]
      rw [exF_congr (L := lenD e) (K := lenD d) (n := d 0) (fun w q r => by unfold lenD; rw [E _ (by omega) (by omega) (by omega)]; simp only [addW, dset, shiftD]; (repeat first | rw [if_pos (by omega)] | rw [if_neg (by omega)] | rw [if_pos trivial])) (by omega) (by omega)]
      exact (hD7 (k + 1) (by omega) (by omega)).2.2
  · rw [p3]; exact h8
  · intro w a b
    rw [p3, show e (4 + w) = d (4 + w) from by rw [E _ (by omega) (by omega) (by omega)]; simp only [addW, dset, shiftD]; (repeat first | rw [if_pos (by omega)] | rw [if_neg (by omega)] | rw [if_pos trivial])]
    exact hle w a (by omega)
  · intro k a b
    show P 7 (if k ≤ l then sd d k else sd d (k + 1)) = if k ≤ l then d (53 + k) else d (53 + (k + 1))
    rw [p7]
    by_cases hk : k ≤ l
    · rw [if_pos hk, if_pos hk]; exact hfz k a (by omega)
    · rw [if_neg hk, if_neg hk]; exact hfz (k + 1) (by omega) (by omega)
  · intro w a b c
    rw [p7]
    rw [p5] at c
    by_cases w1 : w = sd d (l + 1) + 1 ∧ w < d 0
    · rw [if_pos w1] at c; exact absurd rfl c
    · rw [if_neg w1] at c
      by_cases w2 : w = sd d (l + 1)
      · rw [w2]; exact z1
      · rw [if_neg w2] at c; exact hz w a b c
  · intro w a b
    rw [p5, if_neg (by omega), if_neg (by omega)]; exact ho w a b

theorem pull_more {M P : Mem} {d e : Int → Int} (hR : PRel M 1 d) (hD : DOK d) {l : Int} (h0 : 0 ≤ l) (h1 : l + 1 < d 3) (hf0 : d (53 + l) ≠ 1) (hf1 : d (53 + (l + 1)) ≠ 1) (hxx : 0 ≤ exD d (sd d l) (sd d (l + 1) + 1)) (hc : sd d (l + 1) + 1 ≠ sd d (l + 2)) (p0 : P 1 0 = M 1 0) (p1 : P 1 1 = M 1 1) (p2 : P 1 2 = M 1 2) (p3 : P 3 = M 3) (p5 : ∀ w, P 5 w = if w = sd d (l + 1) + 1 ∧ w < d 0 then 1 else if w = sd d (l + 1) then 0 else M 5 w) (p7 : P 7 = M 7)  (hA : Ag (dset d (28 + (l + 1)) (sd d (l + 1) + 1)) e) : PRel P 1 e ∧ DOK e := by
  have hL := hD.L24
  have hn := hD.1
  have hW := hD.2.1
  have hS := hD.2.2.1
  have m0 : M 1 0 = d 1 := hR.1
  have m1 : M 1 1 = d 2 := hR.2.1
  have m2 : M 1 2 = d 0 := hR.2.2.1
  have hl : Lines (M 5) (d 0) (d 3) (sd d) := hR.2.2.2.1
  have h8 : ∀ w, 0 ≤ w → w < 24 → 0 ≤ M 3 w ∧ M 3 w ≤ 8 := hR.2.2.2.2.1
  have hle : ∀ w, 0 ≤ w → w < d 0 → M 3 w = d (4 + w) := hR.2.2.2.2.2.1
  have hfz : ∀ l, 0 ≤ l → l < d 3 → M 7 (sd d l) = d (53 + l) := hR.2.2.2.2.2.2.1
  have hz : ∀ w, 0 ≤ w → w < 24 → M 5 w ≠ 1 → M 7 w = 0 := hR.2.2.2.2.2.2.2.1
  have ho : ∀ w, d 0 ≤ w → w < 24 → M 5 w = 0 := hR.2.2.2.2.2.2.2.2
  have hln := hD.2.2.2.2.1
  have hD7 := hD.2.2.2.2.2.2
  have sL : sd d (d 3) = d 0 := sd_L (Int.le_refl _)
  have s0 : sd d 0 = 0 := hD.2.2.2.2.2.1
  have hb : ∀ k, 0 ≤ k → k ≤ d 3 → k ≤ sd d k ∧ sd d k ≤ d 0 - (d 3 - k) := fun k a b => hD.bd a b
  have h9 : ∀ j, 0 ≤ j → j < d 0 → 0 ≤ lenD d j ∧ lenD d j ≤ 8 := fun j a b => by have := hln j a b; unfold lenD; omega
  have E : ∀ j, 0 ≤ j → j < 77 → e j = (dset d (28 + (l + 1)) (sd d (l + 1) + 1)) j := fun j a b => (hA j a b).symm
  have q0 := hl.2.2.2 l h0 (by omega)
  have q1 := hl.2.2.2 (l + 1) (by omega) (by omega)
  have eq2 : l + 1 + 1 = l + 2 := by omega
  rw [eq2] at q1
  have b0 := hb l h0 (by omega)
  have b1 := hb (l + 1) (by omega) (by omega)
  have b2 := hb (l + 2) (by omega) (by omega)
  have z1 : M 7 (sd d (l + 1)) = 0 := by have := (hD7 (l + 1) (by omega) (by omega)).2.1; rw [hfz (l + 1) (by omega) (by omega)]; omega
  have lo : ∀ k, 0 ≤ k → k ≤ l → sd d k + (l - k) ≤ sd d l := fun k a b => hl.le a b (by omega)
  have hi : ∀ k, l + 2 ≤ k → k ≤ d 3 → sd d (l + 2) + (k - (l + 2)) ≤ sd d k := fun k a b => hl.le (by omega) a b
  have m51 : M 5 (sd d (l + 1) + 1) = 0 := q1.2.2 _ (by omega) (by omega)
  refine page_mk (P := P) (e := e) (n := d 0) (W := d 1) (S := d 2) (L := d 3) (s := fun k => if k = l + 1 then sd d (l + 1) + 1 else sd d k) (fz := fun k => d (53 + k)) (by rw [E _ (by omega) (by omega)]; simp only [addW, dset, shiftD]; (repeat first | rw [if_pos (by omega)] | rw [if_neg (by omega)] | rw [if_pos trivial])) (by rw [E _ (by omega) (by omega)]; simp only [addW, dset, shiftD]; (repeat first | rw [if_pos (by omega)] | rw [if_neg (by omega)] | rw [if_pos trivial])) (by rw [E _ (by omega) (by omega)]; simp only [addW, dset, shiftD]; (repeat first | rw [if_pos (by omega)] | rw [if_neg (by omega)] | rw [if_pos trivial])) (by rw [E _ (by omega) (by omega)]; simp only [addW, dset, shiftD]; (repeat first | rw [if_pos (by omega)] | rw [if_neg (by omega)] | rw [if_pos trivial])) (by omega) hW hS ?_ ?_ ?_ ?_ ?_ (by rw [p0]; exact m0) (by rw [p1]; exact m1) (by rw [p2]; exact m2) ?_ ?_ ?_ ?_ ?_
  · intro w a b
    rw [show e (4 + w) = d (4 + w) from by rw [E _ (by omega) (by omega)]; simp only [addW, dset, shiftD]; (repeat first | rw [if_pos (by omega)] | rw [if_neg (by omega)] | rw [if_pos trivial])]
    exact hln w a (by omega)
  · intro k a b
    rw [E _ (by omega) (by omega)]; simp only [dset]
    by_cases hk : k = l + 1
    · rw [hk]; (repeat first | rw [if_pos (by omega)] | rw [if_neg (by omega)] | rw [if_pos trivial])
    · (repeat first | rw [if_pos (by omega)] | rw [if_neg (by omega)] | rw [if_pos trivial]); exact (sd_in (by omega)).symm
  · intro k a b
    rw [E _ (by omega) (by omega)]; simp only [dset]; (repeat first | rw [if_pos (by omega)] | rw [if_neg (by omega)] | rw [if_pos trivial]); exact ⟨rfl, (hD7 k a b).2.1⟩
  · refine ⟨by omega, ?_, ?_, fun k a b => ?_⟩
    · show (if (0 : Int) = l + 1 then _ else sd d 0) = 0; rw [if_neg (by omega)]; exact s0
    · show (if d 3 = l + 1 then _ else sd d (d 3)) = d 0; rw [if_neg (by omega)]; exact sL
    · show (if k = l + 1 then sd d (l + 1) + 1 else sd d k) < (if (k + 1) = l + 1 then sd d (l + 1) + 1 else sd d (k + 1)) ∧ P 5 (if k = l + 1 then sd d (l + 1) + 1 else sd d k) = 1 ∧ ∀ w, (if k = l + 1 then sd d (l + 1) + 1 else sd d k) < w → w < (if (k + 1) = l + 1 then sd d (l + 1) + 1 else sd d (k + 1)) → P 5 w = 0
      by_cases hk : k ≤ l
      · have h3 := hl.2.2.2 k a (by omega)
        have hk1 := lo k a hk
        have v5 : P 5 (sd d k) = M 5 (sd d k) := by rw [p5, if_neg (fun z => by omega), if_neg (fun z => by omega)]
        rw [if_neg (show ¬ k = l + 1 by omega), v5]
        by_cases hk2 : k = l
        · rw [if_pos (show k + 1 = l + 1 by omega), hk2]
          refine ⟨by omega, q0.2.1, fun w r1 r2 => ?_⟩
          rw [p5, if_neg (by omega)]
          by_cases w2 : w = sd d (l + 1)
          · rw [if_pos w2]
          · rw [if_neg w2]; exact q0.2.2 w r1 (by omega)
        · have := lo (k + 1) (by omega) (by omega)
          rw [if_neg (show ¬ k + 1 = l + 1 by omega)]
          exact ⟨h3.1, h3.2.1, fun w r1 r2 => by rw [p5, if_neg (fun z => by omega), if_neg (fun z => by omega)]; exact h3.2.2 w r1 r2⟩
      · by_cases hk2 : k = l + 1
        · rw [if_pos hk2, if_neg (show ¬ k + 1 = l + 1 by omega), hk2, eq2]
          refine ⟨by omega, ?_, fun w r1 r2 => ?_⟩
          · rw [p5, if_pos ⟨rfl, by omega⟩]
          · rw [p5, if_neg (fun z => by omega), if_neg (fun z => by omega)]; exact q1.2.2 w (by omega) r2
        · have h3 := hl.2.2.2 k a b
          have hk1 := hi k (by omega) (by omega)
          have v5 : P 5 (sd d k) = M 5 (sd d k) := by rw [p5, if_neg (fun z => by omega), if_neg (fun z => by omega)]
          rw [if_neg hk2, if_neg (show ¬ k + 1 = l + 1 by omega), v5]
          exact ⟨h3.1, h3.2.1, fun w r1 r2 => by rw [p5, if_neg (fun z => by omega), if_neg (fun z => by omega)]; exact h3.2.2 w r1 r2⟩
  · intro k a b
    show 0 ≤ exF (lenD e) (d 1) (if k = l + 1 then sd d (l + 1) + 1 else sd d k) (if (k + 1) = l + 1 then sd d (l + 1) + 1 else sd d (k + 1))
    have hk0 := hb k a (by omega)
    have hk1 := hb (k + 1) (by omega) (by omega)
    have h7 := (hD7 k a b).2.2
    by_cases hk : k = l
    · rw [if_neg (by omega), if_pos (show k + 1 = l + 1 by omega)]
      rw [exF_congr (L := lenD e) (K := lenD d) (n := d 0) (fun w q r => by unfold lenD; rw [E _ (by omega) (by omega)]; simp only [addW, dset, shiftD]; (repeat first | rw [if_pos (by omega)] | rw [if_neg (by omega)] | rw [if_pos trivial])) (by omega) (by omega)]
      subst hk
      exact hxx
    · by_cases hk2 : k = l + 1
      · rw [if_pos hk2, if_neg (by omega)]
        rw [exF_congr (L := lenD e) (K := lenD d) (n := d 0) (fun w q r => by unfold lenD; rw [E _ (by omega) (by omega)]; simp only [addW, dset, shiftD]; (repeat first | rw [if_pos (by omega)] | rw [if_neg (by omega)] | rw [if_pos trivial])) (by omega) (by omega)]
        subst hk2
        rw [eq2] at h7 ⊢
        rw [eq2] at hk1
        have := exF_fmono (L := lenD d) (W := d 1) (f := sd d (l + 1)) (g := sd d (l + 1) + 1) (t := sd d (l + 2)) (by omega) (by omega) (fun i r1 r2 => h9 i (by omega) (by omega))
        omega
      · rw [if_neg hk2, if_neg (by omega)]
        rw [exF_congr (L := lenD e) (K := lenD d) (n := d 0) (fun w q r => by unfold lenD; rw [E _ (by omega) (by omega)]; simp only [addW, dset, shiftD]; (repeat first | rw [if_pos (by omega)] | rw [if_neg (by omega)] | rw [if_pos trivial])) (by omega) (by omega)]
        exact h7
  · rw [p3]; exact h8
  · intro w a b
    rw [p3, show e (4 + w) = d (4 + w) from by rw [E _ (by omega) (by omega)]; simp only [addW, dset, shiftD]; (repeat first | rw [if_pos (by omega)] | rw [if_neg (by omega)] | rw [if_pos trivial])]
    exact hle w a (by omega)
  · intro k a b
    show P 7 (if k = l + 1 then sd d (l + 1) + 1 else sd d k) = d (53 + k)
    rw [p7]
    by_cases hk : k = l + 1
    · rw [if_pos hk, hz _ (by omega) (by omega) (by omega), hk, ← hfz (l + 1) (by omega) (by omega), z1]
    · rw [if_neg hk]; exact hfz k a b
  · intro w a b c
    rw [p7]
    rw [p5] at c
    by_cases w1 : w = sd d (l + 1) + 1 ∧ w < d 0
    · rw [if_pos w1] at c; exact absurd rfl c
    · rw [if_neg w1] at c
      by_cases w2 : w = sd d (l + 1)
      · rw [w2]; exact z1
      · rw [if_neg w2] at c; exact hz w a b c
  · intro w a b
    rw [p5, if_neg (by omega), if_neg (by omega)]; exact ho w a b

theorem push_mid {M P : Mem} {d e : Int → Int} (hR : PRel M 1 d) (hD : DOK d) {l : Int} (h0 : 0 ≤ l) (h1 : l + 1 < d 3) (hf1 : d (53 + (l + 1)) ≠ 1) (hne : sd d (l + 1) - 1 ≠ sd d l) (hxx : 0 ≤ exD d (sd d (l + 1) - 1) (sd d (l + 2))) (p0 : P 1 0 = M 1 0) (p1 : P 1 1 = M 1 1) (p2 : P 1 2 = M 1 2) (p3 : P 3 = M 3) (p5 : ∀ w, P 5 w = if w = sd d (l + 1) ∧ w < 24 then 0 else if w = sd d (l + 1) - 1 then 1 else M 5 w) (p7 : P 7 = M 7)  (hA : Ag (dset d (28 + (l + 1)) (sd d (l + 1) - 1)) e) : PRel P 1 e ∧ DOK e := by
  have hL := hD.L24
  have hn := hD.1
  have hW := hD.2.1
  have hS := hD.2.2.1
  have m0 : M 1 0 = d 1 := hR.1
  have m1 : M 1 1 = d 2 := hR.2.1
  have m2 : M 1 2 = d 0 := hR.2.2.1
  have hl : Lines (M 5) (d 0) (d 3) (sd d) := hR.2.2.2.1
  have h8 : ∀ w, 0 ≤ w → w < 24 → 0 ≤ M 3 w ∧ M 3 w ≤ 8 := hR.2.2.2.2.1
  have hle : ∀ w, 0 ≤ w → w < d 0 → M 3 w = d (4 + w) := hR.2.2.2.2.2.1
  have hfz : ∀ l, 0 ≤ l → l < d 3 → M 7 (sd d l) = d (53 + l) := hR.2.2.2.2.2.2.1
  have hz : ∀ w, 0 ≤ w → w < 24 → M 5 w ≠ 1 → M 7 w = 0 := hR.2.2.2.2.2.2.2.1
  have ho : ∀ w, d 0 ≤ w → w < 24 → M 5 w = 0 := hR.2.2.2.2.2.2.2.2
  have hln := hD.2.2.2.2.1
  have hD7 := hD.2.2.2.2.2.2
  have sL : sd d (d 3) = d 0 := sd_L (Int.le_refl _)
  have s0 : sd d 0 = 0 := hD.2.2.2.2.2.1
  have hb : ∀ k, 0 ≤ k → k ≤ d 3 → k ≤ sd d k ∧ sd d k ≤ d 0 - (d 3 - k) := fun k a b => hD.bd a b
  have h9 : ∀ j, 0 ≤ j → j < d 0 → 0 ≤ lenD d j ∧ lenD d j ≤ 8 := fun j a b => by have := hln j a b; unfold lenD; omega
  have E : ∀ j, 0 ≤ j → j < 77 → e j = (dset d (28 + (l + 1)) (sd d (l + 1) - 1)) j := fun j a b => (hA j a b).symm
  have q0 := hl.2.2.2 l h0 (by omega)
  have q1 := hl.2.2.2 (l + 1) (by omega) (by omega)
  have eq2 : l + 1 + 1 = l + 2 := by omega
  rw [eq2] at q1
  have b0 := hb l h0 (by omega)
  have b1 := hb (l + 1) (by omega) (by omega)
  have b2 := hb (l + 2) (by omega) (by omega)
  have z1 : M 7 (sd d (l + 1)) = 0 := by have := (hD7 (l + 1) (by omega) (by omega)).2.1; rw [hfz (l + 1) (by omega) (by omega)]; omega
  have lo : ∀ k, 0 ≤ k → k ≤ l → sd d k + (l - k) ≤ sd d l := fun k a b => hl.le a b (by omega)
  have hi : ∀ k, l + 2 ≤ k → k ≤ d 3 → sd d (l + 2) + (k - (l + 2)) ≤ sd d k := fun k a b => hl.le (by omega) a b
  have m51 : M 5 (sd d (l + 1) - 1) = 0 := q0.2.2 _ (by omega) (by omega)
  refine page_mk (P := P) (e := e) (n := d 0) (W := d 1) (S := d 2) (L := d 3) (s := fun k => if k = l + 1 then sd d (l + 1) - 1 else sd d k) (fz := fun k => d (53 + k)) (by rw [E _ (by omega) (by omega)]; simp only [addW, dset, shiftD]; (repeat first | rw [if_pos (by omega)] | rw [if_neg (by omega)] | rw [if_pos trivial])) (by rw [E _ (by omega) (by omega)]; simp only [addW, dset, shiftD]; (repeat first | rw [if_pos (by omega)] | rw [if_neg (by omega)] | rw [if_pos trivial])) (by rw [E _ (by omega) (by omega)]; simp only [addW, dset, shiftD]; (repeat first | rw [if_pos (by omega)] | rw [if_neg (by omega)] | rw [if_pos trivial])) (by rw [E _ (by omega) (by omega)]; simp only [addW, dset, shiftD]; (repeat first | rw [if_pos (by omega)] | rw [if_neg (by omega)] | rw [if_pos trivial])) (by omega) hW hS ?_ ?_ ?_ ?_ ?_ (by rw [p0]; exact m0) (by rw [p1]; exact m1) (by rw [p2]; exact m2) ?_ ?_ ?_ ?_ ?_
  · intro w a b
    rw [show e (4 + w) = d (4 + w) from by rw [E _ (by omega) (by omega)]; simp only [addW, dset, shiftD]; (repeat first | rw [if_pos (by omega)] | rw [if_neg (by omega)] | rw [if_pos trivial])]
    exact hln w a (by omega)
  · intro k a b
    rw [E _ (by omega) (by omega)]; simp only [dset]
    by_cases hk : k = l + 1
    · rw [hk]; (repeat first | rw [if_pos (by omega)] | rw [if_neg (by omega)] | rw [if_pos trivial])
    · (repeat first | rw [if_pos (by omega)] | rw [if_neg (by omega)] | rw [if_pos trivial]); exact (sd_in (by omega)).symm
  · intro k a b
    rw [E _ (by omega) (by omega)]; simp only [dset]; (repeat first | rw [if_pos (by omega)] | rw [if_neg (by omega)] | rw [if_pos trivial]); exact ⟨rfl, (hD7 k a b).2.1⟩
  · refine ⟨by omega, ?_, ?_, fun k a b => ?_⟩
    · show (if (0 : Int) = l + 1 then _ else sd d 0) = 0; rw [if_neg (by omega)]; exact s0
    · show (if d 3 = l + 1 then _ else sd d (d 3)) = d 0; rw [if_neg (by omega)]; exact sL
    · show (if k = l + 1 then sd d (l + 1) - 1 else sd d k) < (if (k + 1) = l + 1 then sd d (l + 1) - 1 else sd d (k + 1)) ∧ P 5 (if k = l + 1 then sd d (l + 1) - 1 else sd d k) = 1 ∧ ∀ w, (if k = l + 1 then sd d (l + 1) - 1 else sd d k) < w → w < (if (k + 1) = l + 1 then sd d (l + 1) - 1 else sd d (k + 1)) → P 5 w = 0
      by_cases hk : k ≤ l
      · have h3 := hl.2.2.2 k a (by omega)
        have hk1 := lo k a hk
        have v5 : P 5 (sd d k) = M 5 (sd d k) := by rw [p5, if_neg (fun z => by omega), if_neg (fun z => by omega)]
        rw [if_neg (show ¬ k = l + 1 by omega), v5]
        by_cases hk2 : k = l
        · rw [if_pos (show k + 1 = l + 1 by omega), hk2]
          refine ⟨by omega, q0.2.1, fun w r1 r2 => ?_⟩
          rw [p5, if_neg (fun z => by omega), if_neg (fun z => by omega)]; exact q0.2.2 w r1 (by omega)
        · have := lo (k + 1) (by omega) (by omega)
          rw [if_neg (show ¬ k + 1 = l + 1 by omega)]
          exact ⟨h3.1, h3.2.1, fun w r1 r2 => by rw [p5, if_neg (fun z => by omega), if_neg (fun z => by omega)]; exact h3.2.2 w r1 r2⟩
      · by_cases hk2 : k = l + 1
        · rw [if_pos hk2, if_neg (show ¬ k + 1 = l + 1 by omega), hk2, eq2]
          refine ⟨by omega, ?_, fun w r1 r2 => ?_⟩
          · rw [p5, if_neg (by omega), if_pos rfl]
          · rw [p5]
            by_cases w1 : w = sd d (l + 1)
            · rw [if_pos ⟨w1, by omega⟩]
            · rw [if_neg (by omega), if_neg (by omega)]; exact q1.2.2 w (by omega) r2
        · have h3 := hl.2.2.2 k a b
          have hk1 := hi k (by omega) (by omega)
          have v5 : P 5 (sd d k) = M 5 (sd d k) := by rw [p5, if_neg (fun z => by omega), if_neg (fun z => by omega)]
          rw [if_neg hk2, if_neg (show ¬ k + 1 = l + 1 by omega), v5]
          exact ⟨h3.1, h3.2.1, fun w r1 r2 => by rw [p5, if_neg (fun z => by omega), if_neg (fun z => by omega)]; exact h3.2.2 w r1 r2⟩
  · intro k a b
    show 0 ≤ exF (lenD e) (d 1) (if k = l + 1 then sd d (l + 1) - 1 else sd d k) (if (k + 1) = l + 1 then sd d (l + 1) - 1 else sd d (k + 1))
    have hk0 := hb k a (by omega)
    have hk1 := hb (k + 1) (by omega) (by omega)
    have h7 := (hD7 k a b).2.2
    by_cases hk : k = l
    · rw [if_neg (by omega), if_pos (show k + 1 = l + 1 by omega)]
      rw [exF_congr (L := lenD e) (K := lenD d) (n := d 0) (fun w q r => by unfold lenD; rw [E _ (by omega) (by omega)]; simp only [addW, dset, shiftD]; (repeat first | rw [if_pos (by omega)] | rw [if_neg (by omega)] | rw [if_pos trivial])) (by omega) (by omega)]
      subst hk
      have := exF_anti (L := lenD d) (W := d 1) (f := sd d k) (t := sd d (k + 1) - 1) (u := sd d (k + 1)) (by omega) (by omega) (fun i r1 r2 => h9 i (by omega) (by omega))
      omega
    · by_cases hk2 : k = l + 1
      · rw [if_pos hk2, if_neg (by omega)]
        rw [exF_congr (L := lenD e) (K := lenD d) (n := d 0) (fun w q r => by unfold lenD; rw [E _ (by omega) (by omega)]; simp only [addW, dset, shiftD]; (repeat first | rw [if_pos (by omega)] | rw [if_neg (by omega)] | rw [if_pos trivial])) (by omega) (by omega)]
        subst hk2
        rw [eq2]; exact hxx
      · rw [if_neg hk2, if_neg (by omega)]
        rw [exF_congr (L := lenD e) (K := lenD d) (n := d 0) (fun w q r => by unfold lenD; rw [E _ (by omega) (by omega)]; simp only [addW, dset, shiftD]; (repeat first | rw [if_pos (by omega)] | rw [if_neg (by omega)] | rw [if_pos trivial])) (by omega) (by omega)]
        exact h7
  · rw [p3]; exact h8
  · intro w a b
    rw [p3, show e (4 + w) = d (4 + w) from by rw [E _ (by omega) (by omega)]; simp only [addW, dset, shiftD]; (repeat first | rw [if_pos (by omega)] | rw [if_neg (by omega)] | rw [if_pos trivial])]
    exact hle w a (by omega)
  · intro k a b
    show P 7 (if k = l + 1 then sd d (l + 1) - 1 else sd d k) = d (53 + k)
    rw [p7]
    by_cases hk : k = l + 1
    · rw [if_pos hk, hz _ (by omega) (by omega) (by omega), hk, ← hfz (l + 1) (by omega) (by omega), z1]
    · rw [if_neg hk]; exact hfz k a b
  · intro w a b c
    rw [p7]
    rw [p5] at c
    by_cases w1 : w = sd d (l + 1)
    · rw [w1]; exact z1
    · rw [if_neg (fun z => w1 z.1)] at c
      by_cases w2 : w = sd d (l + 1) - 1
      · rw [if_pos w2] at c; exact absurd rfl c
      · rw [if_neg w2] at c; exact hz w a b c
  · intro w a b
    rw [p5, if_neg (by omega), if_neg (by omega)]; exact ho w a b

theorem push_last {M P : Mem} {d e : Int → Int} (hR : PRel M 1 d) (hD : DOK d) {l : Int} (h0 : 0 ≤ l) (h1 : l + 1 = d 3) (hne : sd d (l + 1) - 1 ≠ sd d l) (p0 : P 1 0 = M 1 0) (p1 : P 1 1 = M 1 1) (p2 : P 1 2 = M 1 2) (p3 : P 3 = M 3) (p5 : ∀ w, P 5 w = if w = sd d (l + 1) ∧ w < 24 then 0 else if w = sd d (l + 1) - 1 then 1 else M 5 w) (p7 : P 7 = M 7)  (hA : Ag (dset (dset (dset d (28 + (l + 1)) (d 0 - 1)) (53 + (l + 1)) 0) 3 (d 3 + 1)) e) : PRel P 1 e ∧ DOK e := by
  have hL := hD.L24
  have hn := hD.1
  have hW := hD.2.1
  have hS := hD.2.2.1
  have m0 : M 1 0 = d 1 := hR.1
  have m1 : M 1 1 = d 2 := hR.2.1
  have m2 : M 1 2 = d 0 := hR.2.2.1
  have hl : Lines (M 5) (d 0) (d 3) (sd d) := hR.2.2.2.1
  have h8 : ∀ w, 0 ≤ w → w < 24 → 0 ≤ M 3 w ∧ M 3 w ≤ 8 := hR.2.2.2.2.1
  have hle : ∀ w, 0 ≤ w → w < d 0 → M 3 w = d (4 + w) := hR.2.2.2.2.2.1
  have hfz : ∀ l, 0 ≤ l → l < d 3 → M 7 (sd d l) = d (53 + l) := hR.2.2.2.2.2.2.1
  have hz : ∀ w, 0 ≤ w → w < 24 → M 5 w ≠ 1 → M 7 w = 0 := hR.2.2.2.2.2.2.2.1
  have ho : ∀ w, d 0 ≤ w → w < 24 → M 5 w = 0 := hR.2.2.2.2.2.2.2.2
  have hln := hD.2.2.2.2.1
  have hD7 := hD.2.2.2.2.2.2
  have sL : sd d (d 3) = d 0 := sd_L (Int.le_refl _)
  have s0 : sd d 0 = 0 := hD.2.2.2.2.2.1
  have hb : ∀ k, 0 ≤ k → k ≤ d 3 → k ≤ sd d k ∧ sd d k ≤ d 0 - (d 3 - k) := fun k a b => hD.bd a b
  have h9 : ∀ j, 0 ≤ j → j < d 0 → 0 ≤ lenD d j ∧ lenD d j ≤ 8 := fun j a b => by have := hln j a b; unfold lenD; omega
  have E : ∀ j, 0 ≤ j → j < 77 → e j = (dset (dset (dset d (28 + (l + 1)) (d 0 - 1)) (53 + (l + 1)) 0) 3 (d 3 + 1)) j := fun j a b => (hA j a b).symm
  have q0 := hl.2.2.2 l h0 (by omega)
  have e1 : sd d (l + 1) = d 0 := by rw [h1]; exact sL
  rw [e1] at q0 hne p5
  have b0 := hb l h0 (by omega)
  have lo : ∀ k, 0 ≤ k → k ≤ l → sd d k + (l - k) ≤ sd d l := fun k a b => hl.le a b (by omega)
  have m51 : M 5 (d 0 - 1) = 0 := q0.2.2 _ (by omega) (by omega)
  have z1 := hz (d 0 - 1) (by omega) (by omega) (by omega)
  refine page_mk (P := P) (e := e) (n := d 0) (W := d 1) (S := d 2) (L := d 3 + 1) (s := fun k => if k ≤ l then sd d k else if k = l + 1 then d 0 - 1 else d 0) (fz := fun k => if k ≤ l then d (53 + k) else 0) (by rw [E _ (by omega) (by omega)]; simp only [addW, dset, shiftD]; (repeat first | rw [if_pos (by omega)] | rw [if_neg (by omega)] | rw [if_pos trivial])) (by rw [E _ (by omega) (by omega)]; simp only [addW, dset, shiftD]; (repeat first | rw [if_pos (by omega)] | rw [if_neg (by omega)] | rw [if_pos trivial])) (by rw [E _ (by omega) (by omega)]; simp only [addW, dset, shiftD]; (repeat first | rw [if_pos (by omega)] | rw [if_neg (by omega)] | rw [if_pos trivial])) (by rw [E _ (by omega) (by omega)]; simp only [addW, dset, shiftD]; (repeat first | rw [if_pos (by omega)] | rw [if_neg (by omega)] | rw [if_pos trivial])) (by omega) hW hS ?_ ?_ ?_ ?_ ?_ (by rw [p0]; exact m0) (by rw [p1]; exact m1) (by rw [p2]; exact m2) ?_ ?_ ?_ ?_ ?_
  · intro w a b
    rw [show e (4 + w) = d (4 + w) from by rw [E _ (by omega) (by omega)]; simp only [addW, dset, shiftD]; (repeat first | rw [if_pos (by omega)] | rw [if_neg (by omega)] | rw [if_pos trivial])]
    exact hln w a (by omega)
  · intro k a b
    rw [E _ (by omega) (by omega)]; simp only [dset]
    by_cases hk : k ≤ l
    · (repeat first | rw [if_pos (by omega)] | rw [if_neg (by omega)] | rw [if_pos trivial]); exact (sd_in (by omega)).symm
    · rw [show k = l + 1 by omega]; (repeat first | rw [if_pos (by omega)] | rw [if_neg (by omega)] | rw [if_pos trivial])
  · intro k a b
    rw [E _ (by omega) (by omega)]; simp only [dset]
    by_cases hk : k ≤ l
    · (repeat first | rw [if_pos (by omega)] | rw [if_neg (by omega)] | rw [if_pos trivial]); exact ⟨rfl, (hD7 k a (by omega)).2.1⟩
    · rw [show k = l + 1 by omega]; (repeat first | rw [if_pos (by omega)] | rw [if_neg (by omega)] | rw [if_pos trivial]); exact ⟨rfl, Or.inl rfl⟩
  · refine ⟨by omega, ?_, ?_, fun k a b => ?_⟩
    · show (if (0 : Int) ≤ l then sd d 0 else _) = 0; rw [if_pos h0]; exact s0
    · show (if d 3 + 1 ≤ l then _ else if d 3 + 1 = l + 1 then _ else _) = d 0; rw [if_neg (by omega), if_neg (by omega)]
    · show (if k ≤ l then sd d k else if k = l + 1 then d 0 - 1 else d 0) < (if (k + 1) ≤ l then sd d (k + 1) else if (k + 1) = l + 1 then d 0 - 1 else d 0) ∧ P 5 (if k ≤ l then sd d k else if k = l + 1 then d 0 - 1 else d 0) = 1 ∧ ∀ w, (if k ≤ l then sd d k else if k = l + 1 then d 0 - 1 else d 0) < w → w < (if (k + 1) ≤ l then sd d (k + 1) else if (k + 1) = l + 1 then d 0 - 1 else d 0) → P 5 w = 0
      by_cases hk : k ≤ l
      · have h3 := hl.2.2.2 k a (by omega)
        have hk1 := lo k a hk
        have v5 : P 5 (sd d k) = M 5 (sd d k) := by rw [p5, if_neg (fun z => by omega), if_neg (fun z => by omega)]
        rw [if_pos hk, v5]
        by_cases hk2 : k = l
        · rw [if_neg (by omega), if_pos (show k + 1 = l + 1 by omega), hk2]
          exact ⟨by omega, q0.2.1, fun w r1 r2 => by rw [p5, if_neg (fun z => by omega), if_neg (fun z => by omega)]; exact q0.2.2 w r1 (by omega)⟩
        · have := lo (k + 1) (by omega) (by omega)
          rw [if_pos (show k + 1 ≤ l by omega)]
          exact ⟨h3.1, h3.2.1, fun w r1 r2 => by rw [p5, if_neg (fun z => by omega), if_neg (fun z => by omega)]; exact h3.2.2 w r1 r2⟩
      · rw [if_neg hk, if_pos (show k = l + 1 by omega), if_neg (show ¬ k + 1 ≤ l by omega), if_neg (show ¬ k + 1 = l + 1 by omega)]
        exact ⟨by omega, by rw [p5, if_neg (by omega), if_pos rfl], fun w r1 r2 => by omega⟩
  · intro k a b
    show 0 ≤ exF (lenD e) (d 1) (if k ≤ l then sd d k else if k = l + 1 then d 0 - 1 else d 0) (if (k + 1) ≤ l then sd d (k + 1) else if (k + 1) = l + 1 then d 0 - 1 else d 0)
    by_cases hk : k ≤ l
    · have hk0 := hb k a (by omega)
      have hk1 := hb (k + 1) (by omega) (by omega)
      have h7 := (hD7 k a (by omega)).2.2
      rw [if_pos hk]
      by_cases hk2 : k = l
      · rw [if_neg (by omega), if_pos (show k + 1 = l + 1 by omega)]
        rw [exF_congr (L := lenD e) (K := lenD d) (n := d 0) (fun w q r => by unfold lenD; rw [E _ (by omega) (by omega)]; simp only [addW, dset, shiftD]; (repeat first | rw [if_pos (by omega)] | rw [if_neg (by omega)] | rw [if_pos trivial])) (by omega) (by omega)]
        rw [hk2, e1] at h7
        rw [hk2]
        have := exF_anti (L := lenD d) (W := d 1) (f := sd d l) (t := d 0 - 1) (u := d 0) (by omega) (by omega) (fun i r1 r2 => h9 i (by omega) (by omega))
        omega
      · rw [if_pos (show k + 1 ≤ l by omega)]
        rw [exF_congr (L := lenD e) (K := lenD d) (n := d 0) (fun w q r => by unfold lenD; rw [E _ (by omega) (by omega)]; simp only [addW, dset, shiftD]; (repeat first | rw [if_pos (by omega)] | rw [if_neg (by omega)] | rw [if_pos trivial])) (by omega) (by omega)]
        exact h7
    · rw [if_neg hk, if_pos (show k = l + 1 by omega), if_neg (show ¬ k + 1 ≤ l by omega), if_neg (show ¬ k + 1 = l + 1 by omega)]
      rw [exF_congr (L := lenD e) (K := lenD d) (n := d 0) (fun w q r => by unfold lenD; rw [E _ (by omega) (by omega)]; simp only [addW, dset, shiftD]; (repeat first | rw [if_pos (by omega)] | rw [if_neg (by omega)] | rw [if_pos trivial])) (by omega) (by omega)]
      have h7 := (hD7 l h0 (by omega)).2.2
      rw [e1] at h7
      have := exF_fmono (L := lenD d) (W := d 1) (f := sd d l) (g := d 0 - 1) (t := d 0) (by omega) (by omega) (fun i r1 r2 => h9 i (by omega) (by omega))
      omega
  · rw [p3]; exact h8
  · intro w a b
    rw [p3, show e (4 + w) = d (4 + w) from by rw [E _ (by omega) (by omega)]; simp only [addW, dset, shiftD]; (repeat first | rw [if_pos (by omega)] | rw [if_neg (by omega)] | rw [if_pos trivial])]
    exact hle w a (by omega)
  · intro k a b
    show P 7 (if k ≤ l then sd d k else if k = l + 1 then d 0 - 1 else d 0) = if k ≤ l then d (53 + k) else 0
    rw [p7]
    by_cases hk : k ≤ l
    · rw [if_pos hk, if_pos hk]; exact hfz k a (by omega)
    · rw [if_neg hk, if_neg hk, if_pos (show k = l + 1 by omega)]; exact z1
  · intro w a b c
    rw [p7]
    rw [p5] at c
    by_cases w1 : w = d 0
    · rw [w1]; exact hz _ (by omega) (by omega) (by rw [ho _ (Int.le_refl _) (by omega)]; decide)
    · rw [if_neg (fun z => w1 z.1)] at c
      by_cases w2 : w = d 0 - 1
      · rw [if_pos w2] at c; exact absurd rfl c
      · rw [if_neg w2] at c; exact hz w a b c
  · intro w a b
    rw [p5]
    by_cases w1 : w = d 0
    · rw [if_pos ⟨w1, b⟩]
    · rw [if_neg (by omega), if_neg (by omega)]; exact ho w a b

theorem newL_iff {B : Mem} {d : Int → Int} {k la : Int} (hR : PRel B 1 d) (hD : DOK d) (hw : d 0 < 24) (hla : FstP (B 5) (d 0) (d 3 - 1) la) : newL d k ↔ (d 0 = 0 ∨ B 7 la = 1 ∨ exF (mset (mset B 3 (d 0) k) 1 2 (d 0 + 1) 3) (mset (mset B 3 (d 0) k) 1 2 (d 0 + 1) 1 0) la (d 0 + 1) < 0) := by
  have hL := hD.L24
  have hn := hD.1
  have hl : Lines (B 5) (d 0) (d 3) (sd d) := hR.2.2.2.1
  by_cases h0 : d 0 = 0
  · exact ⟨fun _ => Or.inl h0, fun _ => Or.inl (by omega)⟩
  have hL1 : 1 ≤ d 3 := by
    by_cases z : 1 ≤ d 3
    · exact z
    · have h3 : d 3 = 0 := by omega
      have := hl.2.1
      have h4 := hl.2.2.1
      rw [h3] at h4
      omega
  have hb := hD.bd (l := d 3 - 1) (by omega) (by omega)
  have el : la = sd d (d 3 - 1) := hl.fst (by omega) (by omega) hla
  have ez : B 7 la = d (53 + (d 3 - 1)) := by rw [el]; exact hR.2.2.2.2.2.2.1 (d 3 - 1) (by omega) (by omega)
  have ex : exF (mset (mset B 3 (d 0) k) 1 2 (d 0 + 1) 3) (mset (mset B 3 (d 0) k) 1 2 (d 0 + 1) 1 0) la (d 0 + 1) = exF (lenD (addW d k)) (d 1) (d (28 + (d 3 - 1))) (d 0 + 1) := by
    have e1 : mset (mset B 3 (d 0) k) 1 2 (d 0 + 1) 1 0 = d 1 := by rw [mset_ne2 (by decide), mset_nef (by decide)]; exact hR.1
    have e2 : d (28 + (d 3 - 1)) = la := by rw [el]; exact (sd_in (by omega)).symm
    rw [e1, e2]
    refine exF_congr (n := d 0 + 1) (fun w q0 q1 => ?_) (by omega) (by omega)
    unfold lenD addW
    rw [mset_nef (by decide), mset_if, dset_ne (by omega)]
    by_cases hwn : w = d 0
    · rw [if_pos hwn, hwn, dset_at]
    · rw [if_neg hwn, dset_ne (by omega)]
      exact hR.2.2.2.2.2.1 w q0 (by omega)
  rw [ez, ex]
  unfold newL
  constructor
  · rintro (z | z | z)
    · omega
    · exact Or.inr (Or.inl z)
    · exact Or.inr (Or.inr z)
  · rintro (z | z | z)
    · omega
    · exact Or.inr (Or.inl z)
    · exact Or.inr (Or.inr z)
