/-! ===== the search over memories: what it needs, what it keeps ===== -/
theorem prC_no {d : Int → Int} {i j : Int} (h : ¬ okC d i j) : prC d i j = 1000000000 := if_neg (fun z => h (okCB_iff.mp z))
theorem prC_yes {d : Int → Int} {i j : Int} (h : okC d i j) : prC d i j = prD d i j := if_pos (okCB_iff.mpr h)
theorem isln_iff {M : Mem} {c : Nat} {d : Int → Int} (hR : PRel M c d) (hD : DOK d) {i j : Int} (h0 : 0 ≤ i) (hij : i < d 0) : (M (c + 4) i = 1 ∧ EndP (M (c + 4)) (d 0) i j) ↔ isLn d i j := by
  constructor
  · intro ⟨h1, h2⟩
    obtain ⟨l, a1, a2, a3⟩ := hR.2.2.2.1.at h0 hij h1
    rw [a3] at h2
    exact ⟨l, a1, a2, a3.symm, (hR.2.2.2.1.end a1 a2 h2).symm⟩
  · intro ⟨l, a1, a2, a3, a4⟩
    rw [← a3, ← a4]
    exact ⟨(hR.2.2.2.1.2.2.2 l a1 a2).2.1, hR.2.2.2.1.endP a1 a2⟩
theorem fzat_iff {M : Mem} {c : Nat} {d : Int → Int} (hR : PRel M c d) (hD : DOK d) {i : Int} (h0 : 0 ≤ i) (hij : i < d 0) : M (c + 6) i = 1 ↔ ∃ l, 0 ≤ l ∧ l < d 3 ∧ d (53 + l) = 1 ∧ sd d l = i := by
  have hn := hD.1
  constructor
  · intro h
    by_cases hb : M (c + 4) i = 1
    · obtain ⟨l, a1, a2, a3⟩ := hR.2.2.2.1.at h0 hij hb
      have := hR.2.2.2.2.2.2.1 l a1 a2
      rw [← a3, h] at this
      exact ⟨l, a1, a2, this.symm, a3.symm⟩
    · have := hR.2.2.2.2.2.2.2.1 i h0 (by omega) hb
      omega
  · intro ⟨l, a1, a2, a3, a4⟩
    have := hR.2.2.2.2.2.2.1 l a1 a2
    rw [a4, a3] at this
    exact this
theorem fzin_iff {M : Mem} {c : Nat} {d : Int → Int} (hR : PRel M c d) (hD : DOK d) {i j : Int} (h0 : 0 ≤ i) (hj : j ≤ d 0) : (∃ w, i + 1 ≤ w ∧ w < j ∧ M (c + 6) w = 1) ↔ ∃ l, 0 ≤ l ∧ l < d 3 ∧ d (53 + l) = 1 ∧ i < sd d l ∧ sd d l < j := by
  constructor
  · intro ⟨w, a1, a2, a3⟩
    obtain ⟨l, b1, b2, b3, b4⟩ := (fzat_iff hR hD (by omega) (by omega)).mp a3
    exact ⟨l, b1, b2, b3, by omega, by omega⟩
  · intro ⟨l, b1, b2, b3, b4, b5⟩
    exact ⟨sd d l, by omega, b5, (fzat_iff hR hD (by omega) (by omega)).mpr ⟨l, b1, b2, b3, rfl⟩⟩
theorem exD_eq {M : Mem} {c : Nat} {d : Int → Int} (hR : PRel M c d) {i j : Int} (hi : i ≤ d 0) (hj : j ≤ d 0) : exF (M (c + 2)) (M c 0) i j = exD d i j := by
  unfold exD
  rw [hR.1, exF_congr hR.2.2.2.2.2.1 hi hj]
  rfl
theorem bd_eq {d : Int → Int} {n e i j : Int} (hn : n = d 0) (he : e = exD d i j) (hj : j ≤ d 0) : (if n ≤ j then 0 else e * e) = bdD d i j := by
  unfold bdD
  rw [hn, he]
  by_cases h : j = d 0
  · rw [if_pos (by omega), if_pos h]
  · rw [if_neg (by omega), if_neg h]
def TF (M N : Mem) (i m : Int) : Prop := (∀ q, q ≠ 54 → q ≠ 64 → q ≠ 66 → q ≠ 68 → q ≠ 70 → q ≠ 76 → q ≠ 78 → N q = M q) ∧ (∀ j, j ≠ 0 → j ≠ 1 → j ≠ 2 → N 54 j = M 54 j) ∧ (∀ w, w < i → N 64 w = M 64 w ∧ N 66 w = M 66 w ∧ N 68 w = M 68 w ∧ N 70 w = M 70 w) ∧ ∀ k, k < m → N 76 k = M 76 k
theorem TF.rf (M : Mem) (i m : Int) : TF M M i m := ⟨fun _ _ _ _ _ _ _ _ => rfl, fun _ _ _ _ => rfl, fun _ _ => ⟨rfl, rfl, rfl, rfl⟩, fun _ _ => rfl⟩
theorem TF.trans {M N O : Mem} {i m : Int} (h : TF M N i m) (g : TF N O i m) : TF M O i m :=
  ⟨fun q a b c d e f k => (g.1 q a b c d e f k).trans (h.1 q a b c d e f k), fun j a b c => (g.2.1 j a b c).trans (h.2.1 j a b c), fun w hw => ⟨(g.2.2.1 w hw).1.trans (h.2.2.1 w hw).1, (g.2.2.1 w hw).2.1.trans (h.2.2.1 w hw).2.1, (g.2.2.1 w hw).2.2.1.trans (h.2.2.1 w hw).2.2.1, (g.2.2.1 w hw).2.2.2.trans (h.2.2.1 w hw).2.2.2⟩, fun k hk => (g.2.2.2 k hk).trans (h.2.2.2 k hk)⟩
theorem TF.less {M N : Mem} {i m i2 m2 : Int} (h : TF M N i m) (hi : i2 ≤ i) (hm : m2 ≤ m) : TF M N i2 m2 := ⟨h.1, h.2.1, fun w hw => h.2.2.1 w (by omega), fun k hk => h.2.2.2 k (by omega)⟩
def TP (M : Mem) (d : Int → Int) (D p i : Int) (r : Int → Int) (m : Int) (Q : Int → Int) (b : Bst) : Prop :=
  PRel M 55 d ∧ PrOK M d ∧ M 54 3 = D ∧ SBd M 62 ∧ RowsAt M 62 (lenD d) (d 1) (d 0) p i ∧ (∀ w, p ≤ w → w < i → 0 ≤ M 70 w ∧ M 70 w ≤ 24) ∧ (∀ w, p ≤ w → w < i - 1 → M 70 w = r w) ∧ (∀ k, 0 ≤ k → k < m → M 76 k = Q (k + 1) - Q k) ∧ Q m = i ∧ BRel M b ∧ b.1 ≤ 1000000000
theorem TP.of {M N : Mem} {d : Int → Int} {D p i : Int} {r : Int → Int} {m : Int} {Q : Int → Int} {b b2 : Bst} (h : TP M d D p i r m Q b) (hf : TF M N i m) (hs : SBd N 62) (hb : BRel N b2) (hl : b2.1 ≤ 1000000000) : TP N d D p i r m Q b2 := by
  obtain ⟨h1, h2, h3, h4, h5, h6, h7, h8, h9, h10, h11⟩ := h
  have e : ∀ q, q ≠ 54 → q ≠ 64 → q ≠ 66 → q ≠ 68 → q ≠ 70 → q ≠ 76 → q ≠ 78 → N q = M q := hf.1
  refine ⟨h1.congr (e 55 (by decide) (by decide) (by decide) (by decide) (by decide) (by decide) (by decide)) (e 57 (by decide) (by decide) (by decide) (by decide) (by decide) (by decide) (by decide)) (e 59 (by decide) (by decide) (by decide) (by decide) (by decide) (by decide) (by decide)) (e 61 (by decide) (by decide) (by decide) (by decide) (by decide) (by decide) (by decide)), ?_, ?_, hs, ?_, ?_, ?_, ?_, h9, hb, hl⟩
  · unfold PrOK
    rw [e 72 (by decide) (by decide) (by decide) (by decide) (by decide) (by decide) (by decide), e 74 (by decide) (by decide) (by decide) (by decide) (by decide) (by decide) (by decide)]
    exact h2
  · rw [hf.2.1 3 (by decide) (by decide) (by decide)]; exact h3
  · intro w g0 g1
    have := hf.2.2.1 w g1
    show N 64 w = _ ∧ N 66 w = _ ∧ N 68 w = _
    rw [this.1, this.2.1, this.2.2.1]
    exact h5 w g0 g1
  · intro w g0 g1
    rw [(hf.2.2.1 w g1).2.2.2]
    exact h6 w g0 g1
  · intro w g0 g1
    rw [(hf.2.2.1 w (by omega)).2.2.2]
    exact h7 w g0 g1
  · intro k g0 g1
    rw [hf.2.2.2 k g1]
    exact h8 k g0 g1
/-- a line is laid: what was needed stays, and the sheet holds the line -/
theorem TP.lay {M N : Mem} {d : Int → Int} {D p i : Int} {r : Int → Int} {m : Int} {Q : Int → Int} {b : Bst} (h : TP M d D p i r m Q b) (hD : DOK d) (hp : 0 ≤ p) (hpi : p ≤ i) {j x : Int} (hij : i < j) (hj : j ≤ d 0) (hx : 0 ≤ exD d i j) (hl : LayP M N 62 (M 57) (lexF (M 57) (M 55 0) (M 55 2) i j) p i j x) :
    TP N d D p i r m Q b ∧ TF M N i m ∧ x = mostD d p i j r ∧ RowsAt N 62 (lenD d) (d 1) (d 0) i j ∧ (∀ w, i ≤ w → w < j - 1 → N 70 w = rlF (lenD d) (d 1) (d 0) p i j r w) ∧ (∀ w, i ≤ w → w < j → N 70 w ≤ x ∧ 0 ≤ N 70 w) := by
  have hR : PRel M 55 d := h.1
  have hW := hD.2.1
  have hn := hD.1
  obtain ⟨a1, a2, a3, a4, a5, a6⟩ := lay_d (c := 62) (u := 55) hR hp hpi hij hj h.2.2.2.2.1 h.2.2.2.2.2.2.1 hl
  have hf : TF M N i m := ⟨fun q b1 b2 b3 b4 b5 b6 b7 => a4 q b2 b3 b4 b5, fun j _ _ _ => by rw [a4 54 (by decide) (by decide) (by decide) (by decide)], fun w hw => a3 w (Or.inl hw), fun k _ => by rw [a4 76 (by decide) (by decide) (by decide) (by decide)]⟩
  have hs : SBd N 62 := hl.bd h.2.2.2.1 (lexF_bd hR.2.2.2.2.1 (by have := hR.1; omega) (by omega) (by omega) (by omega) (Or.inr (by have := exD_eq hR (i := i) (j := j) (by omega) hj; show 0 ≤ exF (M (55 + 2)) (M 55 0) i j; rw [this]; exact hx))) hR.2.2.2.2.1 (by omega)
  have hb : BRel N b := by
    have hB := h.2.2.2.2.2.2.2.2.2.1
    unfold BRel
    rw [a4 54 (by decide) (by decide) (by decide) (by decide), a4 78 (by decide) (by decide) (by decide) (by decide)]
    exact hB
  exact ⟨h.of hf hs hb h.2.2.2.2.2.2.2.2.2.2, hf, a5, a1, a2, a6⟩
theorem TP.next {N : Mem} {d : Int → Int} {D p i : Int} {r : Int → Int} {m : Int} {Q : Int → Int} {b : Bst} (h : TP N d D p i r m Q b) (hD : 1 ≤ D ∧ D ≤ 24) (hm : 0 ≤ m) {j x : Int} (hij : i < j) (hxm : x = mostD d p i j r) (hxD : x ≤ D) (hrow : RowsAt N 62 (lenD d) (d 1) (d 0) i j) (hr : ∀ w, i ≤ w → w < j - 1 → N 70 w = rlF (lenD d) (d 1) (d 0) p i j r w) (hb : ∀ w, i ≤ w → w < j → N 70 w ≤ x ∧ 0 ≤ N 70 w) :
    TP (mset N 76 m (j - i)) d D i j (rlF (lenD d) (d 1) (d 0) p i j r) (m + 1) (qset Q (m + 1) j) b ∧ TF N (mset N 76 m (j - i)) i m := by
  obtain ⟨h1, h2, h3, h4, h5, h6, h7, h8, h9, h10, h11⟩ := h
  have e : ∀ q, q ≠ 76 → mset N 76 m (j - i) q = N q := fun q hq => mset_nef hq
  refine ⟨⟨?_, ?_, ?_, ?_, ?_, ?_, ?_, ?_, ?_, ?_, h11⟩, fun q b1 b2 b3 b4 b5 b6 b7 => e q b6, fun j _ _ _ => by rw [e 54 (by decide)], fun w _ => by rw [e 64 (by decide), e 66 (by decide), e 68 (by decide), e 70 (by decide)]; exact ⟨rfl, rfl, rfl, rfl⟩, fun k hk => mset_ne2 (by omega)⟩
  · exact h1.congr (e 55 (by decide)) (e 57 (by decide)) (e 59 (by decide)) (e 61 (by decide))
  · unfold PrOK; rw [e 72 (by decide), e 74 (by decide)]; exact h2
  · rw [e 54 (by decide)]; exact h3
  · unfold SBd
    show ∀ w, 0 ≤ w → w < 24 → (0 ≤ mset N 76 m (j - i) 66 w ∧ mset N 76 m (j - i) 66 w ≤ 2000) ∧ (0 ≤ mset N 76 m (j - i) 68 w ∧ mset N 76 m (j - i) 68 w ≤ 2000)
    rw [e 66 (by decide), e 68 (by decide)]
    exact h4
  · unfold RowsAt
    show ∀ w, i ≤ w → w < j → mset N 76 m (j - i) 64 w = _ ∧ mset N 76 m (j - i) 66 w = _ ∧ mset N 76 m (j - i) 68 w = _
    rw [e 64 (by decide), e 66 (by decide), e 68 (by decide)]
    exact hrow
  · rw [e 70 (by decide)]
    intro w g0 g1
    have := hb w g0 g1
    omega
  · rw [e 70 (by decide)]
    exact hr
  · intro k g0 g1
    unfold qset
    by_cases hk : k = m
    · rw [hk, mset_at, if_pos rfl, if_neg (by omega), h9]
    · rw [mset_ne2 hk, if_neg (by omega), if_neg (by omega)]
      exact h8 k g0 (by omega)
  · unfold qset; rw [if_pos rfl]
  · unfold BRel; rw [e 54 (by decide), e 78 (by decide)]; exact h10
/-- what one end of a line does to the best -/
noncomputable def stepF (d : Int → Int) (D : Int) (t : Nat) (p i : Int) (r : Int → Int) (pr rv m : Int) (Q : Int → Int) (j : Int) (b : Bst) : Bst := if okB d i j = true ∧ mostD d p i j r ≤ D then srF d D t i j (rlF (lenD d) (d 1) (d 0) p i j r) (pr + prD d i j) (max rv (mostD d p i j r)) (m + 1) (qset Q (m + 1) j) b else b
theorem srF_S {d : Int → Int} {D : Int} {t : Nat} {p i : Int} {r : Int → Int} {pr rv m : Int} {Q : Int → Int} {b : Bst} (h : i < d 0) : srF d D (t + 1) p i r pr rv m Q b = foldN (stepF d D t p i r pr rv m Q) i (d 0 - i).toNat b := by
  show (if d 0 ≤ i then _ else _) = _
  rw [if_neg (by omega)]
  rfl
theorem srF_leaf {d : Int → Int} {D : Int} {t : Nat} {p i : Int} {r : Int → Int} {pr rv m : Int} {Q : Int → Int} {b : Bst} (h : d 0 ≤ i) (hp : pr < b.1) : srF d D (t + 1) p i r pr rv m Q b = (pr, m, rv, Q) := by
  show (if d 0 ≤ i then _ else _) = _
  rw [if_pos h, if_pos hp]
theorem foldN_S {f : Int → Bst → Bst} {i e : Int} {b : Bst} (h : i < e) : foldN f i (e - i).toNat b = foldN f i (e - 1 - i).toNat (f e b) := by
  rw [show (e - i).toNat = (e - 1 - i).toNat + 1 by omega]
  show foldN f i (e - 1 - i).toNat (f (i + ((e - 1 - i).toNat : Int) + 1) b) = _
  rw [show i + ((e - 1 - i).toNat : Int) + 1 = e by omega]
theorem step_skip {d : Int → Int} (hD : DOK d) {D : Int} {LP : Int → Int} (hL : LPok d LP) {t : Nat} {p i : Int} {r : Int → Int} {pr rv m : Int} {Q : Int → Int} {j : Int} {b : Bst} (h0 : 0 ≤ i) (hij : i < j) (hj : j ≤ d 0) (hr : RI d i) (hb : b.1 ≤ pr + prC d i j + LP j) : stepF d D t p i r pr rv m Q j b = b := by
  unfold stepF
  split
  · rename_i ho
    have ho1 := okB_iff.mp ho.1
    have hc := (okC_iff hD hij hr).mpr ho1
    rw [prC_yes hc] at hb
    exact srF_cut hD hL t i j _ _ _ _ _ b (by omega) hj (RI_step hD hij ho1) (by omega)
  · rfl
theorem step_far {d : Int → Int} {D : Int} {t : Nat} {p i : Int} {r : Int → Int} {pr rv m : Int} {Q : Int → Int} {j : Int} {b : Bst} (h : D < mostD d p i j r) : stepF d D t p i r pr rv m Q j b = b := if_neg (fun z => by omega)
theorem step_go {d : Int → Int} {D : Int} {t : Nat} {p i : Int} {r : Int → Int} {pr rv m : Int} {Q : Int → Int} {j : Int} {b : Bst} (h : mostD d p i j r ≤ D) (ho : okD d i j) : stepF d D t p i r pr rv m Q j b = srF d D t i j (rlF (lenD d) (d 1) (d 0) p i j r) (pr + prD d i j) (max rv (mostD d p i j r)) (m + 1) (qset Q (m + 1) j) b := if_pos ⟨okB_iff.mpr ho, h⟩
theorem prC_ok {d : Int → Int} (hD : DOK d) {i j : Int} (hij : i < j) (hr : RI d i) (h : prC d i j < 1000000000) : okD d i j ∧ prC d i j = prD d i j := by
  by_cases hc : okC d i j
  · exact ⟨(okC_iff hD hij hr).mp hc, prC_yes hc⟩
  · rw [prC_no hc] at h
    omega
theorem keep_ok {M : Mem} {pr m rv : Int} {Q : Int → Int} (hm : m ≤ 24) (h : ∀ k, 0 ≤ k → k < m → M 76 k = Q (k + 1) - Q k) (i m2 : Int) : BRel (mcpy (mset (mset (mset M 54 2 pr) 54 0 m) 54 1 rv) 78 76 24) (pr, m, rv, Q) ∧ TF M (mcpy (mset (mset (mset M 54 2 pr) 54 0 m) 54 1 rv) 78 76 24) i m2 := by
  have e : ∀ q, q ≠ 54 → q ≠ 78 → mcpy (mset (mset (mset M 54 2 pr) 54 0 m) 54 1 rv) 78 76 24 q = M q := fun q h1 h2 => by rw [mcpy_ne h2, mset_nef h1, mset_nef h1, mset_nef h1]
  refine ⟨⟨?_, ?_, ?_, fun k h0 h1 => ?_⟩, fun q b1 b2 b3 b4 b5 b6 b7 => e q b1 b7, fun j j0 j1 j2 => ?_, fun w _ => ?_, fun k _ => ?_⟩
  · rw [mcpy_ne (by decide), mset_ne2 (by decide), mset_ne2 (by decide), mset_at]
  · rw [mcpy_ne (by decide), mset_ne2 (by decide), mset_at]
  · rw [mcpy_ne (by decide), mset_at]
  · have h2 : k < m := h1
    rw [mcpy_in h0 (by omega), mset_ne (by decide), mset_ne (by decide), mset_ne (by decide)]
    exact h k h0 h2
  · rw [mcpy_ne (by decide), mset_ne2 j1, mset_ne2 j0, mset_ne2 j2]
  · rw [e 64 (by decide) (by decide), e 66 (by decide) (by decide), e 68 (by decide) (by decide), e 70 (by decide) (by decide)]
    exact ⟨rfl, rfl, rfl, rfl⟩
  · rw [e 76 (by decide) (by decide)]
theorem mostD_bd {d : Int → Int} {p i j : Int} {r : Int → Int} (hr : ∀ w, p ≤ w → w < i - 1 → r w ≤ 50) : mostD d p i j r ≤ 51 := by
  refine (mx_bd (by omega) (fun w g0 g1 _ => ?_)).2
  have := (rlF_bd (L := lenD d) (r := r) (W := d 1) (n := d 0) (p := p) (i := i) (j := j) (B := 50) (by omega) hr g0 g1).2
  omega
theorem foldN_nn {f : Int → Bst → Bst} {i : Int} : ∀ (c : Nat) (b : Bst), 0 ≤ b.1 → (∀ (j : Int) (b : Bst), i < j → j ≤ i + c → 0 ≤ b.1 → 0 ≤ (f j b).1) → 0 ≤ (foldN f i c b).1
  | 0, _, hb, _ => hb
  | c + 1, b, hb, h => foldN_nn c (f (i + c + 1) b) (h (i + c + 1) b (by omega) (by omega) hb) (fun j b h0 h1 => h j b h0 (by omega))
theorem srF_nn {d : Int → Int} (hD : DOK d) {D : Int} : ∀ (t : Nat) (p i : Int) (r : Int → Int) (pr rv m : Int) (Q : Int → Int) (b : Bst), 0 ≤ i → i ≤ d 0 → 0 ≤ b.1 → 0 ≤ pr → 0 ≤ (srF d D t p i r pr rv m Q b).1
  | 0, _, _, _, _, _, _, _, b, _, _, hb, _ => hb
  | t + 1, p, i, r, pr, rv, m, Q, b, h0, h1, hb, hp => by
    by_cases hi : d 0 ≤ i
    · show 0 ≤ (if d 0 ≤ i then _ else _ : Bst).1
      rw [if_pos hi]
      split
      · exact hp
      · exact hb
    · rw [srF_S (by omega)]
      refine foldN_nn _ _ hb (fun j b g0 g1 hb => ?_)
      unfold stepF
      split
      · rename_i ho
        have := prD_bd hD h0 g0 (by omega) (okB_iff.mp ho.1).1
        exact srF_nn hD t i j _ _ _ _ _ b (by omega) (by omega) hb (by omega)
      · exact hb
theorem keep_sb {M : Mem} {pr m rv : Int} (h : SBd M 62) : SBd (mcpy (mset (mset (mset M 54 2 pr) 54 0 m) 54 1 rv) 78 76 24) 62 := by
  have e : ∀ q, q ≠ 54 → q ≠ 78 → mcpy (mset (mset (mset M 54 2 pr) 54 0 m) 54 1 rv) 78 76 24 q = M q := fun q h1 h2 => by rw [mcpy_ne h2, mset_nef h1, mset_nef h1, mset_nef h1]
  unfold SBd
  rw [e (62 + 4) (by decide) (by decide), e (62 + 6) (by decide) (by decide)]
  exact h
