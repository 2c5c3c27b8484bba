/-! ===== questions: what their answers are, in the reference's words ===== -/
theorem crel_lay {M M' N : Mem} (hf : ∀ q, q ≠ 47 → q ≠ 49 → q ≠ 51 → q ≠ 53 → M' q = M q) (hB : SBd M' 45) (hC : CRel M M) (hN : SM M N) : CRel M' N := by
  obtain ⟨n1, n2, n3, n4, n5⟩ := hN
  obtain ⟨h1, h2, h3, h4, h5, h6, h7⟩ := hC
  have g : ∀ q, q < 47 ∨ 53 < q → M' q = M q := fun q hq => hf q (by omega) (by omega) (by omega) (by omega)
  unfold CRel
  rw [n1, n2, n3, n4, n5]
  refine ⟨h1.congr (g _ (by decide)) (g _ (by decide)) (g _ (by decide)) (g _ (by decide)), h2, h3.congr (fun q _ q2 => g q (by omega)), h4.congr (g _ (by decide)) (g _ (by decide)), ?_, hB, h7.congr (g _ (by decide)) (g _ (by decide))⟩
  unfold SRel BRel
  rw [g 54 (by decide), g 78 (by decide)]
  exact h5
def LR (d : Int → Int) : Int := mx (fun _ => true) (RD d) 0 (d 0)
def badD (d : Int → Int) : Int := cnt (fun l => bdD d (sd d l) (sd d (l + 1))) (d 3)
def joD (d : Int → Int) : Int := cnt (fun w => if 2 ≤ abD d w then 1 else 0) (d 0)
def grD (d : Int → Int) : Int := cnt (fun q => if 0 < LR d ∧ RD d q = LR d then 1 else 0) (d 0)
def beD (d : Int → Int) (l w : Int) : Int := cnt (fun g => if mtD d g w = true then 1 else 0) (sd d (l + 2)) - cnt (fun g => if mtD d g w = true then 1 else 0) (sd d (l + 1))
def Ocount (M : Mem) (w r : Int) (N : Mem) : Prop := SM M N ∧ (w = 0 → r = M 83 0) ∧ (w = 1 → r = M 83 3) ∧ (w = 2 → r = M 83 1) ∧ (w = 3 → r = M 83 2) ∧ (w = 4 → r = badD (M 83)) ∧ (w = 5 → r = LR (M 83)) ∧ (w = 6 → r = M 83 0 - M 83 3) ∧ (w = 7 → r = joD (M 83)) ∧ (w = 8 → r = frc (M 83)) ∧ (w = 9 → r = M 82 2) ∧ (w = 10 → r = M 82 4) ∧ (w = 11 → r = grD (M 83)) ∧ (w < 0 ∨ 11 < w → r = -1)
def Oword (M : Mem) (k w r : Int) (N : Mem) : Prop := SM M N ∧ (¬ (0 ≤ k ∧ k < M 83 0) ∧ r = -1 ∨ (0 ≤ k ∧ k < M 83 0) ∧ (w = 0 → r = M 83 (4 + k)) ∧ (w = 1 → r = lnD (M 83) k) ∧ (w = 2 → r = CO (M 83) k) ∧ (w < 0 ∨ 2 < w → r = -1))
def Oline (M : Mem) (l w r : Int) (N : Mem) : Prop := SM M N ∧ (¬ isL (M 83) l ∧ r = -1 ∨ isL (M 83) l ∧ (w = 0 → r = sd (M 83) l) ∧ (w = 1 → r = sd (M 83) (l + 1) - sd (M 83) l) ∧ (w = 2 → r = exD (M 83) (sd (M 83) l) (sd (M 83) (l + 1))) ∧ (w = 3 → r = bdD (M 83) (sd (M 83) l) (sd (M 83) (l + 1))) ∧ (w = 4 → r = sd (M 83) (l + 1) - sd (M 83) l - 1) ∧ (w = 5 → r = M 83 (53 + l)) ∧ (w = 6 → r = mx (fun _ => true) (RD (M 83)) (sd (M 83) l) (sd (M 83) (l + 1))) ∧ (w < 0 ∨ 6 < w → r = -1))
def isG (d : Int → Int) (l g : Int) : Prop := isL d l ∧ 0 ≤ g ∧ g ≤ sd d (l + 1) - sd d l - 2
def Ogap (M : Mem) (l g w r : Int) (N : Mem) : Prop := SM M N ∧ (¬ isG (M 83) l g ∧ r = -1 ∨ isG (M 83) l g ∧ (w = 0 → r = GC (M 83) (sd (M 83) l + g)) ∧ (w = 1 → r = GV (M 83) (sd (M 83) l + g)) ∧ (w = 2 → r = RD (M 83) (sd (M 83) l + g)) ∧ (w = 3 → r = abD (M 83) (sd (M 83) l + g)) ∧ (w = 4 → r = beD (M 83) l (sd (M 83) l + g)) ∧ (w < 0 ∨ 4 < w → r = -1))
def inC (d : Int → Int) (w c : Int) : Prop := CO d w ≤ c ∧ c < CO d w + d (4 + w)
def Oat (M : Mem) (l c r : Int) (N : Mem) : Prop := SM M N ∧ (¬ (isL (M 83) l ∧ 0 ≤ c ∧ c ≤ M 83 1 - 1) ∧ r = -1 ∨ (isL (M 83) l ∧ 0 ≤ c ∧ c ≤ M 83 1 - 1) ∧ (sd (M 83) l ≤ r ∧ r < sd (M 83) (l + 1) ∧ inC (M 83) r c ∧ (∀ w, sd (M 83) l ≤ w → w < r → ¬ inC (M 83) w c) ∨ r = -4 ∧ ∀ w, sd (M 83) l ≤ w → w < sd (M 83) (l + 1) → ¬ inC (M 83) w c))
def nxD (d : Int → Int) (b g : Int) : Prop := mtD d g b = true ∧ RD d g = RD d b - 1
def StepR (d : Int → Int) (b g : Int) : Prop := prv d (lnD d b) ≤ g ∧ g < sd d (lnD d b) ∧ nxD d b g ∧ ∀ x, prv d (lnD d b) ≤ x → x < g → ¬ nxD d b x
def FstR (d : Int → Int) (b : Int) : Prop := 0 ≤ b ∧ b < d 0 ∧ RD d b = LR d ∧ ∀ x, 0 ≤ x → x < b → RD d x ≠ LR d
def RivR (d : Int → Int) (i b : Int) : Prop := ∃ f : Int → Int, FstR d (f 0) ∧ (∀ k, 0 ≤ k → k < i → StepR d (f k) (f (k + 1))) ∧ f i = b
def Oriver (M : Mem) (i w r : Int) (N : Mem) : Prop := SM M N ∧ (¬ (0 ≤ i ∧ 0 ≤ w ∧ w ≤ 1) ∧ r = -1 ∨ (0 ≤ i ∧ 0 ≤ w ∧ w ≤ 1) ∧ LR (M 83) ≤ i ∧ r = -4 ∨ (0 ≤ i ∧ 0 ≤ w ∧ w ≤ 1) ∧ i < LR (M 83) ∧ ∃ b, RivR (M 83) i b ∧ r = if w = 0 then lnD (M 83) b else b - sd (M 83) (lnD (M 83) b))
theorem StepR.uniq {d : Int → Int} {b x y : Int} (hx : StepR d b x) (hy : StepR d b y) : x = y := by
  by_cases h1 : x < y
  · exact absurd hx.2.2.1 (hy.2.2.2 x hx.1 h1)
  · by_cases h2 : y < x
    · exact absurd hy.2.2.1 (hx.2.2.2 y hy.1 h2)
    · omega
theorem FstR.uniq {d : Int → Int} {x y : Int} (hx : FstR d x) (hy : FstR d y) : x = y := by
  by_cases h1 : x < y
  · exact absurd hx.2.2.1 (hy.2.2.2 x hx.1 h1)
  · by_cases h2 : y < x
    · exact absurd hy.2.2.1 (hx.2.2.2 y hy.1 h2)
    · omega
theorem RivR.uniq {d : Int → Int} {i x y : Int} (hi : 0 ≤ i) (hx : RivR d i x) (hy : RivR d i y) : x = y := by
  obtain ⟨f, f0, f1, f2⟩ := hx
  obtain ⟨g, g0, g1, g2⟩ := hy
  have key : ∀ k : Nat, (k : Int) ≤ i → f k = g k := by
    intro k
    induction k with
    | zero => intro _; exact f0.uniq g0
    | succ k ih =>
      intro hk
      have ih := ih (by omega)
      have h1 := f1 k (by omega) (by omega)
      have h2 := g1 k (by omega) (by omega)
      rw [← ih] at h2
      exact h1.uniq h2
  have := key i.toNat (by omega)
  rw [Int.toNat_of_nonneg hi] at this
  omega
theorem lnD_seg {d : Int → Int} (hD : DOK d) {w : Int} (h0 : 0 ≤ w) (h1 : w < d 0) : 0 ≤ lnD d w ∧ lnD d w < d 3 ∧ sd d (lnD d w) ≤ w ∧ w < sd d (lnD d w + 1) := by
  obtain ⟨l, a1, a2, a3, a4⟩ := hD.seg h0 h1
  rw [lnD_eq hD a1 a2 a3 a4]
  exact ⟨a1, a2, a3, a4⟩
/-- a gap's reach is one more than that of a gap above that it meets -/
theorem step_ex {d : Int → Int} (hD : DOK d) {b : Int} (h0 : 0 ≤ b) (h1 : b < d 0) (hr : 2 ≤ RD d b) : ∃ g, prv d (lnD d b) ≤ g ∧ g < sd d (lnD d b) ∧ nxD d b g := by
  obtain ⟨a1, a2, a3, a4⟩ := lnD_seg hD h0 h1
  have hL := hD.L24
  have hpr := hD.prvle a1 a2
  have eb : RD d b = rlF (lenD d) (d 1) (d 0) (prv d (lnD d b)) (sd d (lnD d b)) (sd d (lnD d b + 1)) (RN d (lnD d b).toNat) b := by
    rw [RD_line hD a1 a2 a4, RN_S d a1]
  by_cases hlast : b < sd d (lnD d b + 1) - 1
  · unfold rlF at eb
    rw [if_pos ⟨a3, hlast⟩] at eb
    rcases mx_at (f := fun g => gmt (lenD d) (d 1) (d 0) (prv d (lnD d b)) (sd d (lnD d b)) (sd d (lnD d b + 1)) g b) (r := RN d (lnD d b).toNat) (a := prv d (lnD d b)) (e := sd d (lnD d b) - 1) with z | ⟨g, g0, g1, g2, g3⟩
    · rw [z] at eb; omega
    · have hl0 : lnD d b ≠ 0 := by
        intro z
        unfold prv at g0
        rw [if_pos z] at g0
        rw [z, hD.2.2.2.2.2.1] at g1
        omega
      have hpe : prv d (lnD d b) = sd d (lnD d b - 1) := if_neg hl0
      have egl : lnD d g = lnD d b - 1 := lnD_eq hD (by omega) (by omega) (by omega) (by rw [show lnD d b - 1 + 1 = lnD d b by omega]; omega)
      refine ⟨g, g0, by omega, ?_, ?_⟩
      · unfold mtD GC GV
        rw [egl, show lnD d b - 1 + 1 = lnD d b by omega, ← hpe]
        exact g2
      · rw [RD_before hD a1 (by omega) (show g < sd d (lnD d b) by omega), g3, eb]; omega
  · have : RN d (lnD d b).toNat.succ b = 0 := by
      have := RN_last hD a1 a2 ((lnD d b).toNat + 1) (by omega)
      rw [show sd d (lnD d b + 1) - 1 = b by omega] at this
      exact this
    rw [RD_line hD a1 a2 a4] at hr
    have e : RN d ((lnD d b).toNat + 1) b = 0 := this
    omega
theorem LR_bd {d : Int → Int} (hD : DOK d) : 0 ≤ LR d ∧ LR d ≤ 24 := mx_bd (by omega) (fun w _ _ _ => (RD_bd d ⟨hD.L24.1, hD.L24.2.2⟩ w).2)
theorem RivR.reach {d : Int → Int} (hD : DOK d) {i : Int} {f : Int → Int} (f0 : FstR d (f 0)) (f1 : ∀ k, 0 ≤ k → k < i → StepR d (f k) (f (k + 1))) : ∀ k : Nat, (k : Int) ≤ i → 0 ≤ f k ∧ f k < d 0 ∧ RD d (f k) = LR d - k := by
  intro k
  induction k with
  | zero => intro _; exact ⟨f0.1, f0.2.1, by rw [show LR d - ((0 : Nat) : Int) = LR d by omega]; exact f0.2.2.1⟩
  | succ k ih =>
    intro hk
    obtain ⟨i0, i1, i2⟩ := ih (by omega)
    have hs := f1 k (by omega) (by omega)
    obtain ⟨a1, a2, a3, a4⟩ := lnD_seg hD i0 i1
    have hpr := hD.prvle a1 a2
    rw [show ((k + 1 : Nat) : Int) = (k : Int) + 1 by omega]
    exact ⟨by have := hs.1; omega, by have := hs.2.1; omega, by rw [hs.2.2.1.2, i2]; omega⟩
theorem ab_eq {N : Mem} {c : Nat} {d : Int → Int} (hD : DOK d) (hl : AllL N c d (d 3)) {w : Int} (h0 : 0 ≤ w) (h1 : w < d 0) : cnt (fun q => if mtB (N (c + 4) q) (N (c + 6) q) (N (c + 4) w) (N (c + 6) w) = true then 1 else 0) (sd d (lnD d w)) - cnt (fun q => if mtB (N (c + 4) q) (N (c + 6) q) (N (c + 4) w) (N (c + 6) w) = true then 1 else 0) (prv d (lnD d w)) = abD d w := by
  obtain ⟨a1, a2, a3, a4⟩ := lnD_seg hD h0 h1
  have hpr := hD.prvle a1 a2
  have hw := hl.rows hD h0 h1
  have e : ∀ t, t ≤ d 0 → cnt (fun q => if mtB (N (c + 4) q) (N (c + 6) q) (N (c + 4) w) (N (c + 6) w) = true then 1 else 0) t = cnt (fun g => if mtD d g w = true then 1 else 0) t := fun t ht => cnt_congr (fun g g0 g1 => by
    have hg := hl.rows hD g0 (show g < d 0 by omega)
    show (if mtB (N (c + 4) g) (N (c + 6) g) (N (c + 4) w) (N (c + 6) w) = true then (1 : Int) else 0) = if mtD d g w = true then 1 else 0
    unfold mtD
    rw [hg.2.1, hg.2.2, hw.2.1, hw.2.2])
  unfold abD
  rw [e _ (by omega), e _ (by omega)]
theorem mt_cnt {N : Mem} {c : Nat} {d : Int → Int} (hD : DOK d) (hl : AllL N c d (d 3)) {w t : Int} (h0 : 0 ≤ w) (h1 : w < d 0) (ht : t ≤ d 0) : cnt (fun q => if mtB (N (c + 4) q) (N (c + 6) q) (N (c + 4) w) (N (c + 6) w) = true then 1 else 0) t = cnt (fun g => if mtD d g w = true then 1 else 0) t := cnt_congr (fun g g0 g1 => by
    have hg := hl.rows hD g0 (show g < d 0 by omega)
    have hw := hl.rows hD h0 h1
    show (if mtB (N (c + 4) g) (N (c + 6) g) (N (c + 4) w) (N (c + 6) w) = true then (1 : Int) else 0) = if mtD d g w = true then 1 else 0
    unfold mtD
    rw [hg.2.1, hg.2.2, hw.2.1, hw.2.2])
theorem first_reach {N : Int → Int} {d : Int → Int} (hD : DOK d) (hr : ∀ w, 0 ≤ w → w < d 0 → N w = RD d w) (h : 0 < LR d) {x : Int} (hx : (0 ≤ x ∧ x < d 0 ∧ N x = LR d ∧ ∀ w, 0 ≤ w → w < x → N w ≠ LR d) ∨ x = 0 ∧ ∀ w, 0 ≤ w → w < d 0 → N w ≠ LR d) : FstR d x := by
  rcases hx with ⟨a1, a2, a3, a4⟩ | ⟨-, a2⟩
  · exact ⟨a1, a2, by rw [← hr x a1 a2]; exact a3, fun w q0 q1 => by rw [← hr w q0 (by omega)]; exact a4 w q0 q1⟩
  · rcases mx_at (f := fun _ => true) (r := RD d) (a := 0) (e := d 0) with z | ⟨w, w0, w1, -, w3⟩
    · have : LR d = 0 := z; omega
    · exact absurd (by rw [hr w w0 w1]; exact w3) (a2 w w0 w1)
theorem CO_bd {M : Mem} {c : Nat} {d : Int → Int} (hR : PRel M c d) (hD : DOK d) {w : Int} (h0 : 0 ≤ w) (h1 : w < d 0) : 0 ≤ CO d w ∧ CO d w ≤ 2000 := by
  obtain ⟨a1, a2, a3, a4⟩ := lnD_seg hD h0 h1
  have hn := hD.1
  have hW := hD.2.1
  have hb1 := hD.bdall (l := lnD d w + 1) (by omega)
  have hb0 := hD.bdall a1
  have hx := (hD.2.2.2.2.2.2 _ a1 a2).2.2
  unfold CO
  rw [← (lcol_congr (L := M (c + 2)) (K := lenD d) hR.2.2.2.2.2.1 hb0.1 hb1.2 a3 a4).1]
  unfold lcol
  have e := exF_congr (L := M (c + 2)) (K := lenD d) (W := d 1) (n := d 0) hR.2.2.2.2.2.1 hb0.2 hb1.2
  have := colF_bd (L := M (c + 2)) (x := lexF (M (c + 2)) (d 1) (d 0) (sd d (lnD d w)) (sd d (lnD d w + 1))) (i := sd d (lnD d w)) (j := sd d (lnD d w + 1)) (w := w) (lexF_bd (W := d 1) (n := d 0) hR.2.2.2.2.1 (by omega) hb0.1 (by omega) (by omega) (Or.inr (by rw [e]; exact hx))) hR.2.2.2.2.1 hb0.1 a3 (show w ≤ 24 by omega)
  omega
