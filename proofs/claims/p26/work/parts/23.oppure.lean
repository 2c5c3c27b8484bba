/-! ===== what each call does to the reference's cells: relations of memories before and after ===== -/
def dset (d : Int → Int) (i v : Int) : Int → Int := fun j => if j = i then v else d j
theorem dset_at {d : Int → Int} {i v : Int} : dset d i v i = v := if_pos rfl
theorem dset_ne {d : Int → Int} {i v j : Int} (h : j ≠ i) : dset d i v j = d j := if_neg h
def SM (M N : Mem) : Prop := N 83 = M 83 ∧ N 84 = M 84 ∧ N 85 = M 85 ∧ N 82 2 = M 82 2 ∧ N 82 4 = M 82 4
def TS (M N : Mem) : Prop := N 85 = M 85 ∧ N 82 4 = M 82 4
def frc (d : Int → Int) : Int := cnt (fun l => d (53 + l)) (d 3)
def FillP (d e : Int → Int) : Prop := e 0 = d 0 ∧ e 1 = d 1 ∧ e 2 = d 2 ∧ (∀ w, 0 ≤ w → w < 24 → e (4 + w) = d (4 + w)) ∧ 0 ≤ e 3 ∧ e 3 ≤ 24 ∧ (∀ l, 0 ≤ l → l < e 3 → e (53 + l) = 0) ∧ sd e 0 = 0 ∧ ∀ l, 0 ≤ l → l < e 3 → sd e l < sd e (l + 1) ∧ 0 ≤ exF (lenD d) (d 1) (sd e l) (sd e (l + 1)) ∧ (sd e (l + 1) = d 0 ∨ exF (lenD d) (d 1) (sd e l) (sd e (l + 1) + 1) < 0)
def OsetWidth (M : Mem) (w r : Int) (N : Mem) : Prop := (¬ (16 ≤ w ∧ w ≤ 40) ∧ r = -1 ∧ SM M N) ∨ ((16 ≤ w ∧ w ≤ 40) ∧ 0 < frc (M 83) ∧ r = -2 ∧ SM M N) ∨ ((16 ≤ w ∧ w ≤ 40) ∧ frc (M 83) ≤ 0 ∧ RecP M N ∧ TS M N ∧ FillP (dset (M 83) 1 w) (N 83) ∧ r = N 83 3)
def OsetSlack (M : Mem) (s r : Int) (N : Mem) : Prop := (¬ (0 ≤ s ∧ s ≤ 8) ∧ r = -1 ∧ SM M N) ∨ ((0 ≤ s ∧ s ≤ 8) ∧ RecP M N ∧ TS M N ∧ Ag (dset (M 83) 2 s) (N 83) ∧ r = M 83 2)
def addW (d : Int → Int) (k : Int) : Int → Int := dset (dset d (4 + d 0) k) 0 (d 0 + 1)
def newL (d : Int → Int) (k : Int) : Prop := d 3 ≤ 0 ∨ d (53 + (d 3 - 1)) = 1 ∨ exF (lenD (addW d k)) (d 1) (d (28 + (d 3 - 1))) (d 0 + 1) < 0
def Oadd (M : Mem) (k r : Int) (N : Mem) : Prop := (¬ (1 ≤ k ∧ k ≤ 8) ∧ r = -1 ∧ SM M N) ∨ ((1 ≤ k ∧ k ≤ 8) ∧ 24 ≤ M 83 0 ∧ r = -3 ∧ SM M N) ∨
  ((1 ≤ k ∧ k ≤ 8) ∧ M 83 0 < 24 ∧ RecP M N ∧ TS M N ∧ (newL (M 83) k ∧ Ag (dset (dset (dset (addW (M 83) k) (28 + M 83 3) (M 83 0)) (53 + M 83 3) 0) 3 (M 83 3 + 1)) (N 83) ∨ ¬ newL (M 83) k ∧ Ag (addW (M 83) k) (N 83)) ∧ r = M 83 0)
def Oremove (M : Mem) (r : Int) (N : Mem) : Prop := ((M 83 3 ≤ 0 ∨ M 83 (53 + (M 83 3 - 1)) = 1) ∧ r = -2 ∧ SM M N) ∨
  (0 < M 83 3 ∧ M 83 (53 + (M 83 3 - 1)) ≠ 1 ∧ RecP M N ∧ TS M N ∧ Ag (dset (dset (M 83) 0 (M 83 0 - 1)) 3 (M 83 3 - (if M 83 (28 + (M 83 3 - 1)) = M 83 0 - 1 then 1 else 0))) (N 83) ∧ r = M 83 0 - 1)
def isL (d : Int → Int) (l : Int) : Prop := 0 ≤ l ∧ l < d 3
def noPull (d : Int → Int) (l : Int) : Prop := l + 1 = d 3 ∨ d (53 + l) = 1 ∨ d (53 + (l + 1)) = 1 ∨ exD d (sd d l) (sd d (l + 1) + 1) < 0
/-- lines behind the line l moved one place up -/
def shiftD (d : Int → Int) (l : Int) : Int → Int := fun j => if j = 3 then d 3 - 1 else if 28 + (l + 1) ≤ j ∧ j < 28 + (d 3 - 1) then d (j + 1) else if 53 + (l + 1) ≤ j ∧ j < 53 + (d 3 - 1) then d (j + 1) else d j
def Opull (M : Mem) (l r : Int) (N : Mem) : Prop := (¬ isL (M 83) l ∧ r = -1 ∧ SM M N) ∨ (isL (M 83) l ∧ noPull (M 83) l ∧ r = -2 ∧ SM M N) ∨
  (isL (M 83) l ∧ ¬ noPull (M 83) l ∧ RecP M N ∧ TS M N ∧ (sd (M 83) (l + 1) + 1 = sd (M 83) (l + 2) ∧ (∀ j, 0 ≤ j → j < 77 → j ≠ 28 + (M 83 3 - 1) → shiftD (M 83) l j = N 83 j) ∨ sd (M 83) (l + 1) + 1 ≠ sd (M 83) (l + 2) ∧ Ag (dset (M 83) (28 + (l + 1)) (sd (M 83) (l + 1) + 1)) (N 83)) ∧ r = N 83 3)
def noPush (d : Int → Int) (l : Int) : Prop := sd d (l + 1) - 1 = sd d l ∨ d (53 + l) = 1 ∨ l + 1 ≠ d 3 ∧ (d (53 + (l + 1)) = 1 ∨ exD d (sd d (l + 1) - 1) (sd d (l + 2)) < 0)
def Opush (M : Mem) (l r : Int) (N : Mem) : Prop := (¬ isL (M 83) l ∧ r = -1 ∧ SM M N) ∨ (isL (M 83) l ∧ noPush (M 83) l ∧ r = -2 ∧ SM M N) ∨
  (isL (M 83) l ∧ ¬ noPush (M 83) l ∧ RecP M N ∧ TS M N ∧ (l + 1 = M 83 3 ∧ Ag (dset (dset (dset (M 83) (28 + (l + 1)) (M 83 0 - 1)) (53 + (l + 1)) 0) 3 (M 83 3 + 1)) (N 83) ∨ l + 1 ≠ M 83 3 ∧ Ag (dset (M 83) (28 + (l + 1)) (sd (M 83) (l + 1) - 1)) (N 83)) ∧ r = N 83 3)
def Ofreeze (M : Mem) (l v r : Int) (N : Mem) : Prop := (¬ (isL (M 83) l ∧ 0 ≤ v ∧ v ≤ 1) ∧ r = -1 ∧ SM M N) ∨ ((isL (M 83) l ∧ 0 ≤ v ∧ v ≤ 1) ∧ RecP M N ∧ TS M N ∧ Ag (dset (M 83) (53 + l) v) (N 83) ∧ r = M 83 (53 + l))
def Oreflow (M : Mem) (r : Int) (N : Mem) : Prop := (0 < frc (M 83) ∧ r = -2 ∧ SM M N) ∨ (frc (M 83) ≤ 0 ∧ RecP M N ∧ TS M N ∧ FillP (M 83) (N 83) ∧ r = N 83 3)
theorem CRel.same {M M2 N : Mem} (h : CRel M M) (hf : ∀ q, q < 82 → M2 q = M q) (hN : SM M N) : CRel M2 N := by
  obtain ⟨n1, n2, n3, n4, n5⟩ := hN
  obtain ⟨h1, h2, h3, h4, h5, h6, h7⟩ := h
  unfold CRel
  rw [n1, n2, n3, n4, n5]
  refine ⟨h1.congr (hf _ (by decide)) (hf _ (by decide)) (hf _ (by decide)) (hf _ (by decide)), h2, h3.congr (fun q _ q2 => hf q (by omega)), h4.congr (hf _ (by decide)) (hf _ (by decide)), ?_, h6.congr (hf _ (by decide)) (hf _ (by decide)), h7.congr (hf _ (by decide)) (hf _ (by decide))⟩
  unfold SRel BRel
  rw [hf 54 (by decide), hf 78 (by decide)]
  exact h5
/-- the number of frozen lines, counted by words -/
theorem frc_eq {M : Mem} {c : Nat} {d : Int → Int} (hR : PRel M c d) (hD : DOK d) : cnt (M (c + 6)) (d 0) = frc d := by
  have hL := hD.L24
  have key : ∀ k : Nat, (k : Int) ≤ d 3 → cnt (M (c + 6)) (sd d k) = cnt (fun l => d (53 + l)) k := by
    intro k
    induction k with
    | zero => intro _; show cnt (M (c + 6)) (sd d 0) = cnt _ 0; rw [hD.2.2.2.2.2.1, cnt_0, cnt_0]
    | succ k ih =>
      intro hk
      have ih := ih (by omega)
      have hl := hD.2.2.2.2.2.2 k (by omega) (by omega)
      have hb := hD.bdall (l := (k : Int)) (by omega)
      have hb1 := hD.bdall (l := (k : Int) + 1) (by omega)
      have hn := hD.1
      rw [show ((k + 1 : Nat) : Int) = (k : Int) + 1 by omega, cnt_s _ (by omega), ← ih]
      have inner : ∀ j : Nat, sd d k + j < sd d (k + 1) → cnt (M (c + 6)) (sd d k + j + 1) = cnt (M (c + 6)) (sd d k) + d (53 + k) := by
        intro j
        induction j with
        | zero => intro _; rw [show sd d k + ((0 : Nat) : Int) + 1 = sd d k + 1 by omega, cnt_s _ (by omega), hR.2.2.2.2.2.2.1 k (by omega) (by omega)]
        | succ j ihj =>
          intro hj
          rw [show sd d k + ((j + 1 : Nat) : Int) + 1 = (sd d k + j + 1) + 1 by omega, cnt_s _ (by omega), ihj (by omega), hR.2.2.2.2.2.2.2.1 _ (by omega) (by omega) (by rw [(hR.2.2.2.1.2.2.2 k (by omega) (by omega)).2.2 _ (by omega) (by omega)]; omega)]
          omega
      have := inner (sd d (k + 1) - sd d k - 1).toNat (by omega)
      rw [show sd d k + ((sd d (k + 1) - sd d k - 1).toNat : Int) + 1 = sd d (k + 1) by omega] at this
      exact this
  have h := key (d 3).toNat (by omega)
  rw [show ((d 3).toNat : Int) = d 3 by omega, sd_L (Int.le_refl _)] at h
  exact h
theorem frc_bd {d : Int → Int} (hD : DOK d) : 0 ≤ frc d ∧ frc d ≤ 24 := by
  have hL := hD.L24
  have h := cnt_mono (f := fun l => d (53 + l)) (lo := 0) (hi := 1) (a := 0) (by omega) (d 3).toNat (fun j g0 g1 => by
    have := (hD.2.2.2.2.2.2 j g0 (by omega)).2.1
    show 0 ≤ d (53 + j) ∧ d (53 + j) ≤ 1
    omega)
  rw [cnt_0, show 0 + ((d 3).toNat : Int) = d 3 by omega] at h
  unfold frc
  omega
theorem exF_anti {L : Int → Int} {W f t u : Int} (ht : 0 ≤ t) (htu : t ≤ u) (h : ∀ j, t ≤ j → j < u → 0 ≤ L j ∧ L j ≤ 8) : exF L W f u ≤ exF L W f t := by
  have hc := cnt_bd (f := L) ht htu h
  unfold exF
  omega
/-- greedy lines: what filling the page by words and filling the reference by lines have in common -/
theorem fill_rel {d e : Int → Int} {b : Int → Int} (hF : FillP d e) (hn : 0 ≤ d 0 ∧ d 0 ≤ 24) (hlen : ∀ w, 0 ≤ w → w < d 0 → 0 ≤ lenD d w ∧ lenD d w ≤ 8) (hb : ∀ j, 0 ≤ j → j < 24 → b j = if j < d 0 ∧ ffst (lenD d) (d 1) (j + 1) = j then 1 else 0) : Lines b (d 0) (e 3) (sd e) := by
  obtain ⟨f0, f1, f2, f3, f4, f4b, f5, f6, f7⟩ := hF
  have mono : ∀ (k : Nat), (k : Int) ≤ e 3 → (k : Int) ≤ sd e k := by
    intro k
    induction k with
    | zero => intro _; show (0 : Int) ≤ sd e 0; omega
    | succ k ih =>
      intro hk
      have := ih (by omega)
      have h2 := (f7 k (by omega) (by omega)).1
      rw [show ((k + 1 : Nat) : Int) = (k : Int) + 1 by omega]
      omega
  have up : ∀ (m : Nat) (l : Int), 0 ≤ l → l + m = e 3 → sd e l ≤ d 0 := by
    intro m
    induction m with
    | zero => intro l h0 h1; rw [show l = e 3 by omega, sd_L (Int.le_refl _), f0]; omega
    | succ m ih =>
      intro l h0 h1
      have := ih (l + 1) (by omega) (by omega)
      have h2 := (f7 l h0 (by omega)).1
      omega
  have bd : ∀ l, 0 ≤ l → l ≤ e 3 → 0 ≤ sd e l ∧ sd e l ≤ d 0 := fun l h0 h1 => ⟨by have := mono l.toNat (by omega); rw [show (l.toNat : Int) = l by omega] at this; omega, up (e 3 - l).toNat l h0 (by omega)⟩
  have ff : ∀ (l : Int), 0 ≤ l → l < e 3 → (ffst (lenD d) (d 1) (sd e l + 1) = sd e l) → ∀ m : Nat, sd e l + m < sd e (l + 1) → ffst (lenD d) (d 1) (sd e l + m + 1) = sd e l := by
    intro l h0 h1 hs m
    have hl := f7 l h0 h1
    have hb0 := bd l h0 (by omega)
    have hb1 := bd (l + 1) (by omega) (by omega)
    induction m with
    | zero => intro _; rw [show sd e l + ((0 : Nat) : Int) + 1 = sd e l + 1 by omega]; exact hs
    | succ m ih =>
      intro hm
      have ih := ih (by omega)
      rw [show sd e l + ((m + 1 : Nat) : Int) + 1 = (sd e l + m + 1) + 1 by omega, ffst_s _ _ (by omega), ih, if_neg]
      have := exF_anti (L := lenD d) (W := d 1) (f := sd e l) (t := sd e l + m + 1 + 1) (u := sd e (l + 1)) (by omega) (by omega) (fun j g0 g1 => hlen j (by omega) (by omega))
      omega
  have F : ∀ (k : Nat), (k : Int) < e 3 → ffst (lenD d) (d 1) (sd e k + 1) = sd e k := by
    intro k
    induction k with
    | zero =>
      intro _
      show ffst _ _ (sd e 0 + 1) = sd e 0
      rw [f6, ffst_s _ _ (by omega), ffst_0]
      split <;> rfl
    | succ k ih =>
      intro hk
      have ih := ih (by omega)
      have hl := f7 k (by omega) (by omega)
      have hb0 := bd k (by omega) (by omega)
      have hl2 := (f7 (k + 1) (by omega) (by omega)).1
      have hb2 := bd (k + 1 + 1) (by omega) (by omega)
      have h1 := ff k (by omega) (by omega) ih (sd e (k + 1) - sd e k - 1).toNat (by omega)
      rw [show sd e k + ((sd e (k + 1) - sd e k - 1).toNat : Int) + 1 = sd e (k + 1) by omega] at h1
      rw [show ((k + 1 : Nat) : Int) = (k : Int) + 1 by omega, ffst_s _ _ (by omega), h1, if_pos (by omega)]
  refine ⟨f4, f6, by rw [sd_L (Int.le_refl _), f0], fun l h0 h1 => ?_⟩
  have hl := f7 l h0 h1
  have hb0 := bd l h0 (by omega)
  have hb1 := bd (l + 1) (by omega) (by omega)
  have hF := F l.toNat (by omega)
  rw [show (l.toNat : Int) = l by omega] at hF
  refine ⟨hl.1, by rw [hb _ hb0.1 (by omega), if_pos ⟨by omega, hF⟩], fun w g0 g1 => ?_⟩
  have h2 := ff l h0 h1 hF (w - sd e l).toNat (by omega)
  rw [show sd e l + ((w - sd e l).toNat : Int) + 1 = w + 1 by omega] at h2
  rw [hb w (by omega) (by omega), if_neg (fun z => by omega)]
theorem FillP.ok {d e : Int → Int} (hF : FillP d e) (hn : 0 ≤ d 0 ∧ d 0 ≤ 24) (hW : 16 ≤ d 1 ∧ d 1 ≤ 40) (hS : 0 ≤ d 2 ∧ d 2 ≤ 8) (hlen : ∀ w, 0 ≤ w → w < d 0 → 1 ≤ d (4 + w) ∧ d (4 + w) ≤ 8) : DOK e := by
  obtain ⟨f0, f1, f2, f3, f4, f4b, f5, f6, f7⟩ := hF
  refine ⟨by omega, by omega, by omega, f4, fun w h0 h1 => by rw [f3 w h0 (by omega)]; exact hlen w h0 (by omega), f6, fun l h0 h1 => ⟨(f7 l h0 h1).1, Or.inl (f5 l h0 h1), ?_⟩⟩
  have up : ∀ (m : Nat) (l : Int), 0 ≤ l → l + m = e 3 → sd e l ≤ d 0 := by
    intro m
    induction m with
    | zero => intro l h0 h1; rw [show l = e 3 by omega, sd_L (Int.le_refl _), f0]; omega
    | succ m ih =>
      intro l h0 h1
      have := ih (l + 1) (by omega) (by omega)
      have h2 := (f7 l h0 (by omega)).1
      omega
  have u1 := up (e 3 - (l + 1)).toNat (l + 1) (by omega) (by omega)
  have u0 := (f7 l h0 h1).1
  have := exF_congr (L := lenD e) (K := lenD d) (W := d 1) (n := d 0) (f := sd e l) (t := sd e (l + 1)) (fun w g0 g1 => f3 w g0 (by omega)) (by omega) u1
  rw [f1, this]
  exact (f7 l h0 h1).2.1
/-- the page after a fill -/
theorem fill_page {M N : Mem} {d e : Int → Int} (hF : FillP d e) (hn : 0 ≤ d 0 ∧ d 0 ≤ 24) (hlen : ∀ w, 0 ≤ w → w < d 0 → 1 ≤ d (4 + w) ∧ d (4 + w) ≤ 8) (h0 : M 1 0 = d 1) (h1 : M 1 1 = d 2) (h2 : M 1 2 = d 0) (hl8 : ∀ w, 0 ≤ w → w < 24 → 0 ≤ M 3 w ∧ M 3 w ≤ 8) (hl : ∀ w, 0 ≤ w → w < d 0 → M 3 w = d (4 + w)) (hz : ∀ w, 0 ≤ w → w < 24 → M 7 w = 0) (hf : ∀ q, q ≠ 5 → N q = M q) (hb : ∀ j, 0 ≤ j → j < 24 → N 5 j = if j < M 1 2 ∧ ffst (M 3) (M 1 0) (j + 1) = j then 1 else 0) : PRel N 1 e := by
  have hb2 : ∀ j, 0 ≤ j → j < 24 → N 5 j = if j < d 0 ∧ ffst (lenD d) (d 1) (j + 1) = j then 1 else 0 := by
    intro j g0 g1
    rw [hb j g0 g1, h2, h0]
    by_cases hj : j < d 0
    · rw [ffst_congr (L := M 3) (K := lenD d) (n := d 0) hl (k := j + 1) (by omega) (by omega)]
    · rw [if_neg (fun z => hj z.1), if_neg (fun z => hj z.1)]
  have hL := fill_rel hF hn (fun w g0 g1 => by have := hlen w g0 g1; unfold lenD; omega) hb2
  obtain ⟨f0, f1, f2, f3, f4, f4b, f5, f6, f7⟩ := hF
  unfold PRel
  rw [hf 1 (by decide), hf (1 + 2) (by decide), hf (1 + 6) (by decide)]
  refine ⟨by rw [f1]; exact h0, by rw [f2]; exact h1, by rw [f0]; exact h2, by rw [f0]; exact hL, hl8, fun w g0 g1 => by rw [f3 w g0 (by omega)]; exact hl w g0 (by omega), fun l g0 g1 => ?_, fun w g0 g1 _ => hz w g0 g1, fun w g0 g1 => by show N 5 w = 0; rw [hb2 w (by omega) g1, if_neg (fun z => by omega)]⟩
  have b0 := hL.bd (l := l) g0 (by omega)
  have b1 := hL.bd (l := l + 1) (by omega) (by omega)
  have u0 := (f7 l g0 g1).1
  rw [f5 l g0 g1]
  exact hz _ (by omega) (by omega)
