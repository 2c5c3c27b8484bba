/-! ===== the page as the reference's array d: 0 words, 1 width, 2 slack, 3 lines, 4.. lengths, 28.. first words, 53.. frozen ===== -/
def lenD (d : Int → Int) : Int → Int := fun w => d (4 + w)
def sd (d : Int → Int) (l : Int) : Int := if l < d 3 then d (28 + l) else d 0
def prv (d : Int → Int) (l : Int) : Int := if l = 0 then 0 else sd d (l - 1)
def DOK (d : Int → Int) : Prop := (0 ≤ d 0 ∧ d 0 ≤ 24) ∧ (16 ≤ d 1 ∧ d 1 ≤ 40) ∧ (0 ≤ d 2 ∧ d 2 ≤ 8) ∧ 0 ≤ d 3 ∧ (∀ w, 0 ≤ w → w < d 0 → 1 ≤ d (4 + w) ∧ d (4 + w) ≤ 8) ∧ sd d 0 = 0 ∧ ∀ l, 0 ≤ l → l < d 3 → sd d l < sd d (l + 1) ∧ (d (53 + l) = 0 ∨ d (53 + l) = 1) ∧ 0 ≤ exF (lenD d) (d 1) (sd d l) (sd d (l + 1))
theorem sd_L {d : Int → Int} {l : Int} (h : d 3 ≤ l) : sd d l = d 0 := if_neg (by omega)
theorem sd_in {d : Int → Int} {l : Int} (h : l < d 3) : sd d l = d (28 + l) := if_pos h
theorem DOK.mono {d : Int → Int} (h : DOK d) {x : Int} (hx : 0 ≤ x) : ∀ (k : Nat), x + k ≤ d 3 → sd d x + k ≤ sd d (x + k)
  | 0, _ => by simp
  | k + 1, hk => by
    have ih := h.mono hx k (by omega)
    have h1 := (h.2.2.2.2.2.2 (x + k) (by omega) (by omega)).1
    rw [show x + ((k + 1 : Nat) : Int) = x + k + 1 by omega]
    omega
theorem DOK.le {d : Int → Int} (h : DOK d) {x y : Int} (hx : 0 ≤ x) (hxy : x ≤ y) (hy : y ≤ d 3) : sd d x + (y - x) ≤ sd d y := by
  have h1 := h.mono hx (y - x).toNat (by omega)
  rw [show x + ((y - x).toNat : Int) = y by omega, show ((y - x).toNat : Int) = y - x by omega] at h1
  exact h1
theorem DOK.bd {d : Int → Int} (h : DOK d) {l : Int} (h0 : 0 ≤ l) (h1 : l ≤ d 3) : l ≤ sd d l ∧ sd d l ≤ d 0 - (d 3 - l) := by
  have h2 := h.le (x := 0) (y := l) (by omega) h0 h1
  have h3 := h.le (x := l) (y := d 3) h0 h1 (by omega)
  rw [h.2.2.2.2.2.1] at h2
  rw [sd_L (Int.le_refl _)] at h3
  omega
theorem DOK.bdall {d : Int → Int} (h : DOK d) {l : Int} (h0 : 0 ≤ l) : 0 ≤ sd d l ∧ sd d l ≤ d 0 := by
  by_cases h1 : l ≤ d 3
  · have := h.bd h0 h1; omega
  · rw [sd_L (by omega)]; have := h.1; omega
theorem DOK.L24 {d : Int → Int} (h : DOK d) : 0 ≤ d 3 ∧ d 3 ≤ d 0 ∧ d 3 ≤ 24 := by
  have h1 := h.bd h.2.2.2.1 (Int.le_refl _)
  rw [sd_L (Int.le_refl _)] at h1
  have := h.1; have := h.2.2.2.1
  omega
theorem DOK.segN {d : Int → Int} (h : DOK d) {w : Int} (hw : 0 ≤ w) : ∀ (k : Nat), (k : Int) ≤ d 3 → w < sd d k → ∃ l : Int, 0 ≤ l ∧ l < k ∧ sd d l ≤ w ∧ w < sd d (l + 1)
  | 0, _, h1 => by
    have h2 : w < sd d 0 := h1
    rw [h.2.2.2.2.2.1] at h2
    omega
  | k + 1, hk, h1 => by
    by_cases h2 : w < sd d k
    · obtain ⟨l, a1, a2, a3, a4⟩ := h.segN hw k (by omega) h2
      exact ⟨l, a1, by omega, a3, a4⟩
    · exact ⟨k, by omega, by omega, by omega, by rw [show (k : Int) + 1 = ((k + 1 : Nat) : Int) by omega]; exact h1⟩
theorem DOK.seg {d : Int → Int} (h : DOK d) {w : Int} (hw : 0 ≤ w) (h1 : w < d 0) : ∃ l : Int, 0 ≤ l ∧ l < d 3 ∧ sd d l ≤ w ∧ w < sd d (l + 1) := by
  have h0 := h.2.2.2.1
  obtain ⟨l, a1, a2, a3, a4⟩ := h.segN hw (d 3).toNat (by omega) (by rw [show ((d 3).toNat : Int) = d 3 by omega, sd_L (Int.le_refl _)]; exact h1)
  exact ⟨l, a1, by omega, a3, a4⟩
theorem DOK.segu {d : Int → Int} (h : DOK d) {w l m : Int} (h0 : 0 ≤ l) (h1 : l < d 3) (h2 : sd d l ≤ w) (h3 : w < sd d (l + 1)) (g0 : 0 ≤ m) (g1 : m < d 3) (g2 : sd d m ≤ w) (g3 : w < sd d (m + 1)) : l = m := by
  by_cases hlt : l < m
  · have := h.le (x := l + 1) (y := m) (by omega) (by omega) (by omega); omega
  · by_cases hgt : m < l
    · have := h.le (x := m + 1) (y := l) (by omega) (by omega) (by omega); omega
    · omega
theorem DOK.prvle {d : Int → Int} (h : DOK d) {l : Int} (h0 : 0 ≤ l) (h1 : l < d 3) : 0 ≤ prv d l ∧ prv d l ≤ sd d l ∧ (l ≠ 0 → prv d l < sd d l) := by
  unfold prv
  split
  · rename_i e; subst e; have := h.bdall (l := 0) (by omega); omega
  · have h2 := (h.2.2.2.2.2.2 (l - 1) (by omega) (by omega)).1
    rw [show l - 1 + 1 = l by omega] at h2
    have := h.bdall (l := l - 1) (by omega)
    omega
/-- the line that a word is in -/
def lnN (d : Int → Int) : Nat → Int → Int
  | 0 => fun _ => 0
  | k + 1 => fun w => if sd d k ≤ w then (k : Int) else lnN d k w
def lnD (d : Int → Int) (w : Int) : Int := lnN d (d 3).toNat w
theorem lnN_eq {d : Int → Int} (h : DOK d) {w l : Int} (h0 : 0 ≤ l) (h2 : sd d l ≤ w) (h3 : w < sd d (l + 1)) : ∀ (k : Nat), l < k → (k : Int) ≤ d 3 → lnN d k w = l
  | 0, hk, _ => by omega
  | k + 1, hk, hL => by
    show (if sd d k ≤ w then (k : Int) else lnN d k w) = l
    by_cases e : l = k
    · rw [← e, if_pos h2]
    · have := h.le (x := l + 1) (y := (k : Int)) (by omega) (by omega) (by omega)
      rw [if_neg (by omega)]
      exact lnN_eq h h0 h2 h3 k (by omega) (by omega)
theorem lnD_eq {d : Int → Int} (h : DOK d) {w l : Int} (h0 : 0 ≤ l) (h1 : l < d 3) (h2 : sd d l ≤ w) (h3 : w < sd d (l + 1)) : lnD d w = l := lnN_eq h h0 h2 h3 _ (by omega) (by omega)
/-- the reaches of the gaps of all lines before line k -/
def RN (d : Int → Int) : Nat → Int → Int
  | 0 => fun _ => 0
  | k + 1 => rlF (lenD d) (d 1) (d 0) (prv d k) (sd d k) (sd d (k + 1)) (RN d k)
def RD (d : Int → Int) : Int → Int := RN d (d 3).toNat
theorem RN_bd (d : Int → Int) : ∀ (k : Nat) (w : Int), 0 ≤ RN d k w ∧ RN d k w ≤ k
  | 0, w => ⟨Int.le_refl _, Int.le_refl _⟩
  | k + 1, w => by
    show 0 ≤ rlF _ _ _ _ _ _ _ w ∧ rlF _ _ _ _ _ _ _ w ≤ _
    by_cases hw : sd d k ≤ w ∧ w < sd d (k + 1) - 1
    · have h1 := rlF_bd (L := lenD d) (r := RN d k) (W := d 1) (n := d 0) (p := prv d k) (i := sd d k) (j := sd d (k + 1)) (B := k) (by omega) (fun w _ _ => (RN_bd d k w).2) hw.1 hw.2
      omega
    · unfold rlF
      rw [if_neg hw]
      have := RN_bd d k w
      omega
theorem RN_stab {d : Int → Int} (h : DOK d) {w : Int} : ∀ (m k : Nat), k ≤ m → (m : Int) ≤ d 3 → w < sd d k → RN d m w = RN d k w
  | 0, k, hk, _, _ => by rw [show k = 0 by omega]
  | m + 1, k, hk, hm, hw => by
    by_cases e : k = m + 1
    · rw [e]
    · have h1 := h.le (x := (k : Int)) (y := (m : Int)) (by omega) (by omega) (by omega)
      show rlF _ _ _ _ _ _ _ w = _
      unfold rlF
      rw [if_neg (by omega)]
      exact RN_stab h m k (by omega) (by omega) hw
theorem RD_bd (d : Int → Int) (h : 0 ≤ d 3 ∧ d 3 ≤ 24) (w : Int) : 0 ≤ RD d w ∧ RD d w ≤ 24 := by
  have := RN_bd d (d 3).toNat w
  unfold RD
  omega
theorem RD_line {d : Int → Int} (h : DOK d) {l w : Int} (h0 : 0 ≤ l) (h1 : l < d 3) (h2 : w < sd d (l + 1)) : RD d w = RN d (l.toNat + 1) w := by
  have := h.L24
  exact RN_stab h _ _ (by omega) (by omega) (by rw [show ((l.toNat + 1 : Nat) : Int) = l + 1 by omega]; exact h2)
theorem RD_before {d : Int → Int} (h : DOK d) {l w : Int} (h0 : 0 ≤ l) (h1 : l ≤ d 3) (h2 : w < sd d l) : RD d w = RN d l.toNat w := by
  exact RN_stab h _ _ (by omega) (by have := h.L24; omega) (by rw [show ((l.toNat : Nat) : Int) = l by omega]; exact h2)
theorem RN_S (d : Int → Int) {l : Int} (h0 : 0 ≤ l) : RN d (l.toNat + 1) = rlF (lenD d) (d 1) (d 0) (prv d l) (sd d l) (sd d (l + 1)) (RN d l.toNat) := by
  show rlF (lenD d) (d 1) (d 0) (prv d (l.toNat : Int)) (sd d (l.toNat : Int)) (sd d ((l.toNat : Int) + 1)) _ = _
  rw [Int.toNat_of_nonneg h0]
theorem RN_last {d : Int → Int} (h : DOK d) {m : Int} (m0 : 0 ≤ m) (m1 : m < d 3) : ∀ (k : Nat), (k : Int) ≤ d 3 → RN d k (sd d (m + 1) - 1) = 0
  | 0, _ => rfl
  | k + 1, hk => by
    show rlF _ _ _ _ _ _ _ _ = 0
    unfold rlF
    have hm := h.2.2.2.2.2.2 m m0 m1
    rw [if_neg]
    · exact RN_last h m0 m1 k (by omega)
    · intro z
      have hk2 := h.2.2.2.2.2.2 k (by omega) (by omega)
      have e := h.segu (w := sd d (m + 1) - 1) (l := (k : Int)) (m := m) (by omega) (by omega) z.1 (by omega) m0 m1 (by omega) (by omega)
      subst e
      omega
/-- the page c holds what d says -/
def PRel (M : Mem) (c : Nat) (d : Int → Int) : Prop :=
  M c 0 = d 1 ∧ M c 1 = d 2 ∧ M c 2 = d 0 ∧ Lines (M (c + 4)) (d 0) (d 3) (sd d) ∧ (∀ w, 0 ≤ w → w < 24 → 0 ≤ M (c + 2) w ∧ M (c + 2) w ≤ 8) ∧ (∀ w, 0 ≤ w → w < d 0 → M (c + 2) w = d (4 + w)) ∧
  (∀ l, 0 ≤ l → l < d 3 → M (c + 6) (sd d l) = d (53 + l)) ∧ (∀ w, 0 ≤ w → w < 24 → M (c + 4) w ≠ 1 → M (c + 6) w = 0) ∧ (∀ w, d 0 ≤ w → w < 24 → M (c + 4) w = 0)
theorem PRel.congr {M N : Mem} {c : Nat} {d : Int → Int} (h : PRel M c d) (e0 : N c = M c) (e2 : N (c + 2) = M (c + 2)) (e4 : N (c + 4) = M (c + 4)) (e6 : N (c + 6) = M (c + 6)) : PRel N c d := by
  unfold PRel
  rw [e0, e2, e4, e6]
  exact h
theorem PRel.fz {M : Mem} {c : Nat} {d : Int → Int} (h : PRel M c d) (hD : DOK d) {w : Int} (h0 : 0 ≤ w) (h1 : w < 24) : 0 ≤ M (c + 6) w ∧ M (c + 6) w ≤ 1 := by
  by_cases hb : M (c + 4) w = 1
  · by_cases hn : w < d 0
    · obtain ⟨l, a1, a2, a3⟩ := h.2.2.2.1.at h0 hn hb
      have h2 := h.2.2.2.2.2.2.1 l a1 a2
      have h3 := (hD.2.2.2.2.2.2 l a1 a2).2.1
      rw [← a3] at h2
      omega
    · have := h.2.2.2.2.2.2.2.2 w (by omega) h1
      omega
  · have := h.2.2.2.2.2.2.2.1 w h0 h1 hb
    omega
/-! the same, with another length function that agrees on the words -/
theorem exF_congr {L K : Int → Int} {W n f t : Int} (h : ∀ w, 0 ≤ w → w < n → L w = K w) (hf : f ≤ n) (ht : t ≤ n) : exF L W f t = exF K W f t := by
  unfold exF
  rw [cnt_congr (f := L) (g := K) (k := f) (fun j h0 h1 => h j h0 (by omega)), cnt_congr (f := L) (g := K) (k := t) (fun j h0 h1 => h j h0 (by omega))]
theorem lexF_congr {L K : Int → Int} {W n a b : Int} (h : ∀ w, 0 ≤ w → w < n → L w = K w) (ha : a ≤ n) (hb : b ≤ n) : lexF L W n a b = lexF K W n a b := by
  unfold lexF
  rw [exF_congr h ha hb]
theorem colF_congr {L K : Int → Int} {n x a b w : Int} (h : ∀ w, 0 ≤ w → w < n → L w = K w) (ha : 0 ≤ a) (haw : a ≤ w) (hw : w ≤ n) : colF L x a b w = colF K x a b w := by
  obtain ⟨k, rfl⟩ : ∃ k : Nat, w = a + k := ⟨(w - a).toNat, by omega⟩
  clear haw
  induction k with
  | zero => rw [show a + ((0 : Nat) : Int) = a by omega, colF_0, colF_0]
  | succ k ih =>
    rw [show a + ((k + 1 : Nat) : Int) = (a + k) + 1 by omega, colF_s _ _ _ _ (by omega), colF_s _ _ _ _ (by omega), ih (by omega), h (a + k) (by omega) (by omega)]
theorem lcol_congr {L K : Int → Int} {W n a b w : Int} (h : ∀ w, 0 ≤ w → w < n → L w = K w) (ha : 0 ≤ a) (hb : b ≤ n) (h0 : a ≤ w) (h1 : w < b) : lcol L W n a b w = lcol K W n a b w ∧ lgc L W n a b w = lgc K W n a b w ∧ lgw L W n a b w = lgw K W n a b w := by
  have e : lcol L W n a b w = lcol K W n a b w := by
    unfold lcol
    rw [lexF_congr h (by omega) hb, colF_congr h ha h0 (by omega)]
  refine ⟨e, ?_, ?_⟩
  · unfold lgc
    rw [e, h w (by omega) (by omega)]
  · unfold lgw
    rw [lexF_congr h (by omega) hb]
theorem RowsAt.congr {N : Mem} {c : Nat} {L K : Int → Int} {W n a b : Int} (hR : RowsAt N c L W n a b) (h : ∀ w, 0 ≤ w → w < n → L w = K w) (ha : 0 ≤ a) (hb : b ≤ n) : RowsAt N c K W n a b := by
  intro w h0 h1
  have e := lcol_congr (W := W) h ha hb h0 h1
  rw [← e.1, ← e.2.1, ← e.2.2]
  exact hR w h0 h1
theorem rlF_congr {L K r q : Int → Int} {W n p i j w : Int} (h : ∀ w, 0 ≤ w → w < n → L w = K w) (hp : 0 ≤ p) (hpi : p ≤ i) (hj : j ≤ n) (hr : ∀ w, p ≤ w → w < i - 1 → r w = q w) (h0 : i ≤ w) (h1 : w < j - 1) : rlF L W n p i j r w = rlF K W n p i j q w := by
  unfold rlF
  rw [if_pos ⟨h0, h1⟩, if_pos ⟨h0, h1⟩]
  congr 1
  refine mx_congr (fun g g0 g1 => ⟨?_, fun _ => hr g g0 g1⟩)
  have e1 := lcol_congr (L := L) (K := K) (W := W) (n := n) (a := p) (b := i) (w := g) h hp (by omega) g0 (by omega)
  have e2 := lcol_congr (L := L) (K := K) (W := W) (n := n) (a := i) (b := j) (w := w) h (by omega) hj h0 (by omega)
  unfold gmt
  rw [e1.2.1, e1.2.2, e2.2.1, e2.2.2]
/-- the sheet c holds all lines as d has them -/
def AllL (N : Mem) (c : Nat) (d : Int → Int) (k : Int) : Prop := (∀ l, 0 ≤ l → l < k → RowsAt N c (lenD d) (d 1) (d 0) (sd d l) (sd d (l + 1))) ∧ ∀ w, 0 ≤ w → w < sd d k → N (c + 8) w = RD d w
theorem AllL.step {M N : Mem} {c u : Nat} {d : Int → Int} {k x : Int} (h : AllL M c d k) (hD : DOK d) (hR : PRel M u d) (h0 : 0 ≤ k) (h1 : k < d 3) (hL : LayP M N c (M (u + 2)) (lexF (M (u + 2)) (M u 0) (M u 2) (sd d k) (sd d (k + 1))) (prv d k) (sd d k) (sd d (k + 1)) x) : AllL N c d (k + 1) ∧ ∀ e, e ≠ c + 2 → e ≠ c + 4 → e ≠ c + 6 → e ≠ c + 8 → N e = M e := by
  have hpr := hD.prvle h0 h1
  have hk := hD.2.2.2.2.2.2 k h0 h1
  have hb := hD.bdall (l := k + 1) (by omega)
  have hb0 := hD.bdall (l := k) h0
  have hlen : ∀ w, 0 ≤ w → w < d 0 → M (u + 2) w = lenD d w := hR.2.2.2.2.2.1
  have hw1 : M u 0 = d 1 := hR.1
  have hw2 : M u 2 = d 0 := hR.2.2.1
  rw [hw1, hw2] at hL
  have hrows : RowsAt M c (M (u + 2)) (d 1) (d 0) (prv d k) (sd d k) := by
    by_cases hz : k = 0
    · intro w q0 q1
      rw [hz] at q0 q1
      have e : prv d 0 = 0 := if_pos rfl
      rw [e] at q0
      rw [hD.2.2.2.2.2.1] at q1
      omega
    · have hq := h.1 (k - 1) (by omega) (by omega)
      rw [show k - 1 + 1 = k by omega] at hq
      have e : prv d k = sd d (k - 1) := if_neg hz
      rw [e]
      exact hq.congr (fun w q0 q1 => (hlen w q0 q1).symm) (hD.bdall (by omega)).1 (by omega)
  obtain ⟨a1, a2, a3, a4, a5, a6⟩ := lay_rl (r := RN d k.toNat) hpr.2.1 hk.1 hrows (fun w q0 q1 => by rw [h.2 w (by omega) (by omega), RD_before hD h0 (by omega) (by omega)]) hL
  refine ⟨⟨fun l g0 g1 => ?_, fun w g0 g1 => ?_⟩, a5⟩
  · by_cases e : l = k
    · subst e
      exact a1.congr hlen hb0.1 hb.2
    · have hq := h.1 l g0 (by omega)
      have hle := hD.le (x := l + 1) (y := k) (by omega) (by omega) (by omega)
      intro w q0 q1
      have hs := a4 w (by omega)
      rw [hs.1, hs.2.1, hs.2.2.1]
      exact hq w q0 q1
  · by_cases hlt : w < sd d k
    · rw [(a4 w (Or.inl hlt)).2.2.2]
      exact h.2 w g0 hlt
    · rw [RD_line hD h0 h1 g1, RN_S d h0]
      by_cases hl : w < sd d (k + 1) - 1
      · rw [a2 w (by omega) hl]
        exact rlF_congr hlen hpr.1 hpr.2.1 hb.2 (fun _ _ _ => rfl) (by omega) hl
      · have e : w = sd d (k + 1) - 1 := by omega
        rw [e, a3, ← RN_S d h0]
        exact (RN_last hD h0 h1 (k.toNat + 1) (by omega)).symm
theorem ffst_congr {L K : Int → Int} {W n k : Int} (h : ∀ w, 0 ≤ w → w < n → L w = K w) (h0 : 0 ≤ k) (h1 : k ≤ n) : ffst L W k = ffst K W k := by
  obtain ⟨m, rfl⟩ := Int.eq_ofNat_of_zero_le h0
  clear h0
  induction m with
  | zero => rfl
  | succ m ih =>
    have ih := ih (by omega)
    have hb := ffst_bd K W (k := (m : Int)) (by omega)
    rw [show ((m + 1 : Nat) : Int) = (m : Int) + 1 by omega, ffst_s _ _ (by omega), ffst_s _ _ (by omega), ih, exF_congr h (by omega) (by omega)]
