theorem LayP.bd {M N : Mem} {c : Nat} {L : Int → Int} {x p i j r : Int} (h : LayP M N c L x p i j r) (hb : SBd M c) (hx : 0 ≤ x ∧ x ≤ 41) (hL : ∀ w, 0 ≤ w → w < 24 → 0 ≤ L w ∧ L w ≤ 8) (hi : 0 ≤ i) : SBd N c := by
  obtain ⟨M1, h1, h2, -⟩ := h
  have h3 := h1.bd hb hx hL hi
  unfold SBd
  rw [h2.2.2 (c + 4) (by omega), h2.2.2 (c + 6) (by omega)]
  exact h3
theorem lexF_bd {L : Int → Int} {W n i j : Int} (hL : ∀ w, 0 ≤ w → w < 24 → 0 ≤ L w ∧ L w ≤ 8) (hW : 0 ≤ W ∧ W ≤ 40) (hi : 0 ≤ i) (hij : i ≤ j) (hj : j ≤ 24) (hf : j = n ∨ 0 ≤ exF L W i j) : 0 ≤ lexF L W n i j ∧ lexF L W n i j ≤ 41 := by
  unfold lexF
  have := exF_bd (f := i) (t := j) hL hW hi hij hj
  split <;> omega
/-- column, gap's column and gap's width of every word, in its own line -/
def CO (d : Int → Int) (w : Int) : Int := lcol (lenD d) (d 1) (d 0) (sd d (lnD d w)) (sd d (lnD d w + 1)) w
def GC (d : Int → Int) (w : Int) : Int := lgc (lenD d) (d 1) (d 0) (sd d (lnD d w)) (sd d (lnD d w + 1)) w
def GV (d : Int → Int) (w : Int) : Int := lgw (lenD d) (d 1) (d 0) (sd d (lnD d w)) (sd d (lnD d w + 1)) w
def mtD (d : Int → Int) (g w : Int) : Bool := mtB (GC d g) (GV d g) (GC d w) (GV d w)
/-- how many gaps of the line before a word's line its gap lies below -/
def abD (d : Int → Int) (w : Int) : Int := cnt (fun g => if mtD d g w = true then 1 else 0) (sd d (lnD d w)) - cnt (fun g => if mtD d g w = true then 1 else 0) (prv d (lnD d w))
theorem AllL.rows {N : Mem} {c : Nat} {d : Int → Int} (h : AllL N c d (d 3)) (hD : DOK d) {w : Int} (h0 : 0 ≤ w) (h1 : w < d 0) : N (c + 2) w = CO d w ∧ N (c + 4) w = GC d w ∧ N (c + 6) w = GV d w := by
  obtain ⟨l, a1, a2, a3, a4⟩ := hD.seg h0 h1
  have e := lnD_eq hD a1 a2 a3 a4
  have := h.1 l a1 a2 w a3 a4
  unfold CO GC GV
  rw [e]
  exact this
theorem AllL.reach {N : Mem} {c : Nat} {d : Int → Int} (h : AllL N c d (d 3)) {w : Int} (h0 : 0 ≤ w) (h1 : w < d 0) : N (c + 8) w = RD d w := h.2 w h0 (by rw [sd_L (Int.le_refl _)]; exact h1)
theorem prv_fst {b : Int → Int} {d : Int → Int} {l r : Int} (h : Lines b (d 0) (d 3) (sd d)) (h0 : 0 ≤ l) (h1 : l < d 3) (hr : FstP b (d 0) (l - 1) r) : r = prv d l := by
  unfold prv
  by_cases hz : l = 0
  · rw [if_pos hz]
    exact h.fstneg (by omega) hr
  · rw [if_neg hz]
    exact h.fst (by omega) (by omega) hr
theorem cnt_ind {f : Int → Bool} {a b : Int} (ha : 0 ≤ a) (hab : a ≤ b) : 0 ≤ cnt (fun q => if f q = true then 1 else 0) b - cnt (fun q => if f q = true then 1 else 0) a ∧ cnt (fun q => if f q = true then 1 else 0) b - cnt (fun q => if f q = true then 1 else 0) a ≤ b - a := by
  have h1 := cnt_mono (f := fun q => if f q = true then 1 else 0) (lo := 0) (hi := 1) ha (b - a).toNat (fun j _ _ => by
    show 0 ≤ (if f j = true then (1 : Int) else 0) ∧ (if f j = true then (1 : Int) else 0) ≤ 1
    split <;> omega)
  rw [show a + ((b - a).toNat : Int) = b by omega, show ((b - a).toNat : Int) = b - a by omega] at h1
  omega
