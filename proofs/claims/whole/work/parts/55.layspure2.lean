/-! ===== the reference lays all lines ===== -/
theorem mx_split {r : Int → Int} {a m e : Int} (h1 : a ≤ m) (h2 : m ≤ e) : mx (fun _ => true) r a e = if mx (fun _ => true) r a m < mx (fun _ => true) r m e then mx (fun _ => true) r m e else mx (fun _ => true) r a m := by
  have hA : ∀ B, 0 ≤ B → (∀ w, a ≤ w → w < e → r w ≤ B) → mx (fun _ => true) r a e ≤ B := fun B hB h => (mx_bd hB (fun w q0 q1 _ => h w q0 q1)).2
  have n1 : 0 ≤ mx (fun _ => true) r a m := mx_nn
  have n2 : 0 ≤ mx (fun _ => true) r m e := mx_nn
  have n3 : 0 ≤ mx (fun _ => true) r a e := mx_nn
  have g1 : mx (fun _ => true) r a m ≤ mx (fun _ => true) r a e := (mx_bd n3 (fun w q0 q1 _ => mx_ge q0 (by omega) rfl)).2
  have g2 : mx (fun _ => true) r m e ≤ mx (fun _ => true) r a e := (mx_bd n3 (fun w q0 q1 _ => mx_ge (by omega) q1 rfl)).2
  have key : ∀ w, a ≤ w → w < e → r w ≤ mx (fun _ => true) r a m ∨ r w ≤ mx (fun _ => true) r m e := fun w q0 q1 => by
    by_cases hw : w < m
    · exact Or.inl (mx_ge q0 hw rfl)
    · exact Or.inr (mx_ge (by omega) q1 rfl)
  split
  · have := hA _ n2 (fun w q0 q1 => by rcases key w q0 q1 with z | z <;> omega)
    omega
  · have := hA _ n1 (fun w q0 q1 => by rcases key w q0 q1 with z | z <;> omega)
    omega
theorem RD_last {d : Int → Int} (hD : DOK d) {k : Int} (h0 : 0 ≤ k) (h1 : k < d 3) : RD d (sd d (k + 1) - 1) = 0 := by
  have hl := (hD.2.2.2.2.2.2 k h0 h1).1
  have h := RN_last hD h0 h1 (k.toNat + 1) (by omega)
  rw [RD_line hD h0 h1 (show sd d (k + 1) - 1 < sd d (k + 1) by omega)]
  exact h
theorem rd_rl {d : Int → Int} (hD : DOK d) {k w : Int} (h0 : 0 ≤ k) (h1 : k < d 3) (h2 : sd d k ≤ w) (h3 : w < sd d (k + 1) - 1) : rlF (lenD d) (d 1) (d 0) (prv d k) (sd d k) (sd d (k + 1)) (RD d) w = RD d w := by
  rw [RD_line hD h0 h1 (show w < sd d (k + 1) by omega), RN_S d h0]
  unfold rlF
  rw [if_pos ⟨h2, h3⟩, if_pos ⟨h2, h3⟩]
  congr 1
  exact mx_congr (fun g q0 q1 => ⟨rfl, fun _ => RD_before hD h0 (by omega) (by omega)⟩)
def LA (N : Mem) (d : Int → Int) (k : Int) : Prop := ∀ l, 0 ≤ l → l < k → ∀ w, sd d l ≤ w → w < sd d (l + 1) → N 86 w = lcol (lenD d) (d 1) (d 0) (sd d l) (sd d (l + 1)) w ∧ (w < sd d (l + 1) - 1 → N 87 w = lgc (lenD d) (d 1) (d 0) (sd d l) (sd d (l + 1)) w ∧ N 88 w = lgw (lenD d) (d 1) (d 0) (sd d l) (sd d (l + 1)) w ∧ N 89 w = RD d w)
theorem LA.gp {N : Mem} {d : Int → Int} {k : Int} (h : LA N d k) (hD : DOK d) (h0 : 0 ≤ k) (h1 : k < d 3) : GpAt N d (prv d k) (sd d k) (RD d) := by
  intro g q0 q1
  have hL := hD.L24
  have hb := RD_bd d ⟨hL.1, hL.2.2⟩ g
  by_cases hz : k = 0
  · unfold prv at q0
    rw [if_pos hz] at q0
    rw [hz, hD.2.2.2.2.2.1] at q1
    omega
  · have e : prv d k = sd d (k - 1) := if_neg hz
    rw [e] at q0 ⊢
    have := h (k - 1) (by omega) (by omega) g q0 (by rw [show k - 1 + 1 = k by omega]; omega)
    rw [show k - 1 + 1 = k by omega] at this
    have h2 := this.2 q1
    exact ⟨h2.1, h2.2.1, h2.2.2, by omega, by omega⟩
theorem LA.step {M N : Mem} {d : Int → Int} {k : Int} (h : LA M d k) (hD : DOK d) (h0 : 0 ≤ k) (h1 : k < d 3) (hI : LaI M N (lenD d) (lexF (lenD d) (d 1) (d 0) (sd d k) (sd d (k + 1))) (sd d k) (sd d (k + 1)) (rlF (lenD d) (d 1) (d 0) (prv d k) (sd d k) (sd d (k + 1)) (RD d)) (sd d (k + 1))) : LA N d (k + 1) := by
  intro l l0 l1 w w0 w1
  by_cases hl : l = k
  · subst hl
    have h2 := hI.2.1 w w0 w1
    exact ⟨h2.1, fun z => ⟨(h2.2 z).1, (h2.2 z).2.1, by rw [(h2.2 z).2.2]; exact rd_rl hD h0 h1 w0 z⟩⟩
  · have hle := hD.le (x := l + 1) (y := k) (by omega) (by omega) (by omega)
    rw [hI.2.2.1 w (by omega), (hI.2.2.2 w (by omega)).1, (hI.2.2.2 w (by omega)).2.1, (hI.2.2.2 w (by omega)).2.2]
    exact h l l0 (by omega) w w0 w1
theorem LA.most {d : Int → Int} (hD : DOK d) {k x : Int} (h0 : 0 ≤ k) (h1 : k < d 3) (hx : x = mx (fun _ => true) (rlF (lenD d) (d 1) (d 0) (prv d k) (sd d k) (sd d (k + 1)) (RD d)) (sd d k) (sd d (k + 1) - 1)) : mx (fun _ => true) (RD d) 0 (sd d (k + 1)) = if mx (fun _ => true) (RD d) 0 (sd d k) < x then x else mx (fun _ => true) (RD d) 0 (sd d k) := by
  have hl := (hD.2.2.2.2.2.2 k h0 h1).1
  have hb := hD.bdall h0
  have e1 : mx (fun _ => true) (RD d) (sd d k) (sd d (k + 1)) = x := by
    have h2 := mx_s (fun _ => true) (RD d) (show sd d k ≤ sd d (k + 1) - 1 by omega)
    rw [show sd d (k + 1) - 1 + 1 = sd d (k + 1) by omega, if_pos rfl, RD_last hD h0 h1, if_neg (by have : 0 ≤ mx (fun _ => true) (RD d) (sd d k) (sd d (k + 1) - 1) := mx_nn; omega)] at h2
    rw [h2, hx]
    exact mx_congr (fun w a b => ⟨rfl, fun _ => (rd_rl hD h0 h1 a b).symm⟩)
  rw [mx_split (show 0 ≤ sd d k by omega) (show sd d k ≤ sd d (k + 1) by omega), e1]
/-- all lines laid: what the reference's rows say then -/
def LM (N : Mem) (d : Int → Int) : Prop := ∀ w, 0 ≤ w → w < d 0 → N 86 w = CO d w ∧ (w < sd d (lnD d w + 1) - 1 → N 87 w = GC d w ∧ N 88 w = GV d w ∧ N 89 w = RD d w)
theorem LA.done {N : Mem} {d : Int → Int} (h : LA N d (d 3)) (hD : DOK d) : LM N d := by
  intro w a b
  obtain ⟨a1, a2, a3, a4⟩ := lnD_seg hD a b
  exact h _ a1 a2 w a3 a4
