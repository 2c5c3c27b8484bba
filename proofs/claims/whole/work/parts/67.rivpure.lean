/-! ===== the reference follows a river ===== -/
theorem lst_exN {P : Int → Prop} {a : Int} : ∀ (k : Nat), (∃ g, a ≤ g ∧ g < a + k ∧ P g) → ∃ g, a ≤ g ∧ g < a + k ∧ P g ∧ ∀ x, a ≤ x → x < g → ¬ P x
  | 0, ⟨g, h0, h1, _⟩ => by omega
  | k + 1, ⟨g, h0, h1, h2⟩ => by
    by_cases hk : ∃ g, a ≤ g ∧ g < a + k ∧ P g
    · obtain ⟨y, y0, y1, y2, y3⟩ := lst_exN k hk
      exact ⟨y, y0, by omega, y2, y3⟩
    · refine ⟨g, h0, h1, h2, fun x x0 x1 x2 => hk ⟨x, x0, by omega, x2⟩⟩
theorem lst_ex {P : Int → Prop} {a e : Int} (h : ∃ g, a ≤ g ∧ g < e ∧ P g) : ∃ g, a ≤ g ∧ g < e ∧ P g ∧ ∀ x, a ≤ x → x < g → ¬ P x := by
  obtain ⟨g, h0, h1, h2⟩ := h
  obtain ⟨y, y0, y1, y2, y3⟩ := lst_exN (P := P) (a := a) (e - a).toNat ⟨g, h0, by omega, h2⟩
  exact ⟨y, y0, by omega, y2, y3⟩
theorem fst_ex {d : Int → Int} (h : 0 < LR d) : ∃ b, FstR d b := by
  rcases mx_at (f := fun _ => true) (r := RD d) (a := 0) (e := d 0) with z | ⟨w, w0, w1, -, w3⟩
  · have : LR d = 0 := z; omega
  · obtain ⟨y, y0, y1, y2, y3⟩ := lst_ex (P := fun x => RD d x = LR d) (a := 0) (e := d 0) ⟨w, w0, w1, w3⟩
    exact ⟨y, y0, y1, y2, y3⟩
theorem step_fst {d : Int → Int} (hD : DOK d) {b : Int} (h0 : 0 ≤ b) (h1 : b < d 0) (hr : 2 ≤ RD d b) : ∃ g, StepR d b g ∧ 1 ≤ lnD d b := by
  obtain ⟨g, g0, g1, g2⟩ := step_ex hD h0 h1 hr
  obtain ⟨y, y0, y1, y2, y3⟩ := lst_ex (P := fun x => nxD d b x) ⟨g, g0, g1, g2⟩
  obtain ⟨a1, a2, a3, a4⟩ := lnD_seg hD h0 h1
  refine ⟨y, ⟨y0, y1, y2, y3⟩, ?_⟩
  by_cases z : 1 ≤ lnD d b
  · exact z
  · exfalso
    have e : lnD d b = 0 := by omega
    unfold prv at y0
    rw [if_pos e] at y0
    rw [e, hD.2.2.2.2.2.1] at y1
    omega
theorem riv_bd {d : Int → Int} (hD : DOK d) {k y : Int} (hk : 0 ≤ k) (h : RivR d k y) : 0 ≤ y ∧ y < d 0 ∧ RD d y = LR d - k := by
  obtain ⟨f, f0, f1, f2⟩ := h
  have := RivR.reach hD f0 f1 k.toNat (by omega)
  rw [Int.toNat_of_nonneg hk, f2] at this
  exact this
theorem riv_0 {d : Int → Int} {y : Int} (h : FstR d y) : RivR d 0 y := ⟨fun _ => y, h, fun k a b => by omega, rfl⟩
theorem riv_next {d : Int → Int} {k y u : Int} (hk : 0 ≤ k) (h : RivR d k y) (hs : StepR d y u) : RivR d (k + 1) u := by
  obtain ⟨f, f0, f1, f2⟩ := h
  refine ⟨fun x => if x ≤ k then f x else u, ?_, fun x x0 x1 => ?_, if_neg (by omega)⟩
  · show FstR d (if (0 : Int) ≤ k then f 0 else u)
    rw [if_pos hk]; exact f0
  · show StepR d (if x ≤ k then f x else u) (if x + 1 ≤ k then f (x + 1) else u)
    rw [if_pos (by omega)]
    by_cases hx : x + 1 ≤ k
    · rw [if_pos hx]; exact f1 x x0 (by omega)
    · rw [if_neg hx, show x = k by omega, f2]; exact hs
theorem rd_gap {d : Int → Int} (hD : DOK d) {y : Int} (h0 : 0 ≤ y) (h1 : y < d 0) (hr : 1 ≤ RD d y) : y < sd d (lnD d y + 1) - 1 := by
  obtain ⟨a1, a2, a3, a4⟩ := lnD_seg hD h0 h1
  by_cases z : y < sd d (lnD d y + 1) - 1
  · exact z
  · have e := RD_last hD a1 a2
    rw [show sd d (lnD d y + 1) - 1 = y by omega] at e
    omega
theorem step_gap {d : Int → Int} (hD : DOK d) {b g : Int} (h0 : 0 ≤ b) (h1 : b < d 0) (hl : 1 ≤ lnD d b) (h : StepR d b g) : g < sd d (lnD d b) - 1 := by
  obtain ⟨a1, a2, a3, a4⟩ := lnD_seg hD h0 h1
  by_cases z : g < sd d (lnD d b) - 1
  · exact z
  · have e := mt_last hD (w := b) (show 0 ≤ lnD d b - 1 by omega) (by omega)
    have hg := h.2.1
    rw [show lnD d b - 1 + 1 = lnD d b by omega, show sd d (lnD d b) - 1 = g by omega] at e
    have := h.2.2.1.1
    rw [e] at this
    exact absurd this (by decide)
