/-! ===== the reference fills and records ===== -/
theorem mset_d {M : Mem} {c : Nat} {i v : Int} : mset M c i v c = dset (M c) i v := by
  funext j
  rw [mset_if]
  rfl
def ss (e : Int → Int) (f l : Int) : Int := if l < e 3 then e (28 + l) else f
def FlI (d e : Int → Int) (f : Int) : Prop := e 0 = d 0 ∧ e 1 = d 1 ∧ e 2 = d 2 ∧ (∀ w, 0 ≤ w → w < 24 → e (4 + w) = d (4 + w)) ∧ 0 ≤ e 3 ∧ e 3 ≤ f ∧ f ≤ d 0 ∧ (∀ l, 0 ≤ l → l < e 3 → e (53 + l) = 0) ∧ ss e f 0 = 0 ∧ ∀ l, 0 ≤ l → l < e 3 → ss e f l < ss e f (l + 1) ∧ 0 ≤ exF (lenD d) (d 1) (ss e f l) (ss e f (l + 1)) ∧ (ss e f (l + 1) = d 0 ∨ exF (lenD d) (d 1) (ss e f l) (ss e f (l + 1) + 1) < 0)
theorem FlI.start {d : Int → Int} (h : WOK d) : FlI d (dset d 3 0) 0 := by
  have e3 : dset d 3 0 3 = 0 := dset_at
  have h0 := h.1
  refine ⟨dset_ne (by decide), dset_ne (by decide), dset_ne (by decide), fun w a b => dset_ne (by omega), by omega, by omega, by omega, fun l a b => by omega, if_neg (by omega), fun l a b => by omega⟩
theorem FlI.wok {d e : Int → Int} {f : Int} (h : FlI d e f) (hw : WOK d) : WOK e := by
  obtain ⟨h0, h1, h2, h3, -⟩ := h
  have hn := hw.1
  exact ⟨by omega, by rw [h1]; exact hw.2.1, fun w a b => by rw [h3 w a (by omega)]; exact hw.2.2 w a (by omega)⟩
theorem FlI.step {d e : Int → Int} {f x : Int} (h : FlI d e f) (hw : WOK d) (hf : f < d 0) (hx : MfP (dset (dset (dset e (28 + e 3) f) (53 + e 3) 0) 3 (e 3 + 1)) f x) : FlI d (dset (dset (dset e (28 + e 3) f) (53 + e 3) 0) 3 (e 3 + 1)) (f + x) ∧ 1 ≤ x := by
  obtain ⟨h0, h1, h2, h3, h4, h5, h6, h7, h8, h9⟩ := h
  have hn := hw.1
  have hW := hw.2.1
  generalize hg : dset (dset (dset e (28 + e 3) f) (53 + e 3) 0) 3 (e 3 + 1) = g at hx ⊢
  have G : ∀ j, j ≠ 3 → j ≠ 53 + e 3 → j ≠ 28 + e 3 → g j = e j := fun j a b c => by rw [← hg, dset_ne a, dset_ne b, dset_ne c]
  have g3 : g 3 = e 3 + 1 := by rw [← hg, dset_at]
  have gm : g (53 + e 3) = 0 := by rw [← hg, dset_ne (by omega), dset_at]
  have gs : g (28 + e 3) = f := by rw [← hg, dset_ne (by omega), dset_ne (by omega), dset_at]
  have g0 : g 0 = d 0 := by rw [G 0 (by omega) (by omega) (by omega)]; exact h0
  have g1 : g 1 = d 1 := by rw [G 1 (by omega) (by omega) (by omega)]; exact h1
  have gl : ∀ w, 0 ≤ w → w < 24 → g (4 + w) = d (4 + w) := fun w a b => by rw [G _ (by omega) (by omega) (by omega)]; exact h3 w a b
  have gx : ∀ i j, 0 ≤ i → i ≤ d 0 → 0 ≤ j → j ≤ d 0 → exD g i j = exF (lenD d) (d 1) i j := fun i j a b a2 b2 => by
    unfold exD
    rw [g1]
    exact exF_congr (n := d 0) (fun w q0 q1 => gl w q0 (by omega)) b b2
  obtain ⟨x0, x1, x2, x3⟩ := hx
  rw [g0] at x1 x3
  have hx1 : 1 ≤ x := by
    by_cases z : 1 ≤ x
    · exact z
    · exfalso
      rcases x3 with q | q
      · omega
      · rw [show f + x + 1 = f + 1 by omega, gx f (f + 1) (by omega) (by omega) (by omega) (by omega)] at q
        unfold exF at q
        rw [cnt_s _ (by omega)] at q
        have := hw.2.2 f (by omega) hf
        unfold lenD at q
        omega
  have sl : ∀ l, 0 ≤ l → l ≤ e 3 → ss g (f + x) l = ss e f l := by
    intro l a b
    unfold ss
    rw [if_pos (by omega)]
    by_cases z : l < e 3
    · rw [if_pos z, G _ (by omega) (by omega) (by omega)]
    · rw [if_neg z, show l = e 3 by omega, gs]
  have s1 : ss g (f + x) (e 3 + 1) = f + x := if_neg (by omega)
  refine ⟨⟨g0, g1, by rw [G 2 (by omega) (by omega) (by omega)]; exact h2, gl, by omega, by omega, by omega, fun l a b => ?_, by rw [sl 0 (by omega) h4]; exact h8, fun l a b => ?_⟩, hx1⟩
  · by_cases z : l = e 3
    · rw [z, gm]
    · rw [G _ (by omega) (by omega) (by omega)]; exact h7 l a (by omega)
  · by_cases z : l = e 3
    · have se : ss e f (e 3) = f := if_neg (by omega)
      rw [z, s1, sl (e 3) h4 (by omega), se]
      refine ⟨by omega, ?_, ?_⟩
      · have := x2 (x - 1) (by omega) (by omega)
        rw [show f + (x - 1) + 1 = f + x by omega, gx f (f + x) (by omega) (by omega) (by omega) (by omega)] at this
        exact this
      · by_cases q : f + x = d 0
        · exact Or.inl q
        · rcases x3 with y | y
          · exact absurd y q
          · rw [gx f (f + x + 1) (by omega) (by omega) (by omega) (by omega)] at y
            exact Or.inr y
    · rw [sl l a (by omega), sl (l + 1) (by omega) (by omega)]
      exact h9 l a (by omega)
theorem FlI.done {d e : Int → Int} {f : Int} (h : FlI d e f) (hw : WOK d) (hf : d 0 ≤ f) : FillP d e := by
  obtain ⟨h0, h1, h2, h3, h4, h5, h6, h7, h8, h9⟩ := h
  have hn := hw.1
  have e1 : ∀ l, sd e l = ss e f l := by
    intro l
    unfold sd ss
    rw [show e 0 = f by omega]
  refine ⟨h0, h1, h2, h3, h4, by omega, h7, by rw [e1]; exact h8, fun l a b => ?_⟩
  rw [e1, e1]
  exact h9 l a b
theorem FlI.wok2 {d e : Int → Int} {f : Int} (h : FlI d e f) (hw : WOK d) (hf : e 3 ≤ 23) : WOK (dset (dset (dset e (28 + e 3) f) (53 + e 3) 0) 3 (e 3 + 1)) := by
  have hz := h.wok hw
  have h4 := h.2.2.2.2.1
  have hn := hz.1
  refine ⟨?_, ?_, fun w a b => ?_⟩
  · rw [dset_ne (by decide), dset_ne (by omega), dset_ne (by omega)]; exact hz.1
  · rw [dset_ne (by decide), dset_ne (by omega), dset_ne (by omega)]; exact hz.2.1
  · rw [dset_ne (by decide), dset_ne (by omega), dset_ne (by omega)] at b
    rw [dset_ne (by omega), dset_ne (by omega), dset_ne (by omega)]
    exact hz.2.2 w a b
