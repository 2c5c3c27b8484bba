/-! ===== the reference lays a line ===== -/
theorem colF_bdn {L : Int → Int} {x i j n : Int} (hx : 0 ≤ x ∧ x ≤ 41) (hL : ∀ w, 0 ≤ w → w < n → 0 ≤ L w ∧ L w ≤ 8) (hi : 0 ≤ i) {w : Int} (h0 : i ≤ w) (h1 : w ≤ n) : 0 ≤ colF L x i j w ∧ colF L x i j w ≤ 51 * (w - i) := by
  obtain ⟨k, rfl⟩ : ∃ k : Nat, w = i + k := ⟨(w - i).toNat, by omega⟩
  clear h0
  induction k with
  | zero => rw [show i + ((0 : Nat) : Int) = i by omega, colF_0]; omega
  | succ k ih =>
    have ih := ih (by omega)
    rw [show i + ((k + 1 : Nat) : Int) = (i + k) + 1 by omega, colF_s L x i j (by omega)]
    have h2 := hL (i + k) (by omega) (by omega)
    have h3 := wdF_bd (x := x) (i := i) (j := j) (w := i + k) hx (by omega)
    omega
def LaI (M N : Mem) (L : Int → Int) (x i j : Int) (F : Int → Int) (w : Int) : Prop :=
  (∀ q, q < 86 ∨ 89 < q → N q = M q) ∧ (∀ v, i ≤ v → v < w → N 86 v = colF L x i j v ∧ (v < j - 1 → N 87 v = colF L x i j v + L v ∧ N 88 v = wdF x i j v ∧ N 89 v = F v)) ∧ (∀ v, v < i ∨ w ≤ v → N 86 v = M 86 v) ∧ ∀ v, v < i ∨ w ≤ v ∨ j - 1 ≤ v → N 87 v = M 87 v ∧ N 88 v = M 88 v ∧ N 89 v = M 89 v
def LaH (M N : Mem) (L : Int → Int) (x i j : Int) (F : Int → Int) (w : Int) : Prop :=
  (∀ q, q < 86 ∨ 89 < q → N q = M q) ∧ (∀ v, i ≤ v → v < w → N 86 v = colF L x i j v ∧ (v < j - 1 → N 87 v = colF L x i j v + L v ∧ N 88 v = wdF x i j v ∧ N 89 v = F v)) ∧ ∀ v, v < i ∨ w < v → N 86 v = M 86 v ∧ N 87 v = M 87 v ∧ N 88 v = M 88 v ∧ N 89 v = M 89 v
theorem LaI.start (M : Mem) (L : Int → Int) (x i j : Int) (F : Int → Int) : LaI M M L x i j F i := ⟨fun _ _ => rfl, fun v a b => by omega, fun _ _ => rfl, fun _ _ => ⟨rfl, rfl, rfl⟩⟩
theorem LaI.hole {M N : Mem} {L : Int → Int} {x i j : Int} {F : Int → Int} {w : Int} (h : LaI M N L x i j F w) : LaH M N L x i j F w :=
  ⟨h.1, h.2.1, fun v hv => ⟨h.2.2.1 v (by omega), h.2.2.2 v (by omega)⟩⟩
theorem LaH.set {M N : Mem} {L : Int → Int} {x i j : Int} {F : Int → Int} {w : Int} (h : LaH M N L x i j F w) (hw : i ≤ w) {c : Nat} (hc : 86 ≤ c ∧ c ≤ 89) (a : Int) : LaH M (mset N c w a) L x i j F w := by
  have e : ∀ (q : Nat) (v : Int), v ≠ w → mset N c w a q v = N q v := fun q v hv => by
    by_cases hq : q = c
    · subst hq; exact mset_ne2 hv
    · rw [mset_nef hq]
  refine ⟨fun q hq => by rw [mset_nef (by omega)]; exact h.1 q hq, fun v a0 b0 => ?_, fun v hv => ?_⟩
  · rw [e _ v (by omega), e _ v (by omega), e _ v (by omega), e _ v (by omega)]
    exact h.2.1 v a0 b0
  · rw [e _ v (by omega), e _ v (by omega), e _ v (by omega), e _ v (by omega)]
    exact h.2.2 v hv
theorem LaH.close {M N : Mem} {L : Int → Int} {x i j : Int} {F : Int → Int} {w : Int} (h : LaH M N L x i j F w) (hw : i ≤ w) (hj : w < j - 1) (h86 : N 86 w = colF L x i j w) (h87 : N 87 w = colF L x i j w + L w) (h88 : N 88 w = wdF x i j w) (h89 : N 89 w = F w) : LaI M N L x i j F (w + 1) := by
  refine ⟨h.1, fun v a b => ?_, fun v hv => (h.2.2 v (by omega)).1, fun v hv => (h.2.2 v (by omega)).2⟩
  by_cases hvw : v = w
  · rw [hvw]; exact ⟨h86, fun _ => ⟨h87, h88, h89⟩⟩
  · exact h.2.1 v a (by omega)
theorem LaI.last {M N : Mem} {L : Int → Int} {x i j : Int} {F : Int → Int} {w : Int} (h : LaI M N L x i j F w) (hw : i ≤ w) (hj : j - 1 ≤ w) : LaI M (mset N 86 w (colF L x i j w)) L x i j F (w + 1) := by
  refine ⟨fun q hq => by rw [mset_nef (by omega)]; exact h.1 q hq, fun v a b => ?_, fun v hv => by rw [mset_ne2 (by omega)]; exact h.2.2.1 v (by omega), fun v hv => ?_⟩
  · rw [mset_nef (show (87 : Nat) ≠ 86 by decide), mset_nef (show (88 : Nat) ≠ 86 by decide), mset_nef (show (89 : Nat) ≠ 86 by decide)]
    by_cases hvw : v = w
    · rw [hvw, mset_at]; exact ⟨rfl, fun z => by omega⟩
    · rw [mset_ne2 hvw]; exact h.2.1 v a (by omega)
  · rw [mset_nef (by decide), mset_nef (by decide), mset_nef (by decide)]
    exact h.2.2.2 v (by omega)
/-- the gaps of a line are laid -/
def GpAt (M : Mem) (d : Int → Int) (p i : Int) (r : Int → Int) : Prop := ∀ g, p ≤ g → g < i - 1 → M 87 g = lgc (lenD d) (d 1) (d 0) p i g ∧ M 88 g = lgw (lenD d) (d 1) (d 0) p i g ∧ M 89 g = r g ∧ 0 ≤ r g ∧ r g ≤ 50
theorem gap_bd {d : Int → Int} (hw : WOK d) {p i g : Int} (h0 : 0 ≤ p) (h1 : p ≤ g) (h2 : g < i - 1) (h3 : i ≤ d 0) (hx : i = d 0 ∨ 0 ≤ exD d p i) : 0 ≤ lgc (lenD d) (d 1) (d 0) p i g ∧ lgc (lenD d) (d 1) (d 0) p i g ≤ 2000 ∧ 1 ≤ lgw (lenD d) (d 1) (d 0) p i g ∧ lgw (lenD d) (d 1) (d 0) p i g ≤ 2000 := by
  have hn := hw.1
  have hb := exD_bd hw h0 (show p ≤ i by omega) h3
  have hxx : 0 ≤ lexF (lenD d) (d 1) (d 0) p i ∧ lexF (lenD d) (d 1) (d 0) p i ≤ 41 := by
    unfold lexF
    by_cases z : i = d 0
    · rw [if_pos z]; omega
    · rw [if_neg z]
      have : exF (lenD d) (d 1) p i = exD d p i := rfl
      omega
  have hl : ∀ w, 0 ≤ w → w < d 0 → 0 ≤ lenD d w ∧ lenD d w ≤ 8 := fun w a b => by have := hw.2.2 w a b; unfold lenD; omega
  have hc := colF_bdn (j := i) hxx hl h0 h1 (show g ≤ d 0 by omega)
  have hlg := hl g (by omega) (by omega)
  have hg := gwF_bd (x := lexF (lenD d) (d 1) (d 0) p i) (i := p) (j := i) (w := g) hxx (by omega)
  unfold lgc lgw lcol wdF
  rw [if_pos (by omega)]
  omega
